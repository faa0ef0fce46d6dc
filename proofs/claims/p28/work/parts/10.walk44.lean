abbrev aU5 (cI cC cZ cB cJ : ClassId) (a_m nY sJ eG iY lY jR jW jZ jO oQ bR aY jQ gY iJ mQ lJ jA bG mK jB mW mJ eJ dG : Nat) (bT aG jC bL bY : Int32) (jD : Nat) (mLn oF rP dQ aJ aB bW bZ aR aE bI aW bU fJ dO bM bQ bO jY oX : Int32) (qG m_x gR pW qR nG oO pJ qO sW qQ sH uE oJ vK : Nat -> Int32) : va_W := [(a_m, .inr (10, [.ref nY, .int bT, .ref sJ, .ref eG, .ref iY, .ref lY, .int aG, .ref jR, .ref jW, .ref jZ, .ref jO, .int jC, .ref oQ, .int bL, .int bY, rdv jO jQ jD, .int mLn, .int oF, .int rP, .int dQ, .ref bR, .ref aY, .int aJ, .int aB, .ref jQ, .int bW, .int bZ, .int aR, .int aE, .int bI, .int aW, .ref gY, .int bU, .ref iJ, .ref mQ, .int fJ, .ref lJ, .int dO, .ref jA, .ref bG, .int bM, .int bQ, .int bO, .ref mK, .ref jB, .ref mW, .int jY, .int oX, .ref mJ, .ref eJ, .ref dG])), (nY, .inl (cI, 21, .inl qG)), (sJ, .inl (cI, 16, .inl m_x)), (eG, .inl (cI, 16, .inl gR)), (iY, .inl (cI, 16, .inl pW)), (lY, .inl (cI, 16, .inl qR)), (jR, .inl (cI, 8, .inl nG)), (jW, .inl (cI, 8, .inl oO)), (jZ, .inl (cI, 5, .inl pJ)), (jO, .inl (cB, 80, .inl qO)), (oQ, .inl (cI, 32, .inl sW)), (jQ, .inl (cB, 40, .inl qQ)), (lJ, .inl (cI, 8, .inl sH)), (jA, .inl (cI, 2304, .inl uE)), (bG, .inl (cI, 128, .inl oJ)), (mK, .inl (cI, 8, .inl vK))]
abbrev q_X10_work (dC : Nat -> ClassId) (dI : Nat -> Nat -> Nat) (cI cC cZ cB cJ : ClassId) (A : Nat -> Prop) (a_m nY sJ eG iY lY jR jW jZ jO oQ bR aY jQ gY iJ mQ lJ jA bG mK jB mW mJ eJ dG : Nat) (bT aG jC aJ aB bW bU fJ jY oX : Int32) (qG m_x gR pW qR nG oO pJ qO qQ : Nat -> Int32) (post : Int32 -> Int32 -> Int32 -> Nat -> Int32 -> Int32 -> Int32 -> Int32 -> Int32 -> Int32 -> Int32 -> Int32 -> Int32 -> Int32 -> Int32 -> Int32 -> Int32 -> (Nat -> Int32) -> (Nat -> Int32) -> (Nat -> Int32) -> (Nat -> Int32) -> (Nat -> Int32) -> Prop) : Array Value -> State -> Outcome -> State -> Prop := va_Qi (fun (r : Int32) (u : Int32 × Int32 × Nat × Int32 × Int32 × Int32 × Int32 × Int32 × Int32 × Int32 × Int32 × Int32 × Int32 × Int32 × Int32 × Int32 × (Nat -> Int32) × (Nat -> Int32) × (Nat -> Int32) × (Nat -> Int32) × (Nat -> Int32)) => post r u.1 u.2.1 u.2.2.1 u.2.2.2.1 u.2.2.2.2.1 u.2.2.2.2.2.1 u.2.2.2.2.2.2.1 u.2.2.2.2.2.2.2.1 u.2.2.2.2.2.2.2.2.1 u.2.2.2.2.2.2.2.2.2.1 u.2.2.2.2.2.2.2.2.2.2.1 u.2.2.2.2.2.2.2.2.2.2.2.1 u.2.2.2.2.2.2.2.2.2.2.2.2.1 u.2.2.2.2.2.2.2.2.2.2.2.2.2.1 u.2.2.2.2.2.2.2.2.2.2.2.2.2.2.1 u.2.2.2.2.2.2.2.2.2.2.2.2.2.2.2.1 u.2.2.2.2.2.2.2.2.2.2.2.2.2.2.2.2.1 u.2.2.2.2.2.2.2.2.2.2.2.2.2.2.2.2.2.1 u.2.2.2.2.2.2.2.2.2.2.2.2.2.2.2.2.2.2.1 u.2.2.2.2.2.2.2.2.2.2.2.2.2.2.2.2.2.2.2.1 u.2.2.2.2.2.2.2.2.2.2.2.2.2.2.2.2.2.2.2.2) (fun u t => gB (dC, dI) (tyl cI cC cZ cB cJ) A (aU5 cI cC cZ cB cJ a_m nY sJ eG iY lY jR jW jZ jO oQ bR aY jQ gY iJ mQ lJ jA bG mK jB mW mJ eJ dG bT aG jC u.1 u.2.1 u.2.2.1 u.2.2.2.1 u.2.2.2.2.1 u.2.2.2.2.2.1 u.2.2.2.2.2.2.1 aJ aB bW u.2.2.2.2.2.2.2.1 u.2.2.2.2.2.2.2.2.1 u.2.2.2.2.2.2.2.2.2.1 u.2.2.2.2.2.2.2.2.2.2.1 u.2.2.2.2.2.2.2.2.2.2.2.1 bU fJ u.2.2.2.2.2.2.2.2.2.2.2.2.1 u.2.2.2.2.2.2.2.2.2.2.2.2.2.1 u.2.2.2.2.2.2.2.2.2.2.2.2.2.2.1 u.2.2.2.2.2.2.2.2.2.2.2.2.2.2.2.1 jY oX qG m_x gR pW qR nG oO pJ qO u.2.2.2.2.2.2.2.2.2.2.2.2.2.2.2.2.1 qQ u.2.2.2.2.2.2.2.2.2.2.2.2.2.2.2.2.2.1 u.2.2.2.2.2.2.2.2.2.2.2.2.2.2.2.2.2.2.1 u.2.2.2.2.2.2.2.2.2.2.2.2.2.2.2.2.2.2.2.1 u.2.2.2.2.2.2.2.2.2.2.2.2.2.2.2.2.2.2.2.2) t) A
abbrev rm_X10_work : Room := { frames := 267, cells := 0, slots := 0, locals := 8804 }
def wp_X10_work (post : Int32 -> Int32 -> Int32 -> Nat -> Int32 -> Int32 -> Int32 -> Int32 -> Int32 -> Int32 -> Int32 -> Int32 -> Int32 -> Int32 -> Int32 -> Int32 -> Int32 -> (Nat -> Int32) -> (Nat -> Int32) -> (Nat -> Int32) -> (Nat -> Int32) -> (Nat -> Int32) -> Prop) (p0 bT aG bL bY : Int32) (jD : Nat) (mLn oF rP dQ bW bZ aR aE bI aW dO bM bQ bO : Int32) (qG m_x gR pW qR nG oO pJ qO sW qQ sH uE oJ vK : Nat -> Int32) : Prop := aGu (fun r_1 => aJY (fun r_2 => (¬ r_2 = 0 -> aJm (fun aC5 aF5 => wp_X10_layMoves (fun m_moves_5 => wp_X10_laySeconds (fun aYz aPQ m_top_8 aIj aEq aKS aHJ aFZ aH3 aHI aRb => wp_X10_workOf (fun r_17 aLs aLt aLr m_load_21 => aDs (fun m_rowMany_22 m_row_23 => aDs (fun m_rowMany_24 m_row_25 => aDs (fun m_rowMany_26 m_row_27 => post r_17 m_rowMany_26 0 aYz aPQ m_top_8 aIj aEq aKS aHJ aFZ aH3 aHI aC5 aLs aLt aLr m_row_27 aF5 m_moves_5 aRb m_load_21) aLr m_rowMany_24 m_row_25) aLt m_rowMany_22 m_row_23) aLs 0 sW) p0 bT aG aC5 bM bQ bO qG oO pJ aF5 m_moves_5 aRb vK) bT aG jD mLn oF rP dQ bW bZ aR aE bI aW m_x gR pW nG oO qO qQ oJ) aG nG pJ uE) bT aG dO qG m_x gR qR nG oO pJ sH) /\ (r_2 = 0 -> post (-1) bL 0 jD mLn oF rP dQ bZ aR aE bI aW dO bM bQ bO sW sH uE oJ vK)) p0 0 r_1) aG
set_option maxHeartbeats 4000000 in
set_option maxRecDepth 100000 in
theorem c_X10_work (l : Launch) (dC : Nat -> ClassId) (dI : Nat -> Nat -> Nat) (cI cC cZ cB cJ : ClassId) (a_m nY sJ eG iY lY jR jW jZ jO oQ bR aY jQ gY iJ mQ lJ jA bG mK jB mW mJ eJ dG sz : Nat) (p0 bT aG jC bL bY : Int32) (jD : Nat) (mLn oF rP dQ aJ aB bW bZ aR aE bI aW bU fJ dO bM bQ bO jY oX : Int32) (qG m_x gR pW qR nG oO pJ qO sW qQ sH uE oJ vK : Nat -> Int32) (post : Int32 -> Int32 -> Int32 -> Nat -> Int32 -> Int32 -> Int32 -> Int32 -> Int32 -> Int32 -> Int32 -> Int32 -> Int32 -> Int32 -> Int32 -> Int32 -> Int32 -> (Nat -> Int32) -> (Nat -> Int32) -> (Nat -> Int32) -> (Nat -> Int32) -> (Nat -> Int32) -> Prop) (hw : wp_X10_work post p0 bT aG bL bY jD mLn oF rP dQ bW bZ aR aE bI aW dO bM bQ bO qG m_x gR pW qR nG oO pJ qO sW qQ sH uE oJ vK) : Met l yX10_work (gw yX10_work aJB 3 (some .int)) rm_X10_work (va_Pc [.ref a_m, .int p0] (gPre (dC, dI) (tyl cI cC cZ cB cJ) (aU5 cI cC cZ cB cJ a_m nY sJ eG iY lY jR jW jZ jO oQ bR aY jQ gY iJ mQ lJ jA bG mK jB mW mJ eJ dG bT aG jC bL bY jD mLn oF rP dQ aJ aB bW bZ aR aE bI aW bU fJ dO bM bQ bO jY oX qG m_x gR pW qR nG oO pJ qO sW qQ sH uE oJ vK) sz)) (q_X10_work dC dI cI cC cZ cB cJ (va_A (aU5 cI cC cZ cB cJ a_m nY sJ eG iY lY jR jW jZ jO oQ bR aY jQ gY iJ mQ lJ jA bG mK jB mW mJ eJ dG bT aG jC bL bY jD mLn oF rP dQ aJ aB bW bZ aR aE bI aW bU fJ dO bM bQ bO jY oX qG m_x gR pW qR nG oO pJ qO sW qQ sH uE oJ vK) sz) a_m nY sJ eG iY lY jR jW jZ jO oQ bR aY jQ gY iJ mQ lJ jA bG mK jB mW mJ eJ dG bT aG jC aJ aB bW bU fJ jY oX qG m_x gR pW qR nG oO pJ qO qQ post) 0 0 (va_A (aU5 cI cC cZ cB cJ a_m nY sJ eG iY lY jR jW jZ jO oQ bR aY jQ gY iJ mQ lJ jA bG mK jB mW mJ eJ dG bT aG jC bL bY jD mLn oF rP dQ aJ aB bW bZ aR aE bI aW bU fJ dO bM bQ bO jY oX qG m_x gR pW qR nG oO pJ qO sW qQ sH uE oJ vK) sz) := by
  refine aBJ (own := zX) (dC, dI) (tyl cI cC cZ cB cJ) (aU5 cI cC cZ cB cJ a_m nY sJ eG iY lY jR jW jZ jO oQ bR aY jQ gY iJ mQ lJ jA bG mK jB mW mJ eJ dG bT aG jC bL bY jD mLn oF rP dQ aJ aB bW bZ aR aE bI aW bU fJ dO bM bQ bO jY oX qG m_x gR pW qR nG oO pJ qO sW qQ sH uE oJ vK) sz [.ref a_m, .int p0] (fun A => q_X10_work dC dI cI cC cZ cB cJ A a_m nY sJ eG iY lY jR jW jZ jO oQ bR aY jQ gY iJ mQ lJ jA bG mK jB mW mJ eJ dG bT aG jC aJ aB bW bU fJ jY oX qG m_x gR pW qR nG oO pJ qO qQ post) aFY rfl (lbz rfl) ?_
  intro p e s m args below meth c A H locs ls C0 hP hD hS hl
  have hl : lv_has ls 3 [(0, .ref a_m), (1, .int p0)] := hl
  obtain ⟨hx, hb, hr, hml, hown, hts, hlocks, hA, hK, hN, tL, tM, hZL, hTL, hZM, hTM, hZX⟩ := id C0
  have hp := hw
  unfold wp_X10_work at hp
  refine lv_aload_n hx hb eX10_work_0.1 rfl (lv_at hl 0 rfl) ?_
  refine lv_iconst (v := 0) hx hb eX10_work_0.2.1 aCi ?_
  refine va_put (D := (dC, dI)) (ci := 10) (v := .int 0) (ty := .int) (C := zX) (T := aBe) (N := 51) hx hb hts aAt aD2 aAa aEC hown hK hP hD hS 0 rfl rfl 14 (lbz rfl) (hts _ q_638) (fun _ h9 => h9) rfl (aAa 14 (lbz rfl)) rfl rfl (lbz rfl) eX10_work_0.2.2.1 (fun H locs hP hD hS => ?_)
  have hPD := PDw (ws' := (aU5 cI cC cZ cB cJ a_m nY sJ eG iY lY jR jW jZ jO oQ bR aY jQ gY iJ mQ lJ jA bG mK jB mW mJ eJ dG bT aG jC bL 0 jD mLn oF rP dQ aJ aB bW bZ aR aE bI aW bU fJ dO bM bQ bO jY oX qG m_x gR pW qR nG oO pJ qO sW qQ sH uE oJ vK)) hP hD rfl
  have hP := hPD.1
  have hD := hPD.2
  refine lv_iload_n hx hb eX10_work_0.2.2.2.1 rfl (lv_at hl 1 rfl) ?_
  refine lv_iconst (v := 0) hx hb eX10_work_0.2.2.2.2.1 aCi ?_
  refine lv_aload_n hx hb eX10_work_0.2.2.2.2.2.1 rfl (lv_at hl 0 rfl) ?_
  have hm := mgk (wc := (aGj cI cC cZ cB cJ a_m nY sJ eG iY lY jR jW jZ jO oQ bR aY jQ gY iJ mQ lJ jA bG mK jB mW mJ eJ dG bT aG jC bL 0 jD mLn oF rP dQ aJ aB bW bZ aR aE bI aW bU fJ dO bM bQ bO jY oX)) hP mk_267 16 rfl rfl rfl
  refine yW hP hD hS hA (yS mk_267) (aAi mk_267) hm.1 hm.2 (aAk _) (zW _) (zF (As := []) (rest := [.int 0, .int p0]) C0 hP hD hS (yS mk_267) hm.1 (aAl _) 0 10 rfl rfl (aKY l dC dI cI cC cZ cB cJ a_m nY sJ eG iY lY jR jW jZ jO oQ bR aY jQ gY iJ mQ lJ jA bG mK jB mW mJ eJ dG H.size bT aG jC bL 0 jD mLn oF rP dQ aJ aB bW bZ aR aE bI aW bU fJ dO bM bQ bO jY oX _ hp) q_870 q_873 q_871 q_872 aBL aKa rfl rfl ⟨lbz rfl, lbz rfl⟩ rfl rfl hl.1 rfl (lv_room (lbz rfl)) eX10_work_0.2.2.2.2.2.2.1 ⟨Nat.zero_le _, Nat.zero_le _⟩) (fun r_1 u H locs hp hP hD hS => ?_)
  have hPD := PDm (ws' := (aU5 cI cC cZ cB cJ a_m nY sJ eG iY lY jR jW jZ jO oQ bR aY jQ gY iJ mQ lJ jA bG mK jB mW mJ eJ dG bT aG jC bL 0 jD mLn oF rP dQ aJ aB bW bZ aR aE bI aW bU fJ dO bM bQ bO jY oX qG m_x gR pW qR nG oO pJ qO sW qQ sH uE oJ vK)) hP hD 16 rfl rfl rfl
  have hP := hPD.1
  have hD := hPD.2
  have hm := mgk (wc := (aKW cI cC cZ cB cJ)) hP mk_268 16 rfl rfl rfl
  refine yW hP hD hS hA (yS mk_268) (aAi mk_268) hm.1 hm.2 (aAk _) (zW _) (aDn (As := [.int p0, .int 0, .int r_1]) (rest := []) C0 hP hD hS (yS mk_268) hm.1 (aAl _) (aRu l dC dI cI cC cZ cB cJ H.size p0 0 r_1 _ hp) q_641 q_644 q_643 aBL aRx rfl rfl ⟨lbz rfl, lbz rfl⟩ rfl rfl hl.1 rfl (lv_room (lbz rfl)) eX10_work_0.2.2.2.2.2.2.2.1 ⟨Nat.zero_le _, Nat.zero_le _⟩) (fun r_2 u H locs hp hP hD hS => ?_)
  have hPD := PDm (ws' := (aU5 cI cC cZ cB cJ a_m nY sJ eG iY lY jR jW jZ jO oQ bR aY jQ gY iJ mQ lJ jA bG mK jB mW mJ eJ dG bT aG jC bL 0 jD mLn oF rP dQ aJ aB bW bZ aR aE bI aW bU fJ dO bM bQ bO jY oX qG m_x gR pW qR nG oO pJ qO sW qQ sH uE oJ vK)) hP hD 16 rfl rfl rfl
  have hP := hPD.1
  have hD := hPD.2
  refine lv_if_ne (tgt := 19) hx hb eX10_work_0.2.2.2.2.2.2.2.2.1 (by decide) (fun hc => ?_) (fun hc => ?_)
  · have hp := hp.1 hc
    refine lv_aload_n hx hb aWa.2.1 rfl (lv_at hl 0 rfl) ?_
    have hm := mgk (wc := (aIe cI cC cZ cB cJ a_m nY sJ eG iY lY jR jW jZ jO oQ bR aY jQ gY iJ mQ lJ jA bG mK jB mW mJ eJ dG bT aG jC bL 0 jD mLn oF rP dQ aJ aB bW bZ aR aE bI aW bU fJ dO bM bQ bO jY oX qG m_x gR qR nG oO pJ sH)) hP mk_269 16 rfl rfl rfl
    refine aBn hP hD hS hA (yS mk_269) (aAi mk_269) hm.1 hm.2 (aAk _) (zW _) (zF (As := []) (rest := []) C0 hP hD hS (yS mk_269) hm.1 (aAl _) 0 10 rfl rfl (aPr l dC dI cI cC cZ cB cJ a_m nY sJ eG iY lY jR jW jZ jO oQ bR aY jQ gY iJ mQ lJ jA bG mK jB mW mJ eJ dG H.size bT aG jC bL 0 jD mLn oF rP dQ aJ aB bW bZ aR aE bI aW bU fJ dO bM bQ bO jY oX qG m_x gR qR nG oO pJ sH _ hp) q_883 q_886 q_884 q_885 aBL aQ3 rfl rfl ⟨lbz rfl, lbz rfl⟩ rfl rfl hl.1 rfl (lv_room (lbz rfl)) aWa.2.2.1 ⟨Nat.zero_le _, Nat.zero_le _⟩) (fun u H locs hp hP hD hS => ?_)
    obtain ⟨aC5, aF5⟩ := u
    have hPD := PDm (ws' := (aU5 cI cC cZ cB cJ a_m nY sJ eG iY lY jR jW jZ jO oQ bR aY jQ gY iJ mQ lJ jA bG mK jB mW mJ eJ dG bT aG jC bL 0 jD mLn oF rP dQ aJ aB bW bZ aR aE bI aW bU fJ aC5 bM bQ bO jY oX qG m_x gR pW qR nG oO pJ qO sW qQ aF5 uE oJ vK)) hP hD 16 rfl rfl rfl
    have hP := hPD.1
    have hD := hPD.2
    refine lv_aload_n hx hb aWa.2.2.2.1 rfl (lv_at hl 0 rfl) ?_
    have hm := mgk (wc := (aBr cI cC cZ cB cJ a_m nY sJ eG iY lY jR jW jZ jO oQ bR aY jQ gY iJ mQ lJ jA bG mK jB mW mJ eJ dG bT aG jC bL 0 jD mLn oF rP dQ aJ aB bW bZ aR aE bI aW bU fJ aC5 bM bQ bO jY oX nG pJ uE)) hP mk_270 16 rfl rfl rfl
    refine aBn hP hD hS hA (yS mk_270) (aAi mk_270) hm.1 hm.2 (aAk _) (zW _) (zF (As := []) (rest := []) C0 hP hD hS (yS mk_270) hm.1 (aAl _) 0 10 rfl rfl (c_X10_layMoves l dC dI cI cC cZ cB cJ a_m nY sJ eG iY lY jR jW jZ jO oQ bR aY jQ gY iJ mQ lJ jA bG mK jB mW mJ eJ dG H.size bT aG jC bL 0 jD mLn oF rP dQ aJ aB bW bZ aR aE bI aW bU fJ aC5 bM bQ bO jY oX nG pJ uE _ hp) q_916 q_919 q_917 q_918 aBL h_X10_layMoves rfl rfl ⟨lbz rfl, lbz rfl⟩ rfl rfl hl.1 rfl (lv_room (lbz rfl)) aWa.2.2.2.2.1 ⟨Nat.zero_le _, Nat.zero_le _⟩) (fun u H locs hp hP hD hS => ?_)
    obtain ⟨m_moves_5, rfl⟩ : ∃ z, z = u := ⟨_, rfl⟩
    have hPD := PDm (ws' := (aU5 cI cC cZ cB cJ a_m nY sJ eG iY lY jR jW jZ jO oQ bR aY jQ gY iJ mQ lJ jA bG mK jB mW mJ eJ dG bT aG jC bL 0 jD mLn oF rP dQ aJ aB bW bZ aR aE bI aW bU fJ aC5 bM bQ bO jY oX qG m_x gR pW qR nG oO pJ qO sW qQ aF5 m_moves_5 oJ vK)) hP hD 16 rfl rfl rfl
    have hP := hPD.1
    have hD := hPD.2
    refine lv_aload_n hx hb aWa.2.2.2.2.2.1 rfl (lv_at hl 0 rfl) ?_
    have hm := mgk (wc := (aFU cI cC cZ cB cJ a_m nY sJ eG iY lY jR jW jZ jO oQ bR aY jQ gY iJ mQ lJ jA bG mK jB mW mJ eJ dG bT aG jC bL 0 jD mLn oF rP dQ aJ aB bW bZ aR aE bI aW bU fJ aC5 bM bQ bO jY oX m_x gR pW nG oO qO qQ oJ)) hP mk_271 16 rfl rfl rfl
    refine aBn hP hD hS hA (yS mk_271) (aAi mk_271) hm.1 hm.2 (aAk _) (zW _) (zF (As := []) (rest := []) C0 hP hD hS (yS mk_271) hm.1 (aAl _) 0 10 rfl rfl (c_X10_laySeconds l dC dI cI cC cZ cB cJ a_m nY sJ eG iY lY jR jW jZ jO oQ bR aY jQ gY iJ mQ lJ jA bG mK jB mW mJ eJ dG H.size bT aG jC bL 0 jD mLn oF rP dQ aJ aB bW bZ aR aE bI aW bU fJ aC5 bM bQ bO jY oX m_x gR pW nG oO qO qQ oJ _ hp) q_933 q_936 q_934 q_935 aBL h_X10_laySeconds rfl rfl ⟨lbz rfl, lbz rfl⟩ rfl rfl hl.1 rfl (lv_room (lbz rfl)) aWa.2.2.2.2.2.2.1 ⟨Nat.zero_le _, Nat.zero_le _⟩) (fun u H locs hp hP hD hS => ?_)
    obtain ⟨aYz, aPQ, m_top_8, aIj, aEq, aKS, aHJ, aFZ, aH3, aHI, aRb⟩ := u
    have hPD := PDm (ws' := (aU5 cI cC cZ cB cJ a_m nY sJ eG iY lY jR jW jZ jO oQ bR aY jQ gY iJ mQ lJ jA bG mK jB mW mJ eJ dG bT aG jC bL 0 aYz aPQ m_top_8 aIj aEq aJ aB bW aKS aHJ aFZ aH3 aHI bU fJ aC5 bM bQ bO jY oX qG m_x gR pW qR nG oO pJ qO sW qQ aF5 m_moves_5 aRb vK)) hP hD 16 rfl rfl rfl
    have hP := hPD.1
    have hD := hPD.2
    refine lv_aload_n hx hb aWa.2.2.2.2.2.2.2.1 rfl (lv_at hl 0 rfl) ?_
    refine lv_iload_n hx hb aWa.2.2.2.2.2.2.2.2.1 rfl (lv_at hl 1 rfl) ?_
    have hm := mgk (wc := (aCL cI cC cZ cB cJ a_m nY sJ eG iY lY jR jW jZ jO oQ bR aY jQ gY iJ mQ lJ jA bG mK jB mW mJ eJ dG bT aG jC bL 0 aYz aPQ m_top_8 aIj aEq aJ aB bW aKS aHJ aFZ aH3 aHI bU fJ aC5 bM bQ bO jY oX qG oO pJ aF5 m_moves_5 aRb vK)) hP mk_272 16 rfl rfl rfl
    refine yW hP hD hS hA (yS mk_272) (aAi mk_272) hm.1 hm.2 (aAk _) (zW _) (zF (As := [.int p0]) (rest := []) C0 hP hD hS (yS mk_272) hm.1 (aAl _) 0 10 rfl rfl (c_X10_workOf l dC dI cI cC cZ cB cJ a_m nY sJ eG iY lY jR jW jZ jO oQ bR aY jQ gY iJ mQ lJ jA bG mK jB mW mJ eJ dG H.size p0 bT aG jC bL 0 aYz aPQ m_top_8 aIj aEq aJ aB bW aKS aHJ aFZ aH3 aHI bU fJ aC5 bM bQ bO jY oX qG oO pJ aF5 m_moves_5 aRb vK _ hp) q_937 q_940 q_938 q_939 aBL h_X10_workOf rfl rfl ⟨lbz rfl, lbz rfl⟩ rfl rfl hl.1 rfl (lv_room (lbz rfl)) aWa.2.2.2.2.2.2.2.2.2.1 ⟨Nat.zero_le _, Nat.zero_le _⟩) (fun r_17 u H locs hp hP hD hS => ?_)
    obtain ⟨aLs, aLt, aLr, m_load_21⟩ := u
    have hPD := PDm (ws' := (aU5 cI cC cZ cB cJ a_m nY sJ eG iY lY jR jW jZ jO oQ bR aY jQ gY iJ mQ lJ jA bG mK jB mW mJ eJ dG bT aG jC bL 0 aYz aPQ m_top_8 aIj aEq aJ aB bW aKS aHJ aFZ aH3 aHI bU fJ aC5 aLs aLt aLr jY oX qG m_x gR pW qR nG oO pJ qO sW qQ aF5 m_moves_5 aRb m_load_21)) hP hD 16 rfl rfl rfl
    have hP := hPD.1
    have hD := hPD.2
    refine lv_istore_n (lv' := [(2, .int r_17), (0, .ref a_m), (1, .int p0)]) hx hb aWa.2.2.2.2.2.2.2.2.2.2.1 rfl hl (by decide) rfl (fun ls hl => ?_)
    refine lv_aload_n hx hb aWa.2.2.2.2.2.2.2.2.2.2.2.1 rfl (lv_at hl 1 rfl) ?_
    refine lv_iconst (v := 0) hx hb aWa.2.2.2.2.2.2.2.2.2.2.2.2.1 aCi ?_
    refine va_put (D := (dC, dI)) (ci := 10) (v := .int 0) (ty := .int) (C := zX) (T := aBe) (N := 51) hx hb hts aAt aD2 aAa aEC hown hK hP hD hS 0 rfl rfl 13 (lbz rfl) (hts _ q_847) (fun _ h9 => h9) rfl (aAa 13 (lbz rfl)) rfl rfl (lbz rfl) aWa.2.2.2.2.2.2.2.2.2.2.2.2.2.1 (fun H locs hP hD hS => ?_)
    have hPD := PDw (ws' := (aU5 cI cC cZ cB cJ a_m nY sJ eG iY lY jR jW jZ jO oQ bR aY jQ gY iJ mQ lJ jA bG mK jB mW mJ eJ dG bT aG jC 0 0 aYz aPQ m_top_8 aIj aEq aJ aB bW aKS aHJ aFZ aH3 aHI bU fJ aC5 aLs aLt aLr jY oX qG m_x gR pW qR nG oO pJ qO sW qQ aF5 m_moves_5 aRb m_load_21)) hP hD rfl
    have hP := hPD.1
    have hD := hPD.2
    refine lv_aload_n hx hb aWa.2.2.2.2.2.2.2.2.2.2.2.2.2.2.1 rfl (lv_at hl 1 rfl) ?_
    refine lv_aload_n hx hb aWa.2.2.2.2.2.2.2.2.2.2.2.2.2.2.2 rfl (lv_at hl 1 rfl) ?_
    refine va_get (D := (dC, dI)) (ci := 10) (v := .int aLs) (C := zX) (T := aBe) (N := 51) hx hb hts aAt hown hK hP 0 rfl rfl 40 (lbz rfl) (hts _ q_929) (fun _ h9 => h9) rfl eX10_work_44.1 ?_
    have hm := mgk (wc := (aD0 cI cC cZ cB cJ a_m nY sJ eG iY lY jR jW jZ jO oQ bR aY jQ gY iJ mQ lJ jA bG mK jB mW mJ eJ dG bT aG jC 0 0 aYz aPQ m_top_8 aIj aEq aJ aB bW aKS aHJ aFZ aH3 aHI bU fJ aC5 aLs aLt aLr jY oX sW)) hP mk_273 16 rfl rfl rfl
    refine aBn hP hD hS hA (yS mk_273) (aAi mk_273) hm.1 hm.2 (aAk _) (zW _) (zF (As := [.int aLs]) (rest := []) C0 hP hD hS (yS mk_273) hm.1 (aAl _) 0 10 rfl rfl (aGE l dC dI cI cC cZ cB cJ a_m nY sJ eG iY lY jR jW jZ jO oQ bR aY jQ gY iJ mQ lJ jA bG mK jB mW mJ eJ dG H.size aLs bT aG jC 0 0 aYz aPQ m_top_8 aIj aEq aJ aB bW aKS aHJ aFZ aH3 aHI bU fJ aC5 aLs aLt aLr jY oX sW _ hp) q_849 q_852 q_850 q_851 aBL aGF rfl rfl ⟨lbz rfl, lbz rfl⟩ rfl rfl hl.1 rfl (lv_room (lbz rfl)) eX10_work_44.2.1 ⟨Nat.zero_le _, Nat.zero_le _⟩) (fun u H locs hp hP hD hS => ?_)
    obtain ⟨m_rowMany_22, m_row_23⟩ := u
    have hPD := PDm (ws' := (aU5 cI cC cZ cB cJ a_m nY sJ eG iY lY jR jW jZ jO oQ bR aY jQ gY iJ mQ lJ jA bG mK jB mW mJ eJ dG bT aG jC m_rowMany_22 0 aYz aPQ m_top_8 aIj aEq aJ aB bW aKS aHJ aFZ aH3 aHI bU fJ aC5 aLs aLt aLr jY oX qG m_x gR pW qR nG oO pJ qO m_row_23 qQ aF5 m_moves_5 aRb m_load_21)) hP hD 16 rfl rfl rfl
    have hP := hPD.1
    have hD := hPD.2
    refine lv_aload_n hx hb eX10_work_44.2.2.1 rfl (lv_at hl 1 rfl) ?_
    refine lv_aload_n hx hb eX10_work_44.2.2.2.1 rfl (lv_at hl 1 rfl) ?_
    refine va_get (D := (dC, dI)) (ci := 10) (v := .int aLt) (C := zX) (T := aBe) (N := 51) hx hb hts aAt hown hK hP 0 rfl rfl 41 (lbz rfl) (hts _ q_930) (fun _ h9 => h9) rfl eX10_work_44.2.2.2.2.1 ?_
    have hm := mgk (wc := (aD0 cI cC cZ cB cJ a_m nY sJ eG iY lY jR jW jZ jO oQ bR aY jQ gY iJ mQ lJ jA bG mK jB mW mJ eJ dG bT aG jC m_rowMany_22 0 aYz aPQ m_top_8 aIj aEq aJ aB bW aKS aHJ aFZ aH3 aHI bU fJ aC5 aLs aLt aLr jY oX m_row_23)) hP mk_273 16 rfl rfl rfl
    refine aBn hP hD hS hA (yS mk_273) (aAi mk_273) hm.1 hm.2 (aAk _) (zW _) (zF (As := [.int aLt]) (rest := []) C0 hP hD hS (yS mk_273) hm.1 (aAl _) 0 10 rfl rfl (aGE l dC dI cI cC cZ cB cJ a_m nY sJ eG iY lY jR jW jZ jO oQ bR aY jQ gY iJ mQ lJ jA bG mK jB mW mJ eJ dG H.size aLt bT aG jC m_rowMany_22 0 aYz aPQ m_top_8 aIj aEq aJ aB bW aKS aHJ aFZ aH3 aHI bU fJ aC5 aLs aLt aLr jY oX m_row_23 _ hp) q_849 q_852 q_850 q_851 aBL aGF rfl rfl ⟨lbz rfl, lbz rfl⟩ rfl rfl hl.1 rfl (lv_room (lbz rfl)) eX10_work_44.2.2.2.2.2.1 ⟨Nat.zero_le _, Nat.zero_le _⟩) (fun u H locs hp hP hD hS => ?_)
    obtain ⟨m_rowMany_24, m_row_25⟩ := u
    have hPD := PDm (ws' := (aU5 cI cC cZ cB cJ a_m nY sJ eG iY lY jR jW jZ jO oQ bR aY jQ gY iJ mQ lJ jA bG mK jB mW mJ eJ dG bT aG jC m_rowMany_24 0 aYz aPQ m_top_8 aIj aEq aJ aB bW aKS aHJ aFZ aH3 aHI bU fJ aC5 aLs aLt aLr jY oX qG m_x gR pW qR nG oO pJ qO m_row_25 qQ aF5 m_moves_5 aRb m_load_21)) hP hD 16 rfl rfl rfl
    have hP := hPD.1
    have hD := hPD.2
    refine lv_aload_n hx hb eX10_work_44.2.2.2.2.2.2.1 rfl (lv_at hl 1 rfl) ?_
    refine lv_aload_n hx hb eX10_work_44.2.2.2.2.2.2.2.1 rfl (lv_at hl 1 rfl) ?_
    refine va_get (D := (dC, dI)) (ci := 10) (v := .int aLr) (C := zX) (T := aBe) (N := 51) hx hb hts aAt hown hK hP 0 rfl rfl 42 (lbz rfl) (hts _ q_931) (fun _ h9 => h9) rfl eX10_work_44.2.2.2.2.2.2.2.2.1 ?_
    have hm := mgk (wc := (aD0 cI cC cZ cB cJ a_m nY sJ eG iY lY jR jW jZ jO oQ bR aY jQ gY iJ mQ lJ jA bG mK jB mW mJ eJ dG bT aG jC m_rowMany_24 0 aYz aPQ m_top_8 aIj aEq aJ aB bW aKS aHJ aFZ aH3 aHI bU fJ aC5 aLs aLt aLr jY oX m_row_25)) hP mk_273 16 rfl rfl rfl
    refine aBn hP hD hS hA (yS mk_273) (aAi mk_273) hm.1 hm.2 (aAk _) (zW _) (zF (As := [.int aLr]) (rest := []) C0 hP hD hS (yS mk_273) hm.1 (aAl _) 0 10 rfl rfl (aGE l dC dI cI cC cZ cB cJ a_m nY sJ eG iY lY jR jW jZ jO oQ bR aY jQ gY iJ mQ lJ jA bG mK jB mW mJ eJ dG H.size aLr bT aG jC m_rowMany_24 0 aYz aPQ m_top_8 aIj aEq aJ aB bW aKS aHJ aFZ aH3 aHI bU fJ aC5 aLs aLt aLr jY oX m_row_25 _ hp) q_849 q_852 q_850 q_851 aBL aGF rfl rfl ⟨lbz rfl, lbz rfl⟩ rfl rfl hl.1 rfl (lv_room (lbz rfl)) eX10_work_44.2.2.2.2.2.2.2.2.2.1 ⟨Nat.zero_le _, Nat.zero_le _⟩) (fun u H locs hp hP hD hS => ?_)
    obtain ⟨m_rowMany_26, m_row_27⟩ := u
    have hPD := PDm (ws' := (aU5 cI cC cZ cB cJ a_m nY sJ eG iY lY jR jW jZ jO oQ bR aY jQ gY iJ mQ lJ jA bG mK jB mW mJ eJ dG bT aG jC m_rowMany_26 0 aYz aPQ m_top_8 aIj aEq aJ aB bW aKS aHJ aFZ aH3 aHI bU fJ aC5 aLs aLt aLr jY oX qG m_x gR pW qR nG oO pJ qO m_row_27 qQ aF5 m_moves_5 aRb m_load_21)) hP hD 16 rfl rfl rfl
    have hP := hPD.1
    have hD := hPD.2
    refine lv_iload_n hx hb eX10_work_44.2.2.2.2.2.2.2.2.2.2.1 rfl (lv_at hl 0 rfl) ?_
    exact W.iret (v := r_17) hx hb hr (fun t ht hW => ⟨⟨r_17, (m_rowMany_26, 0, aYz, aPQ, m_top_8, aIj, aEq, aKS, aHJ, aFZ, aH3, aHI, aC5, aLs, aLt, aLr, m_row_27, aF5, m_moves_5, aRb, m_load_21), rfl, hp, by rw [ht]; exact hP, va_K.moved hW.alike hK, hD⟩, hS.F ht⟩) hS.2.2 eX10_work_44.2.2.2.2.2.2.2.2.2.2.2
  · have hp := hp.2 hc
    refine lv_iconst (v := (-1)) hx hb eX10_work_0.2.2.2.2.2.2.2.2.2 aEJ ?_
    exact W.iret (v := (-1)) hx hb hr (fun t ht hW => ⟨⟨(-1), (bL, 0, jD, mLn, oF, rP, dQ, bZ, aR, aE, bI, aW, dO, bM, bQ, bO, sW, sH, uE, oJ, vK), rfl, hp, by rw [ht]; exact hP, va_K.moved hW.alike hK, hD⟩, hS.F ht⟩) hS.2.2 aWa.1
abbrev aFg (cI cC cZ cB cJ : ClassId) (a_m nY sJ eG iY lY jR jW jZ jO oQ bR aY jQ gY iJ mQ lJ jA bG mK jB mW mJ eJ dG : Nat) (bT aG jC bL bY : Int32) (jD : Nat) (mLn oF rP dQ aJ aB bW bZ aR aE bI aW bU fJ dO bM bQ bO jY oX : Int32) (qG m_x gR pW qR nG oO pJ qO sW qQ sH uE oJ vK : Nat -> Int32) : va_W := [(a_m, .inr (10, [.ref nY, .int bT, .ref sJ, .ref eG, .ref iY, .ref lY, .int aG, .ref jR, .ref jW, .ref jZ, .ref jO, .int jC, .ref oQ, .int bL, .int bY, rdv jO jQ jD, .int mLn, .int oF, .int rP, .int dQ, .ref bR, .ref aY, .int aJ, .int aB, .ref jQ, .int bW, .int bZ, .int aR, .int aE, .int bI, .int aW, .ref gY, .int bU, .ref iJ, .ref mQ, .int fJ, .ref lJ, .int dO, .ref jA, .ref bG, .int bM, .int bQ, .int bO, .ref mK, .ref jB, .ref mW, .int jY, .int oX, .ref mJ, .ref eJ, .ref dG])), (nY, .inl (cI, 21, .inl qG)), (sJ, .inl (cI, 16, .inl m_x)), (eG, .inl (cI, 16, .inl gR)), (iY, .inl (cI, 16, .inl pW)), (lY, .inl (cI, 16, .inl qR)), (jR, .inl (cI, 8, .inl nG)), (jW, .inl (cI, 8, .inl oO)), (jZ, .inl (cI, 5, .inl pJ)), (jO, .inl (cB, 80, .inl qO)), (oQ, .inl (cI, 32, .inl sW)), (jQ, .inl (cB, 40, .inl qQ)), (lJ, .inl (cI, 8, .inl sH)), (jA, .inl (cI, 2304, .inl uE)), (bG, .inl (cI, 128, .inl oJ)), (mK, .inl (cI, 8, .inl vK))]
abbrev q_X10_soonest (dC : Nat -> ClassId) (dI : Nat -> Nat -> Nat) (cI cC cZ cB cJ : ClassId) (A : Nat -> Prop) (a_m nY sJ eG iY lY jR jW jZ jO oQ bR aY jQ gY iJ mQ lJ jA bG mK jB mW mJ eJ dG : Nat) (bT aG jC aJ aB bW bU fJ jY oX : Int32) (qG m_x gR pW qR nG oO pJ qO qQ : Nat -> Int32) (post : Int32 -> Int32 -> Int32 -> Nat -> Int32 -> Int32 -> Int32 -> Int32 -> Int32 -> Int32 -> Int32 -> Int32 -> Int32 -> Int32 -> Int32 -> Int32 -> Int32 -> (Nat -> Int32) -> (Nat -> Int32) -> (Nat -> Int32) -> (Nat -> Int32) -> (Nat -> Int32) -> Prop) : Array Value -> State -> Outcome -> State -> Prop := va_Qi (fun (r : Int32) (u : Int32 × Int32 × Nat × Int32 × Int32 × Int32 × Int32 × Int32 × Int32 × Int32 × Int32 × Int32 × Int32 × Int32 × Int32 × Int32 × (Nat -> Int32) × (Nat -> Int32) × (Nat -> Int32) × (Nat -> Int32) × (Nat -> Int32)) => post r u.1 u.2.1 u.2.2.1 u.2.2.2.1 u.2.2.2.2.1 u.2.2.2.2.2.1 u.2.2.2.2.2.2.1 u.2.2.2.2.2.2.2.1 u.2.2.2.2.2.2.2.2.1 u.2.2.2.2.2.2.2.2.2.1 u.2.2.2.2.2.2.2.2.2.2.1 u.2.2.2.2.2.2.2.2.2.2.2.1 u.2.2.2.2.2.2.2.2.2.2.2.2.1 u.2.2.2.2.2.2.2.2.2.2.2.2.2.1 u.2.2.2.2.2.2.2.2.2.2.2.2.2.2.1 u.2.2.2.2.2.2.2.2.2.2.2.2.2.2.2.1 u.2.2.2.2.2.2.2.2.2.2.2.2.2.2.2.2.1 u.2.2.2.2.2.2.2.2.2.2.2.2.2.2.2.2.2.1 u.2.2.2.2.2.2.2.2.2.2.2.2.2.2.2.2.2.2.1 u.2.2.2.2.2.2.2.2.2.2.2.2.2.2.2.2.2.2.2.1 u.2.2.2.2.2.2.2.2.2.2.2.2.2.2.2.2.2.2.2.2) (fun u t => gB (dC, dI) (tyl cI cC cZ cB cJ) A (aFg cI cC cZ cB cJ a_m nY sJ eG iY lY jR jW jZ jO oQ bR aY jQ gY iJ mQ lJ jA bG mK jB mW mJ eJ dG bT aG jC u.1 u.2.1 u.2.2.1 u.2.2.2.1 u.2.2.2.2.1 u.2.2.2.2.2.1 u.2.2.2.2.2.2.1 aJ aB bW u.2.2.2.2.2.2.2.1 u.2.2.2.2.2.2.2.2.1 u.2.2.2.2.2.2.2.2.2.1 u.2.2.2.2.2.2.2.2.2.2.1 u.2.2.2.2.2.2.2.2.2.2.2.1 bU fJ u.2.2.2.2.2.2.2.2.2.2.2.2.1 u.2.2.2.2.2.2.2.2.2.2.2.2.2.1 u.2.2.2.2.2.2.2.2.2.2.2.2.2.2.1 u.2.2.2.2.2.2.2.2.2.2.2.2.2.2.2.1 jY oX qG m_x gR pW qR nG oO pJ qO u.2.2.2.2.2.2.2.2.2.2.2.2.2.2.2.2.1 qQ u.2.2.2.2.2.2.2.2.2.2.2.2.2.2.2.2.2.1 u.2.2.2.2.2.2.2.2.2.2.2.2.2.2.2.2.2.2.1 u.2.2.2.2.2.2.2.2.2.2.2.2.2.2.2.2.2.2.2.1 u.2.2.2.2.2.2.2.2.2.2.2.2.2.2.2.2.2.2.2.2) t) A
abbrev rm_X10_soonest : Room := { frames := 267, cells := 0, slots := 0, locals := 8804 }
section S_X10_soonest
variable {p : Program} {l : Launch} {e : Env} {s : State} {m : MethodId} {args : Array Value} {below : List Frame} {meth : Method} {c : Code} {dC : Nat -> ClassId} {dI : Nat -> Nat -> Nat} {cI cC cZ cB cJ : ClassId} {A : Nat -> Prop} {a_m nY sJ eG iY lY jR jW jZ jO oQ bR aY jQ gY iJ mQ lJ jA bG mK jB mW mJ eJ dG : Nat} {bT aG jC aJ aB bW bU fJ jY oX : Int32} {qG m_x gR pW qR nG oO pJ qO qQ : Nat -> Int32} {post : Int32 -> Int32 -> Int32 -> Nat -> Int32 -> Int32 -> Int32 -> Int32 -> Int32 -> Int32 -> Int32 -> Int32 -> Int32 -> Int32 -> Int32 -> Int32 -> Int32 -> (Nat -> Int32) -> (Nat -> Int32) -> (Nat -> Int32) -> (Nat -> Int32) -> (Nat -> Int32) -> Prop}
def ws_X10_soonest_89 (post : Int32 -> Int32 -> Int32 -> Nat -> Int32 -> Int32 -> Int32 -> Int32 -> Int32 -> Int32 -> Int32 -> Int32 -> Int32 -> Int32 -> Int32 -> Int32 -> Int32 -> (Nat -> Int32) -> (Nat -> Int32) -> (Nat -> Int32) -> (Nat -> Int32) -> (Nat -> Int32) -> Prop) (K25 : Int32 -> Int32 -> Int32 -> Int32 -> Int32 -> Nat -> Int32 -> Int32 -> Int32 -> Int32 -> Int32 -> Int32 -> Int32 -> Int32 -> Int32 -> Int32 -> Int32 -> Int32 -> Int32 -> (Nat -> Int32) -> (Nat -> Int32) -> (Nat -> Int32) -> (Nat -> Int32) -> (Nat -> Int32) -> Prop) (bT aG bW : Int32) (qG m_x gR pW qR nG oO pJ qO qQ : Nat -> Int32) (x1 x2 x3 bL bY : Int32) (jD : Nat) (mLn oF rP dQ bZ aR aE bI aW dO bM bQ bO : Int32) (sW sH uE oJ vK : Nat -> Int32) : Prop := ∀ v_24 : Int32, v_24 = x3 + 1 -> K25 x1 x2 v_24 bL bY jD mLn oF rP dQ bZ aR aE bI aW dO bM bQ bO sW sH uE oJ vK
set_option maxHeartbeats 4000000 in
set_option maxRecDepth 100000 in
theorem ks_X10_soonest_89 (C0 : gc aC0 (some .int) 5 zX (dC, dI) (tyl cI cC cZ cB cJ) A p s m args meth c) {K25 : Int32 -> Int32 -> Int32 -> Int32 -> Int32 -> Nat -> Int32 -> Int32 -> Int32 -> Int32 -> Int32 -> Int32 -> Int32 -> Int32 -> Int32 -> Int32 -> Int32 -> Int32 -> Int32 -> (Nat -> Int32) -> (Nat -> Int32) -> (Nat -> Int32) -> (Nat -> Int32) -> (Nat -> Int32) -> Prop} (hK25 : ∀ (x1 : Int32) (x2 : Int32) (x3 : Int32) (bL : Int32) (bY : Int32) (jD : Nat) (mLn : Int32) (oF : Int32) (rP : Int32) (dQ : Int32) (bZ : Int32) (aR : Int32) (aE : Int32) (bI : Int32) (aW : Int32) (dO : Int32) (bM : Int32) (bQ : Int32) (bO : Int32) (sW : Nat -> Int32) (sH : Nat -> Int32) (uE : Nat -> Int32) (oJ : Nat -> Int32) (vK : Nat -> Int32) (H : Heap) (locs : List Loc) (ls : Array Slot), K25 x1 x2 x3 bL bY jD mLn oF rP dQ bZ aR aE bI aW dO bM bQ bO sW sH uE oJ vK -> va_P (dC, dI) classes (aFg cI cC cZ cB cJ a_m nY sJ eG iY lY jR jW jZ jO oQ bR aY jQ gY iJ mQ lJ jA bG mK jB mW mJ eJ dG bT aG jC bL bY jD mLn oF rP dQ aJ aB bW bZ aR aE bI aW bU fJ dO bM bQ bO jY oX qG m_x gR pW qR nG oO pJ qO sW qQ sH uE oJ vK) H -> va_D A (aFg cI cC cZ cB cJ a_m nY sJ eG iY lY jR jW jZ jO oQ bR aY jQ gY iJ mQ lJ jA bG mK jB mW mJ eJ dG bT aG jC bL bY jD mLn oF rP dQ aJ aB bW bZ aR aE bI aW bU fJ dO bM bQ bO jY oX qG m_x gR pW qR nG oO pJ qO sW qQ sH uE oJ vK) -> va_S A s.heap H locs -> lv_has ls 5 [(0, .ref a_m), (1, .int x1), (2, .int x2), (3, .int x3)] -> W p l e rm_X10_soonest s m args below meth c H locs 0 0 (MQ below (q_X10_soonest dC dI cI cC cZ cB cJ A a_m nY sJ eG iY lY jR jW jZ jO oQ bR aY jQ gY iJ mQ lJ jA bG mK jB mW mJ eJ dG bT aG jC aJ aB bW bU fJ jY oX qG m_x gR pW qR nG oO pJ qO qQ post) args s 0 0 A) (F0 m 25 ls [])) : ∀ (x1 x2 x3 bL bY : Int32) (jD : Nat) (mLn oF rP dQ bZ aR aE bI aW dO bM bQ bO : Int32) (sW sH uE oJ vK : Nat -> Int32) (H : Heap) (locs : List Loc) (ls : Array Slot), (ws_X10_soonest_89 post K25 bT aG bW qG m_x gR pW qR nG oO pJ qO qQ) x1 x2 x3 bL bY jD mLn oF rP dQ bZ aR aE bI aW dO bM bQ bO sW sH uE oJ vK -> va_P (dC, dI) classes (aFg cI cC cZ cB cJ a_m nY sJ eG iY lY jR jW jZ jO oQ bR aY jQ gY iJ mQ lJ jA bG mK jB mW mJ eJ dG bT aG jC bL bY jD mLn oF rP dQ aJ aB bW bZ aR aE bI aW bU fJ dO bM bQ bO jY oX qG m_x gR pW qR nG oO pJ qO sW qQ sH uE oJ vK) H -> va_D A (aFg cI cC cZ cB cJ a_m nY sJ eG iY lY jR jW jZ jO oQ bR aY jQ gY iJ mQ lJ jA bG mK jB mW mJ eJ dG bT aG jC bL bY jD mLn oF rP dQ aJ aB bW bZ aR aE bI aW bU fJ dO bM bQ bO jY oX qG m_x gR pW qR nG oO pJ qO sW qQ sH uE oJ vK) -> va_S A s.heap H locs -> lv_has ls 5 [(0, .ref a_m), (1, .int x1), (2, .int x2), (3, .int x3)] -> W p l e rm_X10_soonest s m args below meth c H locs 0 0 (MQ below (q_X10_soonest dC dI cI cC cZ cB cJ A a_m nY sJ eG iY lY jR jW jZ jO oQ bR aY jQ gY iJ mQ lJ jA bG mK jB mW mJ eJ dG bT aG jC aJ aB bW bU fJ jY oX qG m_x gR pW qR nG oO pJ qO qQ post) args s 0 0 A) (F0 m 89 ls []) := by
  obtain ⟨hx, hb, hr, hml, hown, hts, hlocks, hA, hK, hN, tL, tM, hZL, hTL, hZM, hTM, hZX⟩ := id C0
  intro x1 x2 x3 bL bY jD mLn oF rP dQ bZ aR aE bI aW dO bM bQ bO sW sH uE oJ vK H locs ls hp hP hD hS hl
  unfold ws_X10_soonest_89 at hp
  obtain ⟨v_24, ev_24⟩ : ∃ y : Int32, y = x3 + 1 := ⟨_, rfl⟩
  refine lv_iinc (v := v_24) (lv' := [(3, .int v_24), (0, .ref a_m), (1, .int x1), (2, .int x2)]) hx hb aYs.2.1 hl (k := 3) rfl (by rw [ev_24]; rfl) (by decide) rfl (fun ls hl => ?_)
  have hp := hp v_24 ev_24
  refine lv_goto (tgt := 25) hx hb aYs.2.2.1 (by decide) ?_
  exact hK25 x1 x2 v_24 bL bY jD mLn oF rP dQ bZ aR aE bI aW dO bM bQ bO sW sH uE oJ vK H locs ls hp hP hD hS (lv_sub hl [1, 2, 3, 0] rfl)
def ws_X10_soonest_84 (post : Int32 -> Int32 -> Int32 -> Nat -> Int32 -> Int32 -> Int32 -> Int32 -> Int32 -> Int32 -> Int32 -> Int32 -> Int32 -> Int32 -> Int32 -> Int32 -> Int32 -> (Nat -> Int32) -> (Nat -> Int32) -> (Nat -> Int32) -> (Nat -> Int32) -> (Nat -> Int32) -> Prop) (K25 : Int32 -> Int32 -> Int32 -> Int32 -> Int32 -> Nat -> Int32 -> Int32 -> Int32 -> Int32 -> Int32 -> Int32 -> Int32 -> Int32 -> Int32 -> Int32 -> Int32 -> Int32 -> Int32 -> (Nat -> Int32) -> (Nat -> Int32) -> (Nat -> Int32) -> (Nat -> Int32) -> (Nat -> Int32) -> Prop) (bT aG bW : Int32) (qG m_x gR pW qR nG oO pJ qO qQ : Nat -> Int32) (x3 x4 bL bY : Int32) (jD : Nat) (mLn oF rP dQ bZ aR aE bI aW dO bM bQ bO : Int32) (sW sH uE oJ vK : Nat -> Int32) : Prop := ws_X10_soonest_89 post K25 bT aG bW qG m_x gR pW qR nG oO pJ qO qQ x3 x4 x3 bL bY jD mLn oF rP dQ bZ aR aE bI aW dO bM bQ bO sW sH uE oJ vK
set_option maxHeartbeats 4000000 in
set_option maxRecDepth 100000 in
theorem ks_X10_soonest_84 (C0 : gc aC0 (some .int) 5 zX (dC, dI) (tyl cI cC cZ cB cJ) A p s m args meth c) {K25 : Int32 -> Int32 -> Int32 -> Int32 -> Int32 -> Nat -> Int32 -> Int32 -> Int32 -> Int32 -> Int32 -> Int32 -> Int32 -> Int32 -> Int32 -> Int32 -> Int32 -> Int32 -> Int32 -> (Nat -> Int32) -> (Nat -> Int32) -> (Nat -> Int32) -> (Nat -> Int32) -> (Nat -> Int32) -> Prop} (hK25 : ∀ (x1 : Int32) (x2 : Int32) (x3 : Int32) (bL : Int32) (bY : Int32) (jD : Nat) (mLn : Int32) (oF : Int32) (rP : Int32) (dQ : Int32) (bZ : Int32) (aR : Int32) (aE : Int32) (bI : Int32) (aW : Int32) (dO : Int32) (bM : Int32) (bQ : Int32) (bO : Int32) (sW : Nat -> Int32) (sH : Nat -> Int32) (uE : Nat -> Int32) (oJ : Nat -> Int32) (vK : Nat -> Int32) (H : Heap) (locs : List Loc) (ls : Array Slot), K25 x1 x2 x3 bL bY jD mLn oF rP dQ bZ aR aE bI aW dO bM bQ bO sW sH uE oJ vK -> va_P (dC, dI) classes (aFg cI cC cZ cB cJ a_m nY sJ eG iY lY jR jW jZ jO oQ bR aY jQ gY iJ mQ lJ jA bG mK jB mW mJ eJ dG bT aG jC bL bY jD mLn oF rP dQ aJ aB bW bZ aR aE bI aW bU fJ dO bM bQ bO jY oX qG m_x gR pW qR nG oO pJ qO sW qQ sH uE oJ vK) H -> va_D A (aFg cI cC cZ cB cJ a_m nY sJ eG iY lY jR jW jZ jO oQ bR aY jQ gY iJ mQ lJ jA bG mK jB mW mJ eJ dG bT aG jC bL bY jD mLn oF rP dQ aJ aB bW bZ aR aE bI aW bU fJ dO bM bQ bO jY oX qG m_x gR pW qR nG oO pJ qO sW qQ sH uE oJ vK) -> va_S A s.heap H locs -> lv_has ls 5 [(0, .ref a_m), (1, .int x1), (2, .int x2), (3, .int x3)] -> W p l e rm_X10_soonest s m args below meth c H locs 0 0 (MQ below (q_X10_soonest dC dI cI cC cZ cB cJ A a_m nY sJ eG iY lY jR jW jZ jO oQ bR aY jQ gY iJ mQ lJ jA bG mK jB mW mJ eJ dG bT aG jC aJ aB bW bU fJ jY oX qG m_x gR pW qR nG oO pJ qO qQ post) args s 0 0 A) (F0 m 25 ls [])) : ∀ (x3 x4 bL bY : Int32) (jD : Nat) (mLn oF rP dQ bZ aR aE bI aW dO bM bQ bO : Int32) (sW sH uE oJ vK : Nat -> Int32) (H : Heap) (locs : List Loc) (ls : Array Slot), (ws_X10_soonest_84 post K25 bT aG bW qG m_x gR pW qR nG oO pJ qO qQ) x3 x4 bL bY jD mLn oF rP dQ bZ aR aE bI aW dO bM bQ bO sW sH uE oJ vK -> va_P (dC, dI) classes (aFg cI cC cZ cB cJ a_m nY sJ eG iY lY jR jW jZ jO oQ bR aY jQ gY iJ mQ lJ jA bG mK jB mW mJ eJ dG bT aG jC bL bY jD mLn oF rP dQ aJ aB bW bZ aR aE bI aW bU fJ dO bM bQ bO jY oX qG m_x gR pW qR nG oO pJ qO sW qQ sH uE oJ vK) H -> va_D A (aFg cI cC cZ cB cJ a_m nY sJ eG iY lY jR jW jZ jO oQ bR aY jQ gY iJ mQ lJ jA bG mK jB mW mJ eJ dG bT aG jC bL bY jD mLn oF rP dQ aJ aB bW bZ aR aE bI aW bU fJ dO bM bQ bO jY oX qG m_x gR pW qR nG oO pJ qO sW qQ sH uE oJ vK) -> va_S A s.heap H locs -> lv_has ls 5 [(0, .ref a_m), (3, .int x3), (4, .int x4)] -> W p l e rm_X10_soonest s m args below meth c H locs 0 0 (MQ below (q_X10_soonest dC dI cI cC cZ cB cJ A a_m nY sJ eG iY lY jR jW jZ jO oQ bR aY jQ gY iJ mQ lJ jA bG mK jB mW mJ eJ dG bT aG jC aJ aB bW bU fJ jY oX qG m_x gR pW qR nG oO pJ qO qQ post) args s 0 0 A) (F0 m 84 ls []) := by
  obtain ⟨hx, hb, hr, hml, hown, hts, hlocks, hA, hK, hN, tL, tM, hZL, hTL, hZM, hTM, hZX⟩ := id C0
  intro x3 x4 bL bY jD mLn oF rP dQ bZ aR aE bI aW dO bM bQ bO sW sH uE oJ vK H locs ls hp hP hD hS hl
  unfold ws_X10_soonest_84 at hp
  refine lv_iload_n hx hb aN5.2.2.2.2.2.2.2.2.2.2.2.2.2.1 rfl (lv_at hl 1 rfl) ?_
  refine lv_istore_n (lv' := [(1, .int x3), (0, .ref a_m), (3, .int x3), (4, .int x4)]) hx hb aN5.2.2.2.2.2.2.2.2.2.2.2.2.2.2.1 rfl hl (by decide) rfl (fun ls hl => ?_)
  refine lv_iload hx hb aN5.2.2.2.2.2.2.2.2.2.2.2.2.2.2.2 (lv_at hl 3 rfl) ?_
  refine lv_istore_n (lv' := [(2, .int x4), (1, .int x3), (0, .ref a_m), (3, .int x3), (4, .int x4)]) hx hb aYs.1 rfl hl (by decide) rfl (fun ls hl => ?_)
  exact ks_X10_soonest_89 C0 hK25 x3 x4 x3 bL bY jD mLn oF rP dQ bZ aR aE bI aW dO bM bQ bO sW sH uE oJ vK H locs ls hp hP hD hS (lv_sub hl [2, 1, 0, 3] rfl)
def ws_X10_soonest_25 (post : Int32 -> Int32 -> Int32 -> Nat -> Int32 -> Int32 -> Int32 -> Int32 -> Int32 -> Int32 -> Int32 -> Int32 -> Int32 -> Int32 -> Int32 -> Int32 -> Int32 -> (Nat -> Int32) -> (Nat -> Int32) -> (Nat -> Int32) -> (Nat -> Int32) -> (Nat -> Int32) -> Prop) (next : Int32 -> Int32 -> Int32 -> Int32 -> Int32 -> Nat -> Int32 -> Int32 -> Int32 -> Int32 -> Int32 -> Int32 -> Int32 -> Int32 -> Int32 -> Int32 -> Int32 -> Int32 -> Int32 -> (Nat -> Int32) -> (Nat -> Int32) -> (Nat -> Int32) -> (Nat -> Int32) -> (Nat -> Int32) -> Prop) (bT aG bW : Int32) (qG m_x gR pW qR nG oO pJ qO qQ : Nat -> Int32) (x1 x2 x3 bL bY : Int32) (jD : Nat) (mLn oF rP dQ bZ aR aE bI aW dO bM bQ bO : Int32) (sW sH uE oJ vK : Nat -> Int32) : Prop := aGu (fun r_15 => (r_15 < x3 -> aDs (fun m_rowMany_16 m_row_17 => post x2 m_rowMany_16 bY jD mLn oF rP dQ bZ aR aE bI aW dO bM bQ bO m_row_17 sH uE oJ vK) x1 0 sW) /\ (¬ r_15 < x3 -> aRt (fun r_18 => ((dO &&& (r_18 ^^^ (-1))) = 0 -> wp_X10_workOf (fun r_19 aND aI4 aI3 m_load_23 => (x2 < r_19 -> ws_X10_soonest_89 post next bT aG bW qG m_x gR pW qR nG oO pJ qO qQ x1 x2 x3 bL bY jD mLn oF rP dQ bZ aR aE bI aW dO aND aI4 aI3 sW sH uE oJ m_load_23) /\ (¬ x2 < r_19 -> (¬ r_19 = x2 -> ws_X10_soonest_84 post next bT aG bW qG m_x gR pW qR nG oO pJ qO qQ x3 r_19 bL bY jD mLn oF rP dQ bZ aR aE bI aW dO aND aI4 aI3 sW sH uE oJ m_load_23) /\ (r_19 = x2 -> aBb (fun r_25 => aBb (fun r_26 => (r_25 < r_26 -> ws_X10_soonest_84 post next bT aG bW qG m_x gR pW qR nG oO pJ qO qQ x3 r_19 bL bY jD mLn oF rP dQ bZ aR aE bI aW dO aND aI4 aI3 sW sH uE oJ m_load_23) /\ (¬ r_25 < r_26 -> ws_X10_soonest_89 post next bT aG bW qG m_x gR pW qR nG oO pJ qO qQ x1 x2 x3 bL bY jD mLn oF rP dQ bZ aR aE bI aW dO aND aI4 aI3 sW sH uE oJ m_load_23)) x1) x3))) x3 bT aG dO bM bQ bO qG oO pJ sH uE oJ vK) /\ (¬ (dO &&& (r_18 ^^^ (-1))) = 0 -> ws_X10_soonest_89 post next bT aG bW qG m_x gR pW qR nG oO pJ qO qQ x1 x2 x3 bL bY jD mLn oF rP dQ bZ aR aE bI aW dO bM bQ bO sW sH uE oJ vK)) x3 aG sH)) aG
noncomputable def wb_X10_soonest_25 (post : Int32 -> Int32 -> Int32 -> Nat -> Int32 -> Int32 -> Int32 -> Int32 -> Int32 -> Int32 -> Int32 -> Int32 -> Int32 -> Int32 -> Int32 -> Int32 -> Int32 -> (Nat -> Int32) -> (Nat -> Int32) -> (Nat -> Int32) -> (Nat -> Int32) -> (Nat -> Int32) -> Prop) (bT aG bW : Int32) (qG m_x gR pW qR nG oO pJ qO qQ : Nat -> Int32) : Nat -> Int32 -> Int32 -> Int32 -> Int32 -> Int32 -> Nat -> Int32 -> Int32 -> Int32 -> Int32 -> Int32 -> Int32 -> Int32 -> Int32 -> Int32 -> Int32 -> Int32 -> Int32 -> Int32 -> (Nat -> Int32) -> (Nat -> Int32) -> (Nat -> Int32) -> (Nat -> Int32) -> (Nat -> Int32) -> Prop := fun n => Nat.rec (motive := fun _ => Int32 -> Int32 -> Int32 -> Int32 -> Int32 -> Nat -> Int32 -> Int32 -> Int32 -> Int32 -> Int32 -> Int32 -> Int32 -> Int32 -> Int32 -> Int32 -> Int32 -> Int32 -> Int32 -> (Nat -> Int32) -> (Nat -> Int32) -> (Nat -> Int32) -> (Nat -> Int32) -> (Nat -> Int32) -> Prop) (fun _ _ _ _ _ _ _ _ _ _ _ _ _ _ _ _ _ _ _ _ _ _ _ _ => False) (fun _ ih => ws_X10_soonest_25 post ih bT aG bW qG m_x gR pW qR nG oO pJ qO qQ) n
set_option maxHeartbeats 4000000 in
set_option maxRecDepth 100000 in
theorem ks_X10_soonest_25 (C0 : gc aC0 (some .int) 5 zX (dC, dI) (tyl cI cC cZ cB cJ) A p s m args meth c) {next : Int32 -> Int32 -> Int32 -> Int32 -> Int32 -> Nat -> Int32 -> Int32 -> Int32 -> Int32 -> Int32 -> Int32 -> Int32 -> Int32 -> Int32 -> Int32 -> Int32 -> Int32 -> Int32 -> (Nat -> Int32) -> (Nat -> Int32) -> (Nat -> Int32) -> (Nat -> Int32) -> (Nat -> Int32) -> Prop} (hKn : ∀ (x1 : Int32) (x2 : Int32) (x3 : Int32) (bL : Int32) (bY : Int32) (jD : Nat) (mLn : Int32) (oF : Int32) (rP : Int32) (dQ : Int32) (bZ : Int32) (aR : Int32) (aE : Int32) (bI : Int32) (aW : Int32) (dO : Int32) (bM : Int32) (bQ : Int32) (bO : Int32) (sW : Nat -> Int32) (sH : Nat -> Int32) (uE : Nat -> Int32) (oJ : Nat -> Int32) (vK : Nat -> Int32) (H : Heap) (locs : List Loc) (ls : Array Slot), next x1 x2 x3 bL bY jD mLn oF rP dQ bZ aR aE bI aW dO bM bQ bO sW sH uE oJ vK -> va_P (dC, dI) classes (aFg cI cC cZ cB cJ a_m nY sJ eG iY lY jR jW jZ jO oQ bR aY jQ gY iJ mQ lJ jA bG mK jB mW mJ eJ dG bT aG jC bL bY jD mLn oF rP dQ aJ aB bW bZ aR aE bI aW bU fJ dO bM bQ bO jY oX qG m_x gR pW qR nG oO pJ qO sW qQ sH uE oJ vK) H -> va_D A (aFg cI cC cZ cB cJ a_m nY sJ eG iY lY jR jW jZ jO oQ bR aY jQ gY iJ mQ lJ jA bG mK jB mW mJ eJ dG bT aG jC bL bY jD mLn oF rP dQ aJ aB bW bZ aR aE bI aW bU fJ dO bM bQ bO jY oX qG m_x gR pW qR nG oO pJ qO sW qQ sH uE oJ vK) -> va_S A s.heap H locs -> lv_has ls 5 [(0, .ref a_m), (1, .int x1), (2, .int x2), (3, .int x3)] -> W p l e rm_X10_soonest s m args below meth c H locs 0 0 (MQ below (q_X10_soonest dC dI cI cC cZ cB cJ A a_m nY sJ eG iY lY jR jW jZ jO oQ bR aY jQ gY iJ mQ lJ jA bG mK jB mW mJ eJ dG bT aG jC aJ aB bW bU fJ jY oX qG m_x gR pW qR nG oO pJ qO qQ post) args s 0 0 A) (F0 m 25 ls [])) : ∀ (x1 x2 x3 bL bY : Int32) (jD : Nat) (mLn oF rP dQ bZ aR aE bI aW dO bM bQ bO : Int32) (sW sH uE oJ vK : Nat -> Int32) (H : Heap) (locs : List Loc) (ls : Array Slot), (ws_X10_soonest_25 post next bT aG bW qG m_x gR pW qR nG oO pJ qO qQ) x1 x2 x3 bL bY jD mLn oF rP dQ bZ aR aE bI aW dO bM bQ bO sW sH uE oJ vK -> va_P (dC, dI) classes (aFg cI cC cZ cB cJ a_m nY sJ eG iY lY jR jW jZ jO oQ bR aY jQ gY iJ mQ lJ jA bG mK jB mW mJ eJ dG bT aG jC bL bY jD mLn oF rP dQ aJ aB bW bZ aR aE bI aW bU fJ dO bM bQ bO jY oX qG m_x gR pW qR nG oO pJ qO sW qQ sH uE oJ vK) H -> va_D A (aFg cI cC cZ cB cJ a_m nY sJ eG iY lY jR jW jZ jO oQ bR aY jQ gY iJ mQ lJ jA bG mK jB mW mJ eJ dG bT aG jC bL bY jD mLn oF rP dQ aJ aB bW bZ aR aE bI aW bU fJ dO bM bQ bO jY oX qG m_x gR pW qR nG oO pJ qO sW qQ sH uE oJ vK) -> va_S A s.heap H locs -> lv_has ls 5 [(0, .ref a_m), (1, .int x1), (2, .int x2), (3, .int x3)] -> W p l e rm_X10_soonest s m args below meth c H locs 0 0 (MQ below (q_X10_soonest dC dI cI cC cZ cB cJ A a_m nY sJ eG iY lY jR jW jZ jO oQ bR aY jQ gY iJ mQ lJ jA bG mK jB mW mJ eJ dG bT aG jC aJ aB bW bU fJ jY oX qG m_x gR pW qR nG oO pJ qO qQ post) args s 0 0 A) (F0 m 25 ls []) := by
  obtain ⟨hx, hb, hr, hml, hown, hts, hlocks, hA, hK, hN, tL, tM, hZL, hTL, hZM, hTM, hZX⟩ := id C0
  intro x1 x2 x3 bL bY jD mLn oF rP dQ bZ aR aE bI aW dO bM bQ bO sW sH uE oJ vK H locs ls hp hP hD hS hl
  unfold ws_X10_soonest_25 at hp
  refine lv_iload_n hx hb aQc.2.2.2.2.2.2.2.2.2.2.2.2.2.2.2 rfl (lv_at hl 3 rfl) ?_
  refine lv_aload_n hx hb aN4.1 rfl (lv_at hl 0 rfl) ?_
  have hm := mgk (wc := (aGj cI cC cZ cB cJ a_m nY sJ eG iY lY jR jW jZ jO oQ bR aY jQ gY iJ mQ lJ jA bG mK jB mW mJ eJ dG bT aG jC bL bY jD mLn oF rP dQ aJ aB bW bZ aR aE bI aW bU fJ dO bM bQ bO jY oX)) hP mk_267 16 rfl rfl rfl
  refine yW hP hD hS hA (yS mk_267) (aAi mk_267) hm.1 hm.2 (aAk _) (zW _) (zF (As := []) (rest := [.int x3]) C0 hP hD hS (yS mk_267) hm.1 (aAl _) 0 10 rfl rfl (aKY l dC dI cI cC cZ cB cJ a_m nY sJ eG iY lY jR jW jZ jO oQ bR aY jQ gY iJ mQ lJ jA bG mK jB mW mJ eJ dG H.size bT aG jC bL bY jD mLn oF rP dQ aJ aB bW bZ aR aE bI aW bU fJ dO bM bQ bO jY oX _ hp) q_870 q_873 q_871 q_872 aBL aKa rfl rfl ⟨lbz rfl, lbz rfl⟩ rfl rfl hl.1 rfl (lv_room (lbz rfl)) aN4.2.1 ⟨Nat.zero_le _, Nat.zero_le _⟩) (fun r_15 u H locs hp hP hD hS => ?_)
  have hPD := PDm (ws' := (aFg cI cC cZ cB cJ a_m nY sJ eG iY lY jR jW jZ jO oQ bR aY jQ gY iJ mQ lJ jA bG mK jB mW mJ eJ dG bT aG jC bL bY jD mLn oF rP dQ aJ aB bW bZ aR aE bI aW bU fJ dO bM bQ bO jY oX qG m_x gR pW qR nG oO pJ qO sW qQ sH uE oJ vK)) hP hD 16 rfl rfl rfl
  have hP := hPD.1
  have hD := hPD.2
  refine lv_icmp_gt (tgt := 95) hx hb aN4.2.2.1 (by decide) (fun hc => ?_) (fun hc => ?_)
  · have hp := hp.1 hc
    refine lv_aload_n hx hb aYs.2.2.2.1 rfl (lv_at hl 0 rfl) ?_
    refine lv_iconst (v := 0) hx hb aYs.2.2.2.2.1 aCi ?_
    refine va_put (D := (dC, dI)) (ci := 10) (v := .int 0) (ty := .int) (C := zX) (T := aBe) (N := 51) hx hb hts aAt aD2 aAa aEC hown hK hP hD hS 0 rfl rfl 13 (lbz rfl) (hts _ q_847) (fun _ h9 => h9) rfl (aAa 13 (lbz rfl)) rfl rfl (lbz rfl) aYs.2.2.2.2.2.1 (fun H locs hP hD hS => ?_)
    have hPD := PDw (ws' := (aFg cI cC cZ cB cJ a_m nY sJ eG iY lY jR jW jZ jO oQ bR aY jQ gY iJ mQ lJ jA bG mK jB mW mJ eJ dG bT aG jC 0 bY jD mLn oF rP dQ aJ aB bW bZ aR aE bI aW bU fJ dO bM bQ bO jY oX qG m_x gR pW qR nG oO pJ qO sW qQ sH uE oJ vK)) hP hD rfl
    have hP := hPD.1
    have hD := hPD.2
    refine lv_aload_n hx hb aYs.2.2.2.2.2.2.1 rfl (lv_at hl 0 rfl) ?_
    refine lv_iload_n hx hb aYs.2.2.2.2.2.2.2.1 rfl (lv_at hl 1 rfl) ?_
    have hm := mgk (wc := (aD0 cI cC cZ cB cJ a_m nY sJ eG iY lY jR jW jZ jO oQ bR aY jQ gY iJ mQ lJ jA bG mK jB mW mJ eJ dG bT aG jC 0 bY jD mLn oF rP dQ aJ aB bW bZ aR aE bI aW bU fJ dO bM bQ bO jY oX sW)) hP mk_273 16 rfl rfl rfl
    refine aBn hP hD hS hA (yS mk_273) (aAi mk_273) hm.1 hm.2 (aAk _) (zW _) (zF (As := [.int x1]) (rest := []) C0 hP hD hS (yS mk_273) hm.1 (aAl _) 0 10 rfl rfl (aGE l dC dI cI cC cZ cB cJ a_m nY sJ eG iY lY jR jW jZ jO oQ bR aY jQ gY iJ mQ lJ jA bG mK jB mW mJ eJ dG H.size x1 bT aG jC 0 bY jD mLn oF rP dQ aJ aB bW bZ aR aE bI aW bU fJ dO bM bQ bO jY oX sW _ hp) q_849 q_852 q_850 q_851 aBL aGF rfl rfl ⟨lbz rfl, lbz rfl⟩ rfl rfl hl.1 rfl (lv_room (lbz rfl)) aYs.2.2.2.2.2.2.2.2.1 ⟨Nat.zero_le _, Nat.zero_le _⟩) (fun u H locs hp hP hD hS => ?_)
    obtain ⟨m_rowMany_16, m_row_17⟩ := u
    have hPD := PDm (ws' := (aFg cI cC cZ cB cJ a_m nY sJ eG iY lY jR jW jZ jO oQ bR aY jQ gY iJ mQ lJ jA bG mK jB mW mJ eJ dG bT aG jC m_rowMany_16 bY jD mLn oF rP dQ aJ aB bW bZ aR aE bI aW bU fJ dO bM bQ bO jY oX qG m_x gR pW qR nG oO pJ qO m_row_17 qQ sH uE oJ vK)) hP hD 16 rfl rfl rfl
    have hP := hPD.1
    have hD := hPD.2
    refine lv_iload_n hx hb aYs.2.2.2.2.2.2.2.2.2.1 rfl (lv_at hl 2 rfl) ?_
    exact W.iret (v := x2) hx hb hr (fun t ht hW => ⟨⟨x2, (m_rowMany_16, bY, jD, mLn, oF, rP, dQ, bZ, aR, aE, bI, aW, dO, bM, bQ, bO, m_row_17, sH, uE, oJ, vK), rfl, hp, by rw [ht]; exact hP, va_K.moved hW.alike hK, hD⟩, hS.F ht⟩) hS.2.2 aYs.2.2.2.2.2.2.2.2.2.2
  · have hp := hp.2 hc
    refine lv_aload_n hx hb aN4.2.2.2.1 rfl (lv_at hl 0 rfl) ?_
    refine va_get (D := (dC, dI)) (ci := 10) (v := .int dO) (C := zX) (T := aBe) (N := 51) hx hb hts aAt hown hK hP 0 rfl rfl 37 (lbz rfl) (hts _ q_878) (fun _ h9 => h9) rfl aN4.2.2.2.2.1 ?_
    refine lv_aload_n hx hb aN4.2.2.2.2.2.1 rfl (lv_at hl 0 rfl) ?_
    refine lv_iload_n hx hb aN4.2.2.2.2.2.2.1 rfl (lv_at hl 3 rfl) ?_
    have hm := mgk (wc := (aH9 cI cC cZ cB cJ a_m nY sJ eG iY lY jR jW jZ jO oQ bR aY jQ gY iJ mQ lJ jA bG mK jB mW mJ eJ dG bT aG jC bL bY jD mLn oF rP dQ aJ aB bW bZ aR aE bI aW bU fJ dO bM bQ bO jY oX sH)) hP mk_274 16 rfl rfl rfl
    refine yW hP hD hS hA (yS mk_274) (aAi mk_274) hm.1 hm.2 (aAk _) (zW _) (zF (As := [.int x3]) (rest := [.int dO]) C0 hP hD hS (yS mk_274) hm.1 (aAl _) 0 10 rfl rfl (c_X10_handOf l dC dI cI cC cZ cB cJ a_m nY sJ eG iY lY jR jW jZ jO oQ bR aY jQ gY iJ mQ lJ jA bG mK jB mW mJ eJ dG H.size x3 bT aG jC bL bY jD mLn oF rP dQ aJ aB bW bZ aR aE bI aW bU fJ dO bM bQ bO jY oX sH _ hp) q_874 q_877 q_875 q_876 aBL h_X10_handOf rfl rfl ⟨lbz rfl, lbz rfl⟩ rfl rfl hl.1 rfl (lv_room (lbz rfl)) aN4.2.2.2.2.2.2.2.1 ⟨Nat.zero_le _, Nat.zero_le _⟩) (fun r_18 u H locs hp hP hD hS => ?_)
    have hPD := PDm (ws' := (aFg cI cC cZ cB cJ a_m nY sJ eG iY lY jR jW jZ jO oQ bR aY jQ gY iJ mQ lJ jA bG mK jB mW mJ eJ dG bT aG jC bL bY jD mLn oF rP dQ aJ aB bW bZ aR aE bI aW bU fJ dO bM bQ bO jY oX qG m_x gR pW qR nG oO pJ qO sW qQ sH uE oJ vK)) hP hD 16 rfl rfl rfl
    have hP := hPD.1
    have hD := hPD.2
    refine lv_iconst (v := (-1)) hx hb aN4.2.2.2.2.2.2.2.2.1 aEJ ?_
    refine lv_ixor hx hb aN4.2.2.2.2.2.2.2.2.2.1 ?_
    refine lv_iand hx hb aN4.2.2.2.2.2.2.2.2.2.2.1 ?_
    refine lv_if_eq (tgt := 51) hx hb aN4.2.2.2.2.2.2.2.2.2.2.2.1 (by decide) (fun hc => ?_) (fun hc => ?_)
    · have hp := hp.1 hc
      refine lv_aload_n hx hb aN4.2.2.2.2.2.2.2.2.2.2.2.2.2.1 rfl (lv_at hl 0 rfl) ?_
      refine lv_iload_n hx hb aN4.2.2.2.2.2.2.2.2.2.2.2.2.2.2.1 rfl (lv_at hl 3 rfl) ?_
      have hm := mgk (wc := (aCL cI cC cZ cB cJ a_m nY sJ eG iY lY jR jW jZ jO oQ bR aY jQ gY iJ mQ lJ jA bG mK jB mW mJ eJ dG bT aG jC bL bY jD mLn oF rP dQ aJ aB bW bZ aR aE bI aW bU fJ dO bM bQ bO jY oX qG oO pJ sH uE oJ vK)) hP mk_272 16 rfl rfl rfl
      refine yW hP hD hS hA (yS mk_272) (aAi mk_272) hm.1 hm.2 (aAk _) (zW _) (zF (As := [.int x3]) (rest := []) C0 hP hD hS (yS mk_272) hm.1 (aAl _) 0 10 rfl rfl (c_X10_workOf l dC dI cI cC cZ cB cJ a_m nY sJ eG iY lY jR jW jZ jO oQ bR aY jQ gY iJ mQ lJ jA bG mK jB mW mJ eJ dG H.size x3 bT aG jC bL bY jD mLn oF rP dQ aJ aB bW bZ aR aE bI aW bU fJ dO bM bQ bO jY oX qG oO pJ sH uE oJ vK _ hp) q_937 q_940 q_938 q_939 aBL h_X10_workOf rfl rfl ⟨lbz rfl, lbz rfl⟩ rfl rfl hl.1 rfl (lv_room (lbz rfl)) aN4.2.2.2.2.2.2.2.2.2.2.2.2.2.2.2 ⟨Nat.zero_le _, Nat.zero_le _⟩) (fun r_19 u H locs hp hP hD hS => ?_)
      obtain ⟨aND, aI4, aI3, m_load_23⟩ := u
      have hPD := PDm (ws' := (aFg cI cC cZ cB cJ a_m nY sJ eG iY lY jR jW jZ jO oQ bR aY jQ gY iJ mQ lJ jA bG mK jB mW mJ eJ dG bT aG jC bL bY jD mLn oF rP dQ aJ aB bW bZ aR aE bI aW bU fJ dO aND aI4 aI3 jY oX qG m_x gR pW qR nG oO pJ qO sW qQ sH uE oJ m_load_23)) hP hD 16 rfl rfl rfl
      have hP := hPD.1
      have hD := hPD.2
      refine lv_istore (lv' := [(4, .int r_19), (0, .ref a_m), (1, .int x1), (2, .int x2), (3, .int x3)]) hx hb aN5.1 hl (by decide) rfl (fun ls hl => ?_)
      refine lv_iload hx hb aN5.2.1 (lv_at hl 0 rfl) ?_
      refine lv_iload_n hx hb aN5.2.2.1 rfl (lv_at hl 3 rfl) ?_
      refine lv_icmp_gt (tgt := 89) hx hb aN5.2.2.2.1 (by decide) (fun hc => ?_) (fun hc => ?_)
      · have hp := hp.1 hc
        exact ks_X10_soonest_89 C0 hKn x1 x2 x3 bL bY jD mLn oF rP dQ bZ aR aE bI aW dO aND aI4 aI3 sW sH uE oJ m_load_23 H locs ls hp hP hD hS (lv_sub hl [1, 2, 3, 4] rfl)
      · have hp := hp.2 hc
        refine lv_iload hx hb aN5.2.2.2.2.1 (lv_at hl 0 rfl) ?_
        refine lv_iload_n hx hb aN5.2.2.2.2.2.1 rfl (lv_at hl 3 rfl) ?_
        refine lv_icmp_ne (tgt := 84) hx hb aN5.2.2.2.2.2.2.1 (by decide) (fun hc => ?_) (fun hc => ?_)
        · have hp := hp.1 hc
          exact ks_X10_soonest_84 C0 hKn x3 r_19 bL bY jD mLn oF rP dQ bZ aR aE bI aW dO aND aI4 aI3 sW sH uE oJ m_load_23 H locs ls hp hP hD hS (lv_sub hl [1, 4, 0] rfl)
        · have hp := hp.2 hc
          refine lv_iload_n hx hb aN5.2.2.2.2.2.2.2.1 rfl (lv_at hl 4 rfl) ?_
          have hm := mgk (wc := (aBh cI cC cZ cB cJ)) hP mk_268 16 rfl rfl rfl
          refine yW hP hD hS hA (yS mk_268) (aAi mk_268) hm.1 hm.2 (aAk _) (zW _) (aDn (As := [.int x3]) (rest := []) C0 hP hD hS (yS mk_268) hm.1 (aAl _) (aBv l dC dI cI cC cZ cB cJ H.size x3 _ hp) q_320 q_803 q_322 q_321 aBw rfl rfl ⟨lbz rfl, lbz rfl⟩ rfl rfl hl.1 rfl (lv_room (lbz rfl)) aN5.2.2.2.2.2.2.2.2.1 ⟨Nat.zero_le _, Nat.zero_le _⟩) (fun r_25 u H locs hp hP hD hS => ?_)
          have hPD := PDm (ws' := (aFg cI cC cZ cB cJ a_m nY sJ eG iY lY jR jW jZ jO oQ bR aY jQ gY iJ mQ lJ jA bG mK jB mW mJ eJ dG bT aG jC bL bY jD mLn oF rP dQ aJ aB bW bZ aR aE bI aW bU fJ dO aND aI4 aI3 jY oX qG m_x gR pW qR nG oO pJ qO sW qQ sH uE oJ m_load_23)) hP hD 16 rfl rfl rfl
          have hP := hPD.1
          have hD := hPD.2
          refine lv_iload_n hx hb aN5.2.2.2.2.2.2.2.2.2.1 rfl (lv_at hl 2 rfl) ?_
          have hm := mgk (wc := (aBh cI cC cZ cB cJ)) hP mk_268 16 rfl rfl rfl
          refine yW hP hD hS hA (yS mk_268) (aAi mk_268) hm.1 hm.2 (aAk _) (zW _) (aDn (As := [.int x1]) (rest := [.int r_25]) C0 hP hD hS (yS mk_268) hm.1 (aAl _) (aBv l dC dI cI cC cZ cB cJ H.size x1 _ hp) q_320 q_803 q_322 q_321 aBw rfl rfl ⟨lbz rfl, lbz rfl⟩ rfl rfl hl.1 rfl (lv_room (lbz rfl)) aN5.2.2.2.2.2.2.2.2.2.2.1 ⟨Nat.zero_le _, Nat.zero_le _⟩) (fun r_26 u H locs hp hP hD hS => ?_)
          have hPD := PDm (ws' := (aFg cI cC cZ cB cJ a_m nY sJ eG iY lY jR jW jZ jO oQ bR aY jQ gY iJ mQ lJ jA bG mK jB mW mJ eJ dG bT aG jC bL bY jD mLn oF rP dQ aJ aB bW bZ aR aE bI aW bU fJ dO aND aI4 aI3 jY oX qG m_x gR pW qR nG oO pJ qO sW qQ sH uE oJ m_load_23)) hP hD 16 rfl rfl rfl
          have hP := hPD.1
          have hD := hPD.2
          refine lv_icmp_lt (tgt := 84) hx hb aN5.2.2.2.2.2.2.2.2.2.2.2.1 (by decide) (fun hc => ?_) (fun hc => ?_)
          · have hp := hp.1 hc
            exact ks_X10_soonest_84 C0 hKn x3 r_19 bL bY jD mLn oF rP dQ bZ aR aE bI aW dO aND aI4 aI3 sW sH uE oJ m_load_23 H locs ls hp hP hD hS (lv_sub hl [1, 4, 0] rfl)
          · have hp := hp.2 hc
            refine lv_goto (tgt := 89) hx hb aN5.2.2.2.2.2.2.2.2.2.2.2.2.1 (by decide) ?_
            exact ks_X10_soonest_89 C0 hKn x1 x2 x3 bL bY jD mLn oF rP dQ bZ aR aE bI aW dO aND aI4 aI3 sW sH uE oJ m_load_23 H locs ls hp hP hD hS (lv_sub hl [1, 2, 3, 4] rfl)
    · have hp := hp.2 hc
      refine lv_goto (tgt := 89) hx hb aN4.2.2.2.2.2.2.2.2.2.2.2.2.1 (by decide) ?_
      exact ks_X10_soonest_89 C0 hKn x1 x2 x3 bL bY jD mLn oF rP dQ bZ aR aE bI aW dO bM bQ bO sW sH uE oJ vK H locs ls hp hP hD hS (lv_sub hl [0, 1, 2, 3] rfl)
set_option maxHeartbeats 4000000 in
set_option maxRecDepth 100000 in
theorem kb_X10_soonest_25 (C0 : gc aC0 (some .int) 5 zX (dC, dI) (tyl cI cC cZ cB cJ) A p s m args meth c) : ∀ (n : Nat), ∀ (x1 x2 x3 bL bY : Int32) (jD : Nat) (mLn oF rP dQ bZ aR aE bI aW dO bM bQ bO : Int32) (sW sH uE oJ vK : Nat -> Int32) (H : Heap) (locs : List Loc) (ls : Array Slot), (wb_X10_soonest_25 post bT aG bW qG m_x gR pW qR nG oO pJ qO qQ n) x1 x2 x3 bL bY jD mLn oF rP dQ bZ aR aE bI aW dO bM bQ bO sW sH uE oJ vK -> va_P (dC, dI) classes (aFg cI cC cZ cB cJ a_m nY sJ eG iY lY jR jW jZ jO oQ bR aY jQ gY iJ mQ lJ jA bG mK jB mW mJ eJ dG bT aG jC bL bY jD mLn oF rP dQ aJ aB bW bZ aR aE bI aW bU fJ dO bM bQ bO jY oX qG m_x gR pW qR nG oO pJ qO sW qQ sH uE oJ vK) H -> va_D A (aFg cI cC cZ cB cJ a_m nY sJ eG iY lY jR jW jZ jO oQ bR aY jQ gY iJ mQ lJ jA bG mK jB mW mJ eJ dG bT aG jC bL bY jD mLn oF rP dQ aJ aB bW bZ aR aE bI aW bU fJ dO bM bQ bO jY oX qG m_x gR pW qR nG oO pJ qO sW qQ sH uE oJ vK) -> va_S A s.heap H locs -> lv_has ls 5 [(0, .ref a_m), (1, .int x1), (2, .int x2), (3, .int x3)] -> W p l e rm_X10_soonest s m args below meth c H locs 0 0 (MQ below (q_X10_soonest dC dI cI cC cZ cB cJ A a_m nY sJ eG iY lY jR jW jZ jO oQ bR aY jQ gY iJ mQ lJ jA bG mK jB mW mJ eJ dG bT aG jC aJ aB bW bU fJ jY oX qG m_x gR pW qR nG oO pJ qO qQ post) args s 0 0 A) (F0 m 25 ls []) := by
  intro n
  induction n with
  | zero =>
    intro x1 x2 x3 bL bY jD mLn oF rP dQ bZ aR aE bI aW dO bM bQ bO sW sH uE oJ vK H locs ls hp
    exact False.elim hp
  | succ n ih =>
    intro x1 x2 x3 bL bY jD mLn oF rP dQ bZ aR aE bI aW dO bM bQ bO sW sH uE oJ vK H locs ls hp
    exact ks_X10_soonest_25 C0 ih x1 x2 x3 bL bY jD mLn oF rP dQ bZ aR aE bI aW dO bM bQ bO sW sH uE oJ vK H locs ls hp
end S_X10_soonest
def wp_X10_soonest (post : Int32 -> Int32 -> Int32 -> Nat -> Int32 -> Int32 -> Int32 -> Int32 -> Int32 -> Int32 -> Int32 -> Int32 -> Int32 -> Int32 -> Int32 -> Int32 -> Int32 -> (Nat -> Int32) -> (Nat -> Int32) -> (Nat -> Int32) -> (Nat -> Int32) -> (Nat -> Int32) -> Prop) (bT aG bL bY : Int32) (jD : Nat) (mLn oF rP dQ bW bZ aR aE bI aW dO bM bQ bO : Int32) (qG m_x gR pW qR nG oO pJ qO sW qQ sH uE oJ vK : Nat -> Int32) : Prop := aJm (fun aDN aII => wp_X10_layMoves (fun m_moves_3 => wp_X10_laySeconds (fun m_read_4 m_length_5 m_top_6 m_at_7 m_wrong_8 m_isAsked_9 m_askedFruit_10 m_askedStanding_11 m_askedHook_12 m_askedApron_13 m_handSeconds_14 => ∃ n : Nat, wb_X10_soonest_25 post bT aG bW qG m_x gR pW qR nG oO pJ qO qQ n (-1) 1000000 0 bL 0 m_read_4 m_length_5 m_top_6 m_at_7 m_wrong_8 m_isAsked_9 m_askedFruit_10 m_askedStanding_11 m_askedHook_12 m_askedApron_13 aDN bM bQ bO sW aII m_moves_3 m_handSeconds_14 vK) bT aG jD mLn oF rP dQ bW bZ aR aE bI aW m_x gR pW nG oO qO qQ oJ) aG nG pJ uE) bT aG dO qG m_x gR qR nG oO pJ sH
set_option maxHeartbeats 4000000 in
set_option maxRecDepth 100000 in
theorem c_X10_soonest (l : Launch) (dC : Nat -> ClassId) (dI : Nat -> Nat -> Nat) (cI cC cZ cB cJ : ClassId) (a_m nY sJ eG iY lY jR jW jZ jO oQ bR aY jQ gY iJ mQ lJ jA bG mK jB mW mJ eJ dG sz : Nat) (bT aG jC bL bY : Int32) (jD : Nat) (mLn oF rP dQ aJ aB bW bZ aR aE bI aW bU fJ dO bM bQ bO jY oX : Int32) (qG m_x gR pW qR nG oO pJ qO sW qQ sH uE oJ vK : Nat -> Int32) (post : Int32 -> Int32 -> Int32 -> Nat -> Int32 -> Int32 -> Int32 -> Int32 -> Int32 -> Int32 -> Int32 -> Int32 -> Int32 -> Int32 -> Int32 -> Int32 -> Int32 -> (Nat -> Int32) -> (Nat -> Int32) -> (Nat -> Int32) -> (Nat -> Int32) -> (Nat -> Int32) -> Prop) (hw : wp_X10_soonest post bT aG bL bY jD mLn oF rP dQ bW bZ aR aE bI aW dO bM bQ bO qG m_x gR pW qR nG oO pJ qO sW qQ sH uE oJ vK) : Met l yX10_soonest (gw yX10_soonest aC0 5 (some .int)) rm_X10_soonest (va_Pc [.ref a_m] (gPre (dC, dI) (tyl cI cC cZ cB cJ) (aFg cI cC cZ cB cJ a_m nY sJ eG iY lY jR jW jZ jO oQ bR aY jQ gY iJ mQ lJ jA bG mK jB mW mJ eJ dG bT aG jC bL bY jD mLn oF rP dQ aJ aB bW bZ aR aE bI aW bU fJ dO bM bQ bO jY oX qG m_x gR pW qR nG oO pJ qO sW qQ sH uE oJ vK) sz)) (q_X10_soonest dC dI cI cC cZ cB cJ (va_A (aFg cI cC cZ cB cJ a_m nY sJ eG iY lY jR jW jZ jO oQ bR aY jQ gY iJ mQ lJ jA bG mK jB mW mJ eJ dG bT aG jC bL bY jD mLn oF rP dQ aJ aB bW bZ aR aE bI aW bU fJ dO bM bQ bO jY oX qG m_x gR pW qR nG oO pJ qO sW qQ sH uE oJ vK) sz) a_m nY sJ eG iY lY jR jW jZ jO oQ bR aY jQ gY iJ mQ lJ jA bG mK jB mW mJ eJ dG bT aG jC aJ aB bW bU fJ jY oX qG m_x gR pW qR nG oO pJ qO qQ post) 0 0 (va_A (aFg cI cC cZ cB cJ a_m nY sJ eG iY lY jR jW jZ jO oQ bR aY jQ gY iJ mQ lJ jA bG mK jB mW mJ eJ dG bT aG jC bL bY jD mLn oF rP dQ aJ aB bW bZ aR aE bI aW bU fJ dO bM bQ bO jY oX qG m_x gR pW qR nG oO pJ qO sW qQ sH uE oJ vK) sz) := by
  refine aBJ (own := zX) (dC, dI) (tyl cI cC cZ cB cJ) (aFg cI cC cZ cB cJ a_m nY sJ eG iY lY jR jW jZ jO oQ bR aY jQ gY iJ mQ lJ jA bG mK jB mW mJ eJ dG bT aG jC bL bY jD mLn oF rP dQ aJ aB bW bZ aR aE bI aW bU fJ dO bM bQ bO jY oX qG m_x gR pW qR nG oO pJ qO sW qQ sH uE oJ vK) sz [.ref a_m] (fun A => q_X10_soonest dC dI cI cC cZ cB cJ A a_m nY sJ eG iY lY jR jW jZ jO oQ bR aY jQ gY iJ mQ lJ jA bG mK jB mW mJ eJ dG bT aG jC aJ aB bW bU fJ jY oX qG m_x gR pW qR nG oO pJ qO qQ post) aFY rfl (lbz rfl) ?_
  intro p e s m args below meth c A H locs ls C0 hP hD hS hl
  have hl : lv_has ls 5 [(0, .ref a_m)] := hl
  obtain ⟨hx, hb, hr, hml, hown, hts, hlocks, hA, hK, hN, tL, tM, hZL, hTL, hZM, hTM, hZX⟩ := id C0
  have hp := hw
  unfold wp_X10_soonest at hp
  refine lv_aload_n hx hb aQc.1 rfl (lv_at hl 0 rfl) ?_
  refine lv_iconst (v := 0) hx hb aQc.2.1 aCi ?_
  refine va_put (D := (dC, dI)) (ci := 10) (v := .int 0) (ty := .int) (C := zX) (T := aBe) (N := 51) hx hb hts aAt aD2 aAa aEC hown hK hP hD hS 0 rfl rfl 14 (lbz rfl) (hts _ q_638) (fun _ h9 => h9) rfl (aAa 14 (lbz rfl)) rfl rfl (lbz rfl) aQc.2.2.1 (fun H locs hP hD hS => ?_)
  have hPD := PDw (ws' := (aFg cI cC cZ cB cJ a_m nY sJ eG iY lY jR jW jZ jO oQ bR aY jQ gY iJ mQ lJ jA bG mK jB mW mJ eJ dG bT aG jC bL 0 jD mLn oF rP dQ aJ aB bW bZ aR aE bI aW bU fJ dO bM bQ bO jY oX qG m_x gR pW qR nG oO pJ qO sW qQ sH uE oJ vK)) hP hD rfl
  have hP := hPD.1
  have hD := hPD.2
  refine lv_aload_n hx hb aQc.2.2.2.1 rfl (lv_at hl 0 rfl) ?_
  have hm := mgk (wc := (aIe cI cC cZ cB cJ a_m nY sJ eG iY lY jR jW jZ jO oQ bR aY jQ gY iJ mQ lJ jA bG mK jB mW mJ eJ dG bT aG jC bL 0 jD mLn oF rP dQ aJ aB bW bZ aR aE bI aW bU fJ dO bM bQ bO jY oX qG m_x gR qR nG oO pJ sH)) hP mk_269 16 rfl rfl rfl
  refine aBn hP hD hS hA (yS mk_269) (aAi mk_269) hm.1 hm.2 (aAk _) (zW _) (zF (As := []) (rest := []) C0 hP hD hS (yS mk_269) hm.1 (aAl _) 0 10 rfl rfl (aPr l dC dI cI cC cZ cB cJ a_m nY sJ eG iY lY jR jW jZ jO oQ bR aY jQ gY iJ mQ lJ jA bG mK jB mW mJ eJ dG H.size bT aG jC bL 0 jD mLn oF rP dQ aJ aB bW bZ aR aE bI aW bU fJ dO bM bQ bO jY oX qG m_x gR qR nG oO pJ sH _ hp) q_883 q_886 q_884 q_885 aBL aQ3 rfl rfl ⟨lbz rfl, lbz rfl⟩ rfl rfl hl.1 rfl (lv_room (lbz rfl)) aQc.2.2.2.2.1 ⟨Nat.zero_le _, Nat.zero_le _⟩) (fun u H locs hp hP hD hS => ?_)
  obtain ⟨aDN, aII⟩ := u
  have hPD := PDm (ws' := (aFg cI cC cZ cB cJ a_m nY sJ eG iY lY jR jW jZ jO oQ bR aY jQ gY iJ mQ lJ jA bG mK jB mW mJ eJ dG bT aG jC bL 0 jD mLn oF rP dQ aJ aB bW bZ aR aE bI aW bU fJ aDN bM bQ bO jY oX qG m_x gR pW qR nG oO pJ qO sW qQ aII uE oJ vK)) hP hD 16 rfl rfl rfl
  have hP := hPD.1
  have hD := hPD.2
  refine lv_aload_n hx hb aQc.2.2.2.2.2.1 rfl (lv_at hl 0 rfl) ?_
  have hm := mgk (wc := (aBr cI cC cZ cB cJ a_m nY sJ eG iY lY jR jW jZ jO oQ bR aY jQ gY iJ mQ lJ jA bG mK jB mW mJ eJ dG bT aG jC bL 0 jD mLn oF rP dQ aJ aB bW bZ aR aE bI aW bU fJ aDN bM bQ bO jY oX nG pJ uE)) hP mk_270 16 rfl rfl rfl
  refine aBn hP hD hS hA (yS mk_270) (aAi mk_270) hm.1 hm.2 (aAk _) (zW _) (zF (As := []) (rest := []) C0 hP hD hS (yS mk_270) hm.1 (aAl _) 0 10 rfl rfl (c_X10_layMoves l dC dI cI cC cZ cB cJ a_m nY sJ eG iY lY jR jW jZ jO oQ bR aY jQ gY iJ mQ lJ jA bG mK jB mW mJ eJ dG H.size bT aG jC bL 0 jD mLn oF rP dQ aJ aB bW bZ aR aE bI aW bU fJ aDN bM bQ bO jY oX nG pJ uE _ hp) q_916 q_919 q_917 q_918 aBL h_X10_layMoves rfl rfl ⟨lbz rfl, lbz rfl⟩ rfl rfl hl.1 rfl (lv_room (lbz rfl)) aQc.2.2.2.2.2.2.1 ⟨Nat.zero_le _, Nat.zero_le _⟩) (fun u H locs hp hP hD hS => ?_)
  obtain ⟨m_moves_3, rfl⟩ : ∃ z, z = u := ⟨_, rfl⟩
  have hPD := PDm (ws' := (aFg cI cC cZ cB cJ a_m nY sJ eG iY lY jR jW jZ jO oQ bR aY jQ gY iJ mQ lJ jA bG mK jB mW mJ eJ dG bT aG jC bL 0 jD mLn oF rP dQ aJ aB bW bZ aR aE bI aW bU fJ aDN bM bQ bO jY oX qG m_x gR pW qR nG oO pJ qO sW qQ aII m_moves_3 oJ vK)) hP hD 16 rfl rfl rfl
  have hP := hPD.1
  have hD := hPD.2
  refine lv_aload_n hx hb aQc.2.2.2.2.2.2.2.1 rfl (lv_at hl 0 rfl) ?_
  have hm := mgk (wc := (aFU cI cC cZ cB cJ a_m nY sJ eG iY lY jR jW jZ jO oQ bR aY jQ gY iJ mQ lJ jA bG mK jB mW mJ eJ dG bT aG jC bL 0 jD mLn oF rP dQ aJ aB bW bZ aR aE bI aW bU fJ aDN bM bQ bO jY oX m_x gR pW nG oO qO qQ oJ)) hP mk_271 16 rfl rfl rfl
  refine aBn hP hD hS hA (yS mk_271) (aAi mk_271) hm.1 hm.2 (aAk _) (zW _) (zF (As := []) (rest := []) C0 hP hD hS (yS mk_271) hm.1 (aAl _) 0 10 rfl rfl (c_X10_laySeconds l dC dI cI cC cZ cB cJ a_m nY sJ eG iY lY jR jW jZ jO oQ bR aY jQ gY iJ mQ lJ jA bG mK jB mW mJ eJ dG H.size bT aG jC bL 0 jD mLn oF rP dQ aJ aB bW bZ aR aE bI aW bU fJ aDN bM bQ bO jY oX m_x gR pW nG oO qO qQ oJ _ hp) q_933 q_936 q_934 q_935 aBL h_X10_laySeconds rfl rfl ⟨lbz rfl, lbz rfl⟩ rfl rfl hl.1 rfl (lv_room (lbz rfl)) aQc.2.2.2.2.2.2.2.2.1 ⟨Nat.zero_le _, Nat.zero_le _⟩) (fun u H locs hp hP hD hS => ?_)
  obtain ⟨m_read_4, m_length_5, m_top_6, m_at_7, m_wrong_8, m_isAsked_9, m_askedFruit_10, m_askedStanding_11, m_askedHook_12, m_askedApron_13, m_handSeconds_14⟩ := u
  have hPD := PDm (ws' := (aFg cI cC cZ cB cJ a_m nY sJ eG iY lY jR jW jZ jO oQ bR aY jQ gY iJ mQ lJ jA bG mK jB mW mJ eJ dG bT aG jC bL 0 m_read_4 m_length_5 m_top_6 m_at_7 m_wrong_8 aJ aB bW m_isAsked_9 m_askedFruit_10 m_askedStanding_11 m_askedHook_12 m_askedApron_13 bU fJ aDN bM bQ bO jY oX qG m_x gR pW qR nG oO pJ qO sW qQ aII m_moves_3 m_handSeconds_14 vK)) hP hD 16 rfl rfl rfl
  have hP := hPD.1
  have hD := hPD.2
  refine lv_iconst (v := (-1)) hx hb aQc.2.2.2.2.2.2.2.2.2.1 aEJ ?_
  refine lv_istore_n (lv' := [(1, .int (-1)), (0, .ref a_m)]) hx hb aQc.2.2.2.2.2.2.2.2.2.2.1 rfl hl (by decide) rfl (fun ls hl => ?_)
  refine lv_ldcw (v := 1000000) hx hb hown (hts _ q_911) aQc.2.2.2.2.2.2.2.2.2.2.2.1 ?_
  refine lv_istore_n (lv' := [(2, .int 1000000), (1, .int (-1)), (0, .ref a_m)]) hx hb aQc.2.2.2.2.2.2.2.2.2.2.2.2.1 rfl hl (by decide) rfl (fun ls hl => ?_)
  refine lv_iconst (v := 0) hx hb aQc.2.2.2.2.2.2.2.2.2.2.2.2.2.1 aCi ?_
  refine lv_istore_n (lv' := [(3, .int 0), (2, .int 1000000), (1, .int (-1)), (0, .ref a_m)]) hx hb aQc.2.2.2.2.2.2.2.2.2.2.2.2.2.2.1 rfl hl (by decide) rfl (fun ls hl => ?_)
  obtain ⟨n9, hp⟩ := hp
  exact kb_X10_soonest_25 C0 n9 (-1) 1000000 0 bL 0 m_read_4 m_length_5 m_top_6 m_at_7 m_wrong_8 m_isAsked_9 m_askedFruit_10 m_askedStanding_11 m_askedHook_12 m_askedApron_13 aDN bM bQ bO sW aII m_moves_3 m_handSeconds_14 vK H locs ls hp hP hD hS (lv_sub hl [3, 2, 1, 0] rfl)
abbrev aIJ (cI cC cZ cB cJ : ClassId) (a_m nY sJ eG iY lY jR jW jZ jO oQ bR aY jQ gY iJ mQ lJ jA bG mK jB mW mJ eJ dG : Nat) (bT aG jC bL bY : Int32) (jD : Nat) (mLn oF rP dQ aJ aB bW bZ aR aE bI aW bU fJ dO bM bQ bO jY oX : Int32) (qG m_x gR pW qR nG oO pJ qO sW qQ sH : Nat -> Int32) : va_W := [(a_m, .inr (10, [.ref nY, .int bT, .ref sJ, .ref eG, .ref iY, .ref lY, .int aG, .ref jR, .ref jW, .ref jZ, .ref jO, .int jC, .ref oQ, .int bL, .int bY, rdv jO jQ jD, .int mLn, .int oF, .int rP, .int dQ, .ref bR, .ref aY, .int aJ, .int aB, .ref jQ, .int bW, .int bZ, .int aR, .int aE, .int bI, .int aW, .ref gY, .int bU, .ref iJ, .ref mQ, .int fJ, .ref lJ, .int dO, .ref jA, .ref bG, .int bM, .int bQ, .int bO, .ref mK, .ref jB, .ref mW, .int jY, .int oX, .ref mJ, .ref eJ, .ref dG])), (nY, .inl (cI, 21, .inl qG)), (sJ, .inl (cI, 16, .inl m_x)), (eG, .inl (cI, 16, .inl gR)), (iY, .inl (cI, 16, .inl pW)), (lY, .inl (cI, 16, .inl qR)), (jR, .inl (cI, 8, .inl nG)), (jW, .inl (cI, 8, .inl oO)), (jZ, .inl (cI, 5, .inl pJ)), (jO, .inl (cB, 80, .inl qO)), (oQ, .inl (cI, 32, .inl sW)), (jQ, .inl (cB, 40, .inl qQ)), (lJ, .inl (cI, 8, .inl sH))]
abbrev q_X10_pays (dC : Nat -> ClassId) (dI : Nat -> Nat -> Nat) (cI cC cZ cB cJ : ClassId) (A : Nat -> Prop) (a_m nY sJ eG iY lY jR jW jZ jO oQ bR aY jQ gY iJ mQ lJ jA bG mK jB mW mJ eJ dG : Nat) (bT aG jC aJ aB bW bU fJ bM bQ bO jY oX : Int32) (qG m_x gR pW qR nG oO pJ qO qQ : Nat -> Int32) (post : Int32 -> Int32 -> Int32 -> Nat -> Int32 -> Int32 -> Int32 -> Int32 -> Int32 -> Int32 -> Int32 -> Int32 -> Int32 -> Int32 -> (Nat -> Int32) -> (Nat -> Int32) -> Prop) : Array Value -> State -> Outcome -> State -> Prop := va_Qi (fun (r : Int32) (u : Int32 × Int32 × Nat × Int32 × Int32 × Int32 × Int32 × Int32 × Int32 × Int32 × Int32 × Int32 × Int32 × (Nat -> Int32) × (Nat -> Int32)) => post r u.1 u.2.1 u.2.2.1 u.2.2.2.1 u.2.2.2.2.1 u.2.2.2.2.2.1 u.2.2.2.2.2.2.1 u.2.2.2.2.2.2.2.1 u.2.2.2.2.2.2.2.2.1 u.2.2.2.2.2.2.2.2.2.1 u.2.2.2.2.2.2.2.2.2.2.1 u.2.2.2.2.2.2.2.2.2.2.2.1 u.2.2.2.2.2.2.2.2.2.2.2.2.1 u.2.2.2.2.2.2.2.2.2.2.2.2.2.1 u.2.2.2.2.2.2.2.2.2.2.2.2.2.2) (fun u t => gB (dC, dI) (tyl cI cC cZ cB cJ) A (aIJ cI cC cZ cB cJ a_m nY sJ eG iY lY jR jW jZ jO oQ bR aY jQ gY iJ mQ lJ jA bG mK jB mW mJ eJ dG bT aG jC u.1 u.2.1 u.2.2.1 u.2.2.2.1 u.2.2.2.2.1 u.2.2.2.2.2.1 u.2.2.2.2.2.2.1 aJ aB bW u.2.2.2.2.2.2.2.1 u.2.2.2.2.2.2.2.2.1 u.2.2.2.2.2.2.2.2.2.1 u.2.2.2.2.2.2.2.2.2.2.1 u.2.2.2.2.2.2.2.2.2.2.2.1 bU fJ u.2.2.2.2.2.2.2.2.2.2.2.2.1 bM bQ bO jY oX qG m_x gR pW qR nG oO pJ qO u.2.2.2.2.2.2.2.2.2.2.2.2.2.1 qQ u.2.2.2.2.2.2.2.2.2.2.2.2.2.2) t) A
abbrev rm_X10_pays : Room := { frames := 266, cells := 0, slots := 0, locals := 8782 }
section S_X10_pays
variable {p : Program} {l : Launch} {e : Env} {s : State} {m : MethodId} {args : Array Value} {below : List Frame} {meth : Method} {c : Code} {dC : Nat -> ClassId} {dI : Nat -> Nat -> Nat} {cI cC cZ cB cJ : ClassId} {A : Nat -> Prop} {a_m nY sJ eG iY lY jR jW jZ jO oQ bR aY jQ gY iJ mQ lJ jA bG mK jB mW mJ eJ dG : Nat} {bT aG jC aJ aB bW bU fJ bM bQ bO jY oX : Int32} {qG m_x gR pW qR nG oO pJ qO qQ : Nat -> Int32} {post : Int32 -> Int32 -> Int32 -> Nat -> Int32 -> Int32 -> Int32 -> Int32 -> Int32 -> Int32 -> Int32 -> Int32 -> Int32 -> Int32 -> (Nat -> Int32) -> (Nat -> Int32) -> Prop}
def ws_X10_pays_109 (post : Int32 -> Int32 -> Int32 -> Nat -> Int32 -> Int32 -> Int32 -> Int32 -> Int32 -> Int32 -> Int32 -> Int32 -> Int32 -> Int32 -> (Nat -> Int32) -> (Nat -> Int32) -> Prop) (bT aG bW : Int32) (qG m_x gR pW qR nG oO pJ qO qQ : Nat -> Int32) (x1 x2 x3 k1 bL bY : Int32) (jD : Nat) (mLn oF rP dQ bZ aR aE bI aW dO : Int32) (sW sH : Nat -> Int32) : Prop := aDs (fun aG6 aUs => aDs (fun aDZ aHj => aBb (fun r_12 => ∀ aIQ : Int32, aIQ = r_12 + (pJ (4 : Int32).toNatClampNeg) -> ∀ aGC : Int32, aGC = aIQ - 1 -> ¬ pJ (4 : Int32).toNatClampNeg = 0 /\ (∀ aHe : Int32, aHe = aGC / (pJ (4 : Int32).toNatClampNeg) -> aZf (fun r_16 => ∀ v_17 : Int32, v_17 = aHe * r_16 -> aDs (fun m_rowMany_18 m_row_19 => ∀ v_20 : Int32, v_20 = qG (16 : Int32).toNatClampNeg -> aMp (fun r_21 => post r_21 m_rowMany_18 bY jD mLn oF rP dQ bZ aR aE bI aW dO m_row_19 sH) x2 v_20 bT pW) v_17 aDZ aHj) x1 oO)) x2) x3 aG6 aUs) k1 bL sW
set_option maxHeartbeats 4000000 in
set_option maxRecDepth 100000 in
theorem ks_X10_pays_109 (C0 : gc aCm (some .int) 5 zX (dC, dI) (tyl cI cC cZ cB cJ) A p s m args meth c) : ∀ (x1 x2 x3 k1 bL bY : Int32) (jD : Nat) (mLn oF rP dQ bZ aR aE bI aW dO : Int32) (sW sH : Nat -> Int32) (H : Heap) (locs : List Loc) (ls : Array Slot), (ws_X10_pays_109 post bT aG bW qG m_x gR pW qR nG oO pJ qO qQ) x1 x2 x3 k1 bL bY jD mLn oF rP dQ bZ aR aE bI aW dO sW sH -> va_P (dC, dI) classes (aIJ cI cC cZ cB cJ a_m nY sJ eG iY lY jR jW jZ jO oQ bR aY jQ gY iJ mQ lJ jA bG mK jB mW mJ eJ dG bT aG jC bL bY jD mLn oF rP dQ aJ aB bW bZ aR aE bI aW bU fJ dO bM bQ bO jY oX qG m_x gR pW qR nG oO pJ qO sW qQ sH) H -> va_D A (aIJ cI cC cZ cB cJ a_m nY sJ eG iY lY jR jW jZ jO oQ bR aY jQ gY iJ mQ lJ jA bG mK jB mW mJ eJ dG bT aG jC bL bY jD mLn oF rP dQ aJ aB bW bZ aR aE bI aW bU fJ dO bM bQ bO jY oX qG m_x gR pW qR nG oO pJ qO sW qQ sH) -> va_S A s.heap H locs -> lv_has ls 5 [(0, .ref a_m), (1, .int x1), (2, .int x2), (3, .int x3)] -> W p l e rm_X10_pays s m args below meth c H locs 0 0 (MQ below (q_X10_pays dC dI cI cC cZ cB cJ A a_m nY sJ eG iY lY jR jW jZ jO oQ bR aY jQ gY iJ mQ lJ jA bG mK jB mW mJ eJ dG bT aG jC aJ aB bW bU fJ bM bQ bO jY oX qG m_x gR pW qR nG oO pJ qO qQ post) args s 0 0 A) (F0 m 109 ls [.int k1, .ref a_m]) := by
  obtain ⟨hx, hb, hr, hml, hown, hts, hlocks, hA, hK, hN, tL, tM, hZL, hTL, hZM, hTM, hZX⟩ := id C0
  intro x1 x2 x3 k1 bL bY jD mLn oF rP dQ bZ aR aE bI aW dO sW sH H locs ls hp hP hD hS hl
  unfold ws_X10_pays_109 at hp
  have hm := mgk (wc := (aD0 cI cC cZ cB cJ a_m nY sJ eG iY lY jR jW jZ jO oQ bR aY jQ gY iJ mQ lJ jA bG mK jB mW mJ eJ dG bT aG jC bL bY jD mLn oF rP dQ aJ aB bW bZ aR aE bI aW bU fJ dO bM bQ bO jY oX sW)) hP mk_275 13 rfl rfl rfl
  refine aBn hP hD hS hA (yS mk_275) (aAi mk_275) hm.1 hm.2 (aAk _) (zW _) (zF (As := [.int k1]) (rest := []) C0 hP hD hS (yS mk_275) hm.1 (aAl _) 0 10 rfl rfl (aGE l dC dI cI cC cZ cB cJ a_m nY sJ eG iY lY jR jW jZ jO oQ bR aY jQ gY iJ mQ lJ jA bG mK jB mW mJ eJ dG H.size k1 bT aG jC bL bY jD mLn oF rP dQ aJ aB bW bZ aR aE bI aW bU fJ dO bM bQ bO jY oX sW _ hp) q_849 q_852 q_850 q_851 aBL aGF rfl rfl ⟨lbz rfl, lbz rfl⟩ rfl rfl hl.1 rfl (lv_room (lbz rfl)) aWM.2.2.2.2.2.2.2.2.2.2.2.2.2.2.2 ⟨Nat.zero_le _, Nat.zero_le _⟩) (fun u H locs hp hP hD hS => ?_)
  obtain ⟨aG6, aUs⟩ := u
  have hPD := PDm (ws' := (aIJ cI cC cZ cB cJ a_m nY sJ eG iY lY jR jW jZ jO oQ bR aY jQ gY iJ mQ lJ jA bG mK jB mW mJ eJ dG bT aG jC aG6 bY jD mLn oF rP dQ aJ aB bW bZ aR aE bI aW bU fJ dO bM bQ bO jY oX qG m_x gR pW qR nG oO pJ qO aUs qQ sH)) hP hD 13 rfl rfl rfl
  have hP := hPD.1
  have hD := hPD.2
  refine lv_aload_n hx hb aTD.1 rfl (lv_at hl 0 rfl) ?_
  refine lv_iload_n hx hb aTD.2.1 rfl (lv_at hl 3 rfl) ?_
  have hm := mgk (wc := (aD0 cI cC cZ cB cJ a_m nY sJ eG iY lY jR jW jZ jO oQ bR aY jQ gY iJ mQ lJ jA bG mK jB mW mJ eJ dG bT aG jC aG6 bY jD mLn oF rP dQ aJ aB bW bZ aR aE bI aW bU fJ dO bM bQ bO jY oX aUs)) hP mk_275 13 rfl rfl rfl
  refine aBn hP hD hS hA (yS mk_275) (aAi mk_275) hm.1 hm.2 (aAk _) (zW _) (zF (As := [.int x3]) (rest := []) C0 hP hD hS (yS mk_275) hm.1 (aAl _) 0 10 rfl rfl (aGE l dC dI cI cC cZ cB cJ a_m nY sJ eG iY lY jR jW jZ jO oQ bR aY jQ gY iJ mQ lJ jA bG mK jB mW mJ eJ dG H.size x3 bT aG jC aG6 bY jD mLn oF rP dQ aJ aB bW bZ aR aE bI aW bU fJ dO bM bQ bO jY oX aUs _ hp) q_849 q_852 q_850 q_851 aBL aGF rfl rfl ⟨lbz rfl, lbz rfl⟩ rfl rfl hl.1 rfl (lv_room (lbz rfl)) aTD.2.2.1 ⟨Nat.zero_le _, Nat.zero_le _⟩) (fun u H locs hp hP hD hS => ?_)
  obtain ⟨aDZ, aHj⟩ := u
  have hPD := PDm (ws' := (aIJ cI cC cZ cB cJ a_m nY sJ eG iY lY jR jW jZ jO oQ bR aY jQ gY iJ mQ lJ jA bG mK jB mW mJ eJ dG bT aG jC aDZ bY jD mLn oF rP dQ aJ aB bW bZ aR aE bI aW bU fJ dO bM bQ bO jY oX qG m_x gR pW qR nG oO pJ qO aHj qQ sH)) hP hD 13 rfl rfl rfl
  have hP := hPD.1
  have hD := hPD.2
  refine lv_aload_n hx hb aTD.2.2.2.1 rfl (lv_at hl 0 rfl) ?_
  refine lv_iload_n hx hb aTD.2.2.2.2.1 rfl (lv_at hl 2 rfl) ?_
  have hm := mgk (wc := (aBh cI cC cZ cB cJ)) hP mk_276 13 rfl rfl rfl
  refine yW hP hD hS hA (yS mk_276) (aAi mk_276) hm.1 hm.2 (aAk _) (zW _) (aDn (As := [.int x2]) (rest := [.ref a_m]) C0 hP hD hS (yS mk_276) hm.1 (aAl _) (aBv l dC dI cI cC cZ cB cJ H.size x2 _ hp) q_320 q_803 q_322 q_321 aBw rfl rfl ⟨lbz rfl, lbz rfl⟩ rfl rfl hl.1 rfl (lv_room (lbz rfl)) aTD.2.2.2.2.2.1 ⟨Nat.zero_le _, Nat.zero_le _⟩) (fun r_12 u H locs hp hP hD hS => ?_)
  have hPD := PDm (ws' := (aIJ cI cC cZ cB cJ a_m nY sJ eG iY lY jR jW jZ jO oQ bR aY jQ gY iJ mQ lJ jA bG mK jB mW mJ eJ dG bT aG jC aDZ bY jD mLn oF rP dQ aJ aB bW bZ aR aE bI aW bU fJ dO bM bQ bO jY oX qG m_x gR pW qR nG oO pJ qO aHj qQ sH)) hP hD 13 rfl rfl rfl
  have hP := hPD.1
  have hD := hPD.2
  refine lv_aload_n hx hb aTD.2.2.2.2.2.2.1 rfl (lv_at hl 0 rfl) ?_
  refine va_get (D := (dC, dI)) (ci := 10) (v := .ref jZ) (C := zX) (T := aBe) (N := 51) hx hb hts aAt hown hK hP 0 rfl rfl 9 (lbz rfl) (hts _ q_765) (fun _ h9 => h9) rfl aTD.2.2.2.2.2.2.2.1 ?_
  refine lv_iconst (v := 4) hx hb aTD.2.2.2.2.2.2.2.2.1 ic_4 ?_
  refine va_iald hx hb hK hP 8 0 rfl rfl (g_in rfl) aTD.2.2.2.2.2.2.2.2.2.1 ?_
  refine lv_iadd hx hb aTD.2.2.2.2.2.2.2.2.2.2.1 ?_
  refine lv_topi (fun aIQ ev_13 => ?_)
  have hp := hp aIQ ev_13
  refine lv_iconst (v := 1) hx hb aTD.2.2.2.2.2.2.2.2.2.2.2.1 aDx ?_
  refine lv_isub hx hb aTD.2.2.2.2.2.2.2.2.2.2.2.2.1 ?_
  refine lv_topi (fun aGC ev_14 => ?_)
  have hp := hp aGC ev_14
  refine lv_aload_n hx hb aTD.2.2.2.2.2.2.2.2.2.2.2.2.2.1 rfl (lv_at hl 0 rfl) ?_
  refine va_get (D := (dC, dI)) (ci := 10) (v := .ref jZ) (C := zX) (T := aBe) (N := 51) hx hb hts aAt hown hK hP 0 rfl rfl 9 (lbz rfl) (hts _ q_765) (fun _ h9 => h9) rfl aTD.2.2.2.2.2.2.2.2.2.2.2.2.2.2.1 ?_
  refine lv_iconst (v := 4) hx hb aTD.2.2.2.2.2.2.2.2.2.2.2.2.2.2.2 ic_4 ?_
  refine va_iald hx hb hK hP 8 0 rfl rfl (g_in rfl) aVF.1 ?_
  have hne := hp.1
  have hp := hp.2
  refine lv_idiv hx hb aVF.2.1 hne ?_
  refine lv_topi (fun aHe ev_15 => ?_)
  have hp := hp aHe ev_15
  refine lv_aload_n hx hb aVF.2.2.1 rfl (lv_at hl 0 rfl) ?_
  refine lv_iload_n hx hb aVF.2.2.2.1 rfl (lv_at hl 1 rfl) ?_
  have hm := mgk (wc := (wd_X10_downOf cI cC cZ cB cJ a_m nY sJ eG iY lY jR jW jZ jO oQ bR aY jQ gY iJ mQ lJ jA bG mK jB mW mJ eJ dG bT aG jC aDZ bY jD mLn oF rP dQ aJ aB bW bZ aR aE bI aW bU fJ dO bM bQ bO jY oX oO)) hP mk_277 13 rfl rfl rfl
  refine yW hP hD hS hA (yS mk_277) (aAi mk_277) hm.1 hm.2 (aAk _) (zW _) (zF (As := [.int x1]) (rest := [.int aHe, .ref a_m]) C0 hP hD hS (yS mk_277) hm.1 (aAl _) 0 10 rfl rfl (c_X10_downOf l dC dI cI cC cZ cB cJ a_m nY sJ eG iY lY jR jW jZ jO oQ bR aY jQ gY iJ mQ lJ jA bG mK jB mW mJ eJ dG H.size x1 bT aG jC aDZ bY jD mLn oF rP dQ aJ aB bW bZ aR aE bI aW bU fJ dO bM bQ bO jY oX oO _ hp) q_761 q_764 q_762 q_763 aBL h_X10_downOf rfl rfl ⟨lbz rfl, lbz rfl⟩ rfl rfl hl.1 rfl (lv_room (lbz rfl)) aVF.2.2.2.2.1 ⟨Nat.zero_le _, Nat.zero_le _⟩) (fun r_16 u H locs hp hP hD hS => ?_)
  have hPD := PDm (ws' := (aIJ cI cC cZ cB cJ a_m nY sJ eG iY lY jR jW jZ jO oQ bR aY jQ gY iJ mQ lJ jA bG mK jB mW mJ eJ dG bT aG jC aDZ bY jD mLn oF rP dQ aJ aB bW bZ aR aE bI aW bU fJ dO bM bQ bO jY oX qG m_x gR pW qR nG oO pJ qO aHj qQ sH)) hP hD 13 rfl rfl rfl
  have hP := hPD.1
  have hD := hPD.2
  refine lv_imul hx hb aVF.2.2.2.2.2.1 ?_
  refine lv_topi (fun v_17 ev_17 => ?_)
  have hp := hp v_17 ev_17
  have hm := mgk (wc := (aD0 cI cC cZ cB cJ a_m nY sJ eG iY lY jR jW jZ jO oQ bR aY jQ gY iJ mQ lJ jA bG mK jB mW mJ eJ dG bT aG jC aDZ bY jD mLn oF rP dQ aJ aB bW bZ aR aE bI aW bU fJ dO bM bQ bO jY oX aHj)) hP mk_275 13 rfl rfl rfl
  refine aBn hP hD hS hA (yS mk_275) (aAi mk_275) hm.1 hm.2 (aAk _) (zW _) (zF (As := [.int v_17]) (rest := []) C0 hP hD hS (yS mk_275) hm.1 (aAl _) 0 10 rfl rfl (aGE l dC dI cI cC cZ cB cJ a_m nY sJ eG iY lY jR jW jZ jO oQ bR aY jQ gY iJ mQ lJ jA bG mK jB mW mJ eJ dG H.size v_17 bT aG jC aDZ bY jD mLn oF rP dQ aJ aB bW bZ aR aE bI aW bU fJ dO bM bQ bO jY oX aHj _ hp) q_849 q_852 q_850 q_851 aBL aGF rfl rfl ⟨lbz rfl, lbz rfl⟩ rfl rfl hl.1 rfl (lv_room (lbz rfl)) aVF.2.2.2.2.2.2.1 ⟨Nat.zero_le _, Nat.zero_le _⟩) (fun u H locs hp hP hD hS => ?_)
  obtain ⟨m_rowMany_18, m_row_19⟩ := u
  have hPD := PDm (ws' := (aIJ cI cC cZ cB cJ a_m nY sJ eG iY lY jR jW jZ jO oQ bR aY jQ gY iJ mQ lJ jA bG mK jB mW mJ eJ dG bT aG jC m_rowMany_18 bY jD mLn oF rP dQ aJ aB bW bZ aR aE bI aW bU fJ dO bM bQ bO jY oX qG m_x gR pW qR nG oO pJ qO m_row_19 qQ sH)) hP hD 13 rfl rfl rfl
  have hP := hPD.1
  have hD := hPD.2
  refine lv_aload_n hx hb aVF.2.2.2.2.2.2.2.1 rfl (lv_at hl 0 rfl) ?_
  refine lv_iload_n hx hb aVF.2.2.2.2.2.2.2.2.1 rfl (lv_at hl 2 rfl) ?_
  refine lv_aload_n hx hb aVF.2.2.2.2.2.2.2.2.2.1 rfl (lv_at hl 0 rfl) ?_
  refine va_get (D := (dC, dI)) (ci := 10) (v := .ref nY) (C := zX) (T := aBe) (N := 51) hx hb hts aAt hown hK hP 0 rfl rfl 0 (lbz rfl) (hts _ aHO) (fun _ h9 => h9) rfl aVF.2.2.2.2.2.2.2.2.2.2.1 ?_
  refine lv_bipush (v := 16) hx hb aVF.2.2.2.2.2.2.2.2.2.2.2.1 bp_16 ?_
  refine va_iald hx hb hK hP 1 0 rfl rfl (g_in rfl) aVF.2.2.2.2.2.2.2.2.2.2.2.2.1 ?_
  refine lv_topi (fun v_20 ev_20 => ?_)
  have hp := hp v_20 ev_20
  have hm := mgk (wc := (aFo cI cC cZ cB cJ a_m nY sJ eG iY lY jR jW jZ jO oQ bR aY jQ gY iJ mQ lJ jA bG mK jB mW mJ eJ dG bT aG jC m_rowMany_18 bY jD mLn oF rP dQ aJ aB bW bZ aR aE bI aW bU fJ dO bM bQ bO jY oX pW)) hP mk_278 13 rfl rfl rfl
  refine yW hP hD hS hA (yS mk_278) (aAi mk_278) hm.1 hm.2 (aAk _) (zW _) (zF (As := [.int x2, .int v_20]) (rest := []) C0 hP hD hS (yS mk_278) hm.1 (aAl _) 0 10 rfl rfl (bCS l dC dI cI cC cZ cB cJ a_m nY sJ eG iY lY jR jW jZ jO oQ bR aY jQ gY iJ mQ lJ jA bG mK jB mW mJ eJ dG H.size x2 v_20 bT aG jC m_rowMany_18 bY jD mLn oF rP dQ aJ aB bW bZ aR aE bI aW bU fJ dO bM bQ bO jY oX pW _ hp) q_865 q_868 q_866 q_867 aBL bCV rfl rfl ⟨lbz rfl, lbz rfl⟩ rfl rfl hl.1 rfl (lv_room (lbz rfl)) aVF.2.2.2.2.2.2.2.2.2.2.2.2.2.1 ⟨Nat.zero_le _, Nat.zero_le _⟩) (fun r_21 u H locs hp hP hD hS => ?_)
  have hPD := PDm (ws' := (aIJ cI cC cZ cB cJ a_m nY sJ eG iY lY jR jW jZ jO oQ bR aY jQ gY iJ mQ lJ jA bG mK jB mW mJ eJ dG bT aG jC m_rowMany_18 bY jD mLn oF rP dQ aJ aB bW bZ aR aE bI aW bU fJ dO bM bQ bO jY oX qG m_x gR pW qR nG oO pJ qO m_row_19 qQ sH)) hP hD 13 rfl rfl rfl
  have hP := hPD.1
  have hD := hPD.2
  exact W.iret (v := r_21) hx hb hr (fun t ht hW => ⟨⟨r_21, (m_rowMany_18, bY, jD, mLn, oF, rP, dQ, bZ, aR, aE, bI, aW, dO, m_row_19, sH), rfl, hp, by rw [ht]; exact hP, va_K.moved hW.alike hK, hD⟩, hS.F ht⟩) hS.2.2 aVF.2.2.2.2.2.2.2.2.2.2.2.2.2.2
def ws_X10_pays_68 (post : Int32 -> Int32 -> Int32 -> Nat -> Int32 -> Int32 -> Int32 -> Int32 -> Int32 -> Int32 -> Int32 -> Int32 -> Int32 -> Int32 -> (Nat -> Int32) -> (Nat -> Int32) -> Prop) (K36 : Int32 -> Int32 -> Int32 -> Int32 -> Int32 -> Int32 -> Nat -> Int32 -> Int32 -> Int32 -> Int32 -> Int32 -> Int32 -> Int32 -> Int32 -> Int32 -> Int32 -> (Nat -> Int32) -> (Nat -> Int32) -> Prop) (bT aG bW : Int32) (qG m_x gR pW qR nG oO pJ qO qQ : Nat -> Int32) (x1 x2 x4 k0 k1 bL bY : Int32) (jD : Nat) (mLn oF rP dQ bZ aR aE bI aW dO : Int32) (sW sH : Nat -> Int32) : Prop := ∀ v_23 : Int32, v_23 = k0 + k1 -> ∀ v_24 : Int32, v_24 = x4 + 1 -> K36 x1 x2 v_23 v_24 bL bY jD mLn oF rP dQ bZ aR aE bI aW dO sW sH
set_option maxHeartbeats 4000000 in
set_option maxRecDepth 100000 in
theorem ks_X10_pays_68 (C0 : gc aCm (some .int) 5 zX (dC, dI) (tyl cI cC cZ cB cJ) A p s m args meth c) {K36 : Int32 -> Int32 -> Int32 -> Int32 -> Int32 -> Int32 -> Nat -> Int32 -> Int32 -> Int32 -> Int32 -> Int32 -> Int32 -> Int32 -> Int32 -> Int32 -> Int32 -> (Nat -> Int32) -> (Nat -> Int32) -> Prop} (hK36 : ∀ (x1 : Int32) (x2 : Int32) (x3 : Int32) (x4 : Int32) (bL : Int32) (bY : Int32) (jD : Nat) (mLn : Int32) (oF : Int32) (rP : Int32) (dQ : Int32) (bZ : Int32) (aR : Int32) (aE : Int32) (bI : Int32) (aW : Int32) (dO : Int32) (sW : Nat -> Int32) (sH : Nat -> Int32) (H : Heap) (locs : List Loc) (ls : Array Slot), K36 x1 x2 x3 x4 bL bY jD mLn oF rP dQ bZ aR aE bI aW dO sW sH -> va_P (dC, dI) classes (aIJ cI cC cZ cB cJ a_m nY sJ eG iY lY jR jW jZ jO oQ bR aY jQ gY iJ mQ lJ jA bG mK jB mW mJ eJ dG bT aG jC bL bY jD mLn oF rP dQ aJ aB bW bZ aR aE bI aW bU fJ dO bM bQ bO jY oX qG m_x gR pW qR nG oO pJ qO sW qQ sH) H -> va_D A (aIJ cI cC cZ cB cJ a_m nY sJ eG iY lY jR jW jZ jO oQ bR aY jQ gY iJ mQ lJ jA bG mK jB mW mJ eJ dG bT aG jC bL bY jD mLn oF rP dQ aJ aB bW bZ aR aE bI aW bU fJ dO bM bQ bO jY oX qG m_x gR pW qR nG oO pJ qO sW qQ sH) -> va_S A s.heap H locs -> lv_has ls 5 [(0, .ref a_m), (1, .int x1), (2, .int x2), (3, .int x3), (4, .int x4)] -> W p l e rm_X10_pays s m args below meth c H locs 0 0 (MQ below (q_X10_pays dC dI cI cC cZ cB cJ A a_m nY sJ eG iY lY jR jW jZ jO oQ bR aY jQ gY iJ mQ lJ jA bG mK jB mW mJ eJ dG bT aG jC aJ aB bW bU fJ bM bQ bO jY oX qG m_x gR pW qR nG oO pJ qO qQ post) args s 0 0 A) (F0 m 36 ls [])) : ∀ (x1 x2 x4 k0 k1 bL bY : Int32) (jD : Nat) (mLn oF rP dQ bZ aR aE bI aW dO : Int32) (sW sH : Nat -> Int32) (H : Heap) (locs : List Loc) (ls : Array Slot), (ws_X10_pays_68 post K36 bT aG bW qG m_x gR pW qR nG oO pJ qO qQ) x1 x2 x4 k0 k1 bL bY jD mLn oF rP dQ bZ aR aE bI aW dO sW sH -> va_P (dC, dI) classes (aIJ cI cC cZ cB cJ a_m nY sJ eG iY lY jR jW jZ jO oQ bR aY jQ gY iJ mQ lJ jA bG mK jB mW mJ eJ dG bT aG jC bL bY jD mLn oF rP dQ aJ aB bW bZ aR aE bI aW bU fJ dO bM bQ bO jY oX qG m_x gR pW qR nG oO pJ qO sW qQ sH) H -> va_D A (aIJ cI cC cZ cB cJ a_m nY sJ eG iY lY jR jW jZ jO oQ bR aY jQ gY iJ mQ lJ jA bG mK jB mW mJ eJ dG bT aG jC bL bY jD mLn oF rP dQ aJ aB bW bZ aR aE bI aW bU fJ dO bM bQ bO jY oX qG m_x gR pW qR nG oO pJ qO sW qQ sH) -> va_S A s.heap H locs -> lv_has ls 5 [(0, .ref a_m), (1, .int x1), (2, .int x2), (4, .int x4)] -> W p l e rm_X10_pays s m args below meth c H locs 0 0 (MQ below (q_X10_pays dC dI cI cC cZ cB cJ A a_m nY sJ eG iY lY jR jW jZ jO oQ bR aY jQ gY iJ mQ lJ jA bG mK jB mW mJ eJ dG bT aG jC aJ aB bW bU fJ bM bQ bO jY oX qG m_x gR pW qR nG oO pJ qO qQ post) args s 0 0 A) (F0 m 68 ls [.int k1, .int k0]) := by
  obtain ⟨hx, hb, hr, hml, hown, hts, hlocks, hA, hK, hN, tL, tM, hZL, hTL, hZM, hTM, hZX⟩ := id C0
  intro x1 x2 x4 k0 k1 bL bY jD mLn oF rP dQ bZ aR aE bI aW dO sW sH H locs ls hp hP hD hS hl
  unfold ws_X10_pays_68 at hp
  refine lv_iadd hx hb aWL.2.2.2.2.2.2.2.2.1 ?_
  refine lv_topi (fun v_23 ev_23 => ?_)
  have hp := hp v_23 ev_23
  refine lv_istore_n (lv' := [(3, .int v_23), (0, .ref a_m), (1, .int x1), (2, .int x2), (4, .int x4)]) hx hb aWL.2.2.2.2.2.2.2.2.2.1 rfl hl (by decide) rfl (fun ls hl => ?_)
  obtain ⟨v_24, ev_24⟩ : ∃ y : Int32, y = x4 + 1 := ⟨_, rfl⟩
  refine lv_iinc (v := v_24) (lv' := [(4, .int v_24), (3, .int v_23), (0, .ref a_m), (1, .int x1), (2, .int x2)]) hx hb aWL.2.2.2.2.2.2.2.2.2.2.1 hl (k := 4) rfl (by rw [ev_24]; rfl) (by decide) rfl (fun ls hl => ?_)
  have hp := hp v_24 ev_24
  refine lv_goto (tgt := 36) hx hb aWL.2.2.2.2.2.2.2.2.2.2.2.1 (by decide) ?_
  exact hK36 x1 x2 v_23 v_24 bL bY jD mLn oF rP dQ bZ aR aE bI aW dO sW sH H locs ls hp hP hD hS (lv_sub hl [2, 3, 4, 1, 0] rfl)
def ws_X10_pays_36 (post : Int32 -> Int32 -> Int32 -> Nat -> Int32 -> Int32 -> Int32 -> Int32 -> Int32 -> Int32 -> Int32 -> Int32 -> Int32 -> Int32 -> (Nat -> Int32) -> (Nat -> Int32) -> Prop) (next : Int32 -> Int32 -> Int32 -> Int32 -> Int32 -> Int32 -> Nat -> Int32 -> Int32 -> Int32 -> Int32 -> Int32 -> Int32 -> Int32 -> Int32 -> Int32 -> Int32 -> (Nat -> Int32) -> (Nat -> Int32) -> Prop) (bT aG bW : Int32) (qG m_x gR pW qR nG oO pJ qO qQ : Nat -> Int32) (x1 x2 x3 x4 bL bY : Int32) (jD : Nat) (mLn oF rP dQ bZ aR aE bI aW dO : Int32) (sW sH : Nat -> Int32) : Prop := (bT <= x4 -> ∀ v_5 : Int32, v_5 = qG (17 : Int32).toNatClampNeg -> (¬ v_5 = x1 -> ∀ v_6 : Int32, v_6 = qG (17 : Int32).toNatClampNeg -> bCI (fun r_7 => ws_X10_pays_109 post bT aG bW qG m_x gR pW qR nG oO pJ qO qQ x1 x2 x3 r_7 0 bY jD mLn oF rP dQ bZ aR aE bI aW dO sW sH) v_6 x1 nG pJ) /\ (v_5 = x1 -> ws_X10_pays_109 post bT aG bW qG m_x gR pW qR nG oO pJ qO qQ x1 x2 x3 0 0 bY jD mLn oF rP dQ bZ aR aE bI aW dO sW sH)) /\ (¬ bT <= x4 -> aKc (fun r_22 => (r_22 = 0 -> ws_X10_pays_68 post next bT aG bW qG m_x gR pW qR nG oO pJ qO qQ x1 x2 x4 x3 0 bL bY jD mLn oF rP dQ bZ aR aE bI aW dO sW sH) /\ (¬ r_22 = 0 -> aXm (fun r_25 m_read_26 m_length_27 m_top_28 m_at_29 m_wrong_30 m_isAsked_31 m_askedFruit_32 m_askedStanding_33 m_askedHook_34 m_askedApron_35 => ws_X10_pays_68 post next bT aG bW qG m_x gR pW qR nG oO pJ qO qQ x1 x2 x4 x3 r_25 bL bY m_read_26 m_length_27 m_top_28 m_at_29 m_wrong_30 m_isAsked_31 m_askedFruit_32 m_askedStanding_33 m_askedHook_34 m_askedApron_35 dO sW sH) x4 x1 0 0 jD mLn oF rP dQ bW bZ aR aE bI aW m_x gR pW nG oO qO qQ)) x2 x4)
noncomputable def wb_X10_pays_36 (post : Int32 -> Int32 -> Int32 -> Nat -> Int32 -> Int32 -> Int32 -> Int32 -> Int32 -> Int32 -> Int32 -> Int32 -> Int32 -> Int32 -> (Nat -> Int32) -> (Nat -> Int32) -> Prop) (bT aG bW : Int32) (qG m_x gR pW qR nG oO pJ qO qQ : Nat -> Int32) : Nat -> Int32 -> Int32 -> Int32 -> Int32 -> Int32 -> Int32 -> Nat -> Int32 -> Int32 -> Int32 -> Int32 -> Int32 -> Int32 -> Int32 -> Int32 -> Int32 -> Int32 -> (Nat -> Int32) -> (Nat -> Int32) -> Prop := fun n => Nat.rec (motive := fun _ => Int32 -> Int32 -> Int32 -> Int32 -> Int32 -> Int32 -> Nat -> Int32 -> Int32 -> Int32 -> Int32 -> Int32 -> Int32 -> Int32 -> Int32 -> Int32 -> Int32 -> (Nat -> Int32) -> (Nat -> Int32) -> Prop) (fun _ _ _ _ _ _ _ _ _ _ _ _ _ _ _ _ _ _ _ => False) (fun _ ih => ws_X10_pays_36 post ih bT aG bW qG m_x gR pW qR nG oO pJ qO qQ) n
set_option maxHeartbeats 4000000 in
set_option maxRecDepth 100000 in
theorem ks_X10_pays_36 (C0 : gc aCm (some .int) 5 zX (dC, dI) (tyl cI cC cZ cB cJ) A p s m args meth c) {next : Int32 -> Int32 -> Int32 -> Int32 -> Int32 -> Int32 -> Nat -> Int32 -> Int32 -> Int32 -> Int32 -> Int32 -> Int32 -> Int32 -> Int32 -> Int32 -> Int32 -> (Nat -> Int32) -> (Nat -> Int32) -> Prop} (hKn : ∀ (x1 : Int32) (x2 : Int32) (x3 : Int32) (x4 : Int32) (bL : Int32) (bY : Int32) (jD : Nat) (mLn : Int32) (oF : Int32) (rP : Int32) (dQ : Int32) (bZ : Int32) (aR : Int32) (aE : Int32) (bI : Int32) (aW : Int32) (dO : Int32) (sW : Nat -> Int32) (sH : Nat -> Int32) (H : Heap) (locs : List Loc) (ls : Array Slot), next x1 x2 x3 x4 bL bY jD mLn oF rP dQ bZ aR aE bI aW dO sW sH -> va_P (dC, dI) classes (aIJ cI cC cZ cB cJ a_m nY sJ eG iY lY jR jW jZ jO oQ bR aY jQ gY iJ mQ lJ jA bG mK jB mW mJ eJ dG bT aG jC bL bY jD mLn oF rP dQ aJ aB bW bZ aR aE bI aW bU fJ dO bM bQ bO jY oX qG m_x gR pW qR nG oO pJ qO sW qQ sH) H -> va_D A (aIJ cI cC cZ cB cJ a_m nY sJ eG iY lY jR jW jZ jO oQ bR aY jQ gY iJ mQ lJ jA bG mK jB mW mJ eJ dG bT aG jC bL bY jD mLn oF rP dQ aJ aB bW bZ aR aE bI aW bU fJ dO bM bQ bO jY oX qG m_x gR pW qR nG oO pJ qO sW qQ sH) -> va_S A s.heap H locs -> lv_has ls 5 [(0, .ref a_m), (1, .int x1), (2, .int x2), (3, .int x3), (4, .int x4)] -> W p l e rm_X10_pays s m args below meth c H locs 0 0 (MQ below (q_X10_pays dC dI cI cC cZ cB cJ A a_m nY sJ eG iY lY jR jW jZ jO oQ bR aY jQ gY iJ mQ lJ jA bG mK jB mW mJ eJ dG bT aG jC aJ aB bW bU fJ bM bQ bO jY oX qG m_x gR pW qR nG oO pJ qO qQ post) args s 0 0 A) (F0 m 36 ls [])) : ∀ (x1 x2 x3 x4 bL bY : Int32) (jD : Nat) (mLn oF rP dQ bZ aR aE bI aW dO : Int32) (sW sH : Nat -> Int32) (H : Heap) (locs : List Loc) (ls : Array Slot), (ws_X10_pays_36 post next bT aG bW qG m_x gR pW qR nG oO pJ qO qQ) x1 x2 x3 x4 bL bY jD mLn oF rP dQ bZ aR aE bI aW dO sW sH -> va_P (dC, dI) classes (aIJ cI cC cZ cB cJ a_m nY sJ eG iY lY jR jW jZ jO oQ bR aY jQ gY iJ mQ lJ jA bG mK jB mW mJ eJ dG bT aG jC bL bY jD mLn oF rP dQ aJ aB bW bZ aR aE bI aW bU fJ dO bM bQ bO jY oX qG m_x gR pW qR nG oO pJ qO sW qQ sH) H -> va_D A (aIJ cI cC cZ cB cJ a_m nY sJ eG iY lY jR jW jZ jO oQ bR aY jQ gY iJ mQ lJ jA bG mK jB mW mJ eJ dG bT aG jC bL bY jD mLn oF rP dQ aJ aB bW bZ aR aE bI aW bU fJ dO bM bQ bO jY oX qG m_x gR pW qR nG oO pJ qO sW qQ sH) -> va_S A s.heap H locs -> lv_has ls 5 [(0, .ref a_m), (1, .int x1), (2, .int x2), (3, .int x3), (4, .int x4)] -> W p l e rm_X10_pays s m args below meth c H locs 0 0 (MQ below (q_X10_pays dC dI cI cC cZ cB cJ A a_m nY sJ eG iY lY jR jW jZ jO oQ bR aY jQ gY iJ mQ lJ jA bG mK jB mW mJ eJ dG bT aG jC aJ aB bW bU fJ bM bQ bO jY oX qG m_x gR pW qR nG oO pJ qO qQ post) args s 0 0 A) (F0 m 36 ls []) := by
  obtain ⟨hx, hb, hr, hml, hown, hts, hlocks, hA, hK, hN, tL, tM, hZL, hTL, hZM, hTM, hZX⟩ := id C0
  intro x1 x2 x3 x4 bL bY jD mLn oF rP dQ bZ aR aE bI aW dO sW sH H locs ls hp hP hD hS hl
  unfold ws_X10_pays_36 at hp
  refine lv_iload hx hb aWK.2.2.2.2.2.2.2.1 (lv_at hl 4 rfl) ?_
  refine lv_aload_n hx hb aWK.2.2.2.2.2.2.2.2.1 rfl (lv_at hl 0 rfl) ?_
  refine va_get (D := (dC, dI)) (ci := 10) (v := .int bT) (C := zX) (T := aBe) (N := 51) hx hb hts aAt hown hK hP 0 rfl rfl 1 (lbz rfl) (hts _ q_677) (fun _ h9 => h9) rfl aWK.2.2.2.2.2.2.2.2.2.1 ?_
  refine lv_icmp_ge (tgt := 76) hx hb aWK.2.2.2.2.2.2.2.2.2.2.1 (by decide) (fun hc => ?_) (fun hc => ?_)
  · have hp := hp.1 hc
    refine lv_aload_n hx hb aWL.2.2.2.2.2.2.2.2.2.2.2.2.1 rfl (lv_at hl 0 rfl) ?_
    refine lv_iconst (v := 0) hx hb aWL.2.2.2.2.2.2.2.2.2.2.2.2.2.1 aCi ?_
    refine va_put (D := (dC, dI)) (ci := 10) (v := .int 0) (ty := .int) (C := zX) (T := aBe) (N := 51) hx hb hts aAt aD2 aAa aEC hown hK hP hD hS 0 rfl rfl 13 (lbz rfl) (hts _ q_847) (fun _ h9 => h9) rfl (aAa 13 (lbz rfl)) rfl rfl (lbz rfl) aWL.2.2.2.2.2.2.2.2.2.2.2.2.2.2.1 (fun H locs hP hD hS => ?_)
    have hPD := PDw (ws' := (aIJ cI cC cZ cB cJ a_m nY sJ eG iY lY jR jW jZ jO oQ bR aY jQ gY iJ mQ lJ jA bG mK jB mW mJ eJ dG bT aG jC 0 bY jD mLn oF rP dQ aJ aB bW bZ aR aE bI aW bU fJ dO bM bQ bO jY oX qG m_x gR pW qR nG oO pJ qO sW qQ sH)) hP hD rfl
    have hP := hPD.1
    have hD := hPD.2
    refine lv_aload_n hx hb aWL.2.2.2.2.2.2.2.2.2.2.2.2.2.2.2 rfl (lv_at hl 0 rfl) ?_
    refine lv_aload_n hx hb aWM.1 rfl (lv_at hl 0 rfl) ?_
    refine va_get (D := (dC, dI)) (ci := 10) (v := .ref nY) (C := zX) (T := aBe) (N := 51) hx hb hts aAt hown hK hP 0 rfl rfl 0 (lbz rfl) (hts _ aHO) (fun _ h9 => h9) rfl aWM.2.1 ?_
    refine lv_bipush (v := 17) hx hb aWM.2.2.1 bp_17 ?_
    refine va_iald hx hb hK hP 1 0 rfl rfl (g_in rfl) aWM.2.2.2.1 ?_
    refine lv_topi (fun v_5 aJD => ?_)
    have hp := hp v_5 aJD
    refine lv_iload_n hx hb aWM.2.2.2.2.1 rfl (lv_at hl 1 rfl) ?_
    refine lv_icmp_ne (tgt := 97) hx hb aWM.2.2.2.2.2.1 (by decide) (fun hc => ?_) (fun hc => ?_)
    · have hp := hp.1 hc
      refine lv_aload_n hx hb aWM.2.2.2.2.2.2.2.2.1 rfl (lv_at hl 0 rfl) ?_
      refine lv_aload_n hx hb aWM.2.2.2.2.2.2.2.2.2.1 rfl (lv_at hl 0 rfl) ?_
      refine va_get (D := (dC, dI)) (ci := 10) (v := .ref nY) (C := zX) (T := aBe) (N := 51) hx hb hts aAt hown hK hP 0 rfl rfl 0 (lbz rfl) (hts _ aHO) (fun _ h9 => h9) rfl aWM.2.2.2.2.2.2.2.2.2.2.1 ?_
      refine lv_bipush (v := 17) hx hb aWM.2.2.2.2.2.2.2.2.2.2.2.1 bp_17 ?_
      refine va_iald hx hb hK hP 1 0 rfl rfl (g_in rfl) aWM.2.2.2.2.2.2.2.2.2.2.2.2.1 ?_
      refine lv_topi (fun v_6 ev_6 => ?_)
      have hp := hp v_6 ev_6
      refine lv_iload_n hx hb aWM.2.2.2.2.2.2.2.2.2.2.2.2.2.1 rfl (lv_at hl 1 rfl) ?_
      have hm := mgk (wc := (wd_X10_moveOf cI cC cZ cB cJ a_m nY sJ eG iY lY jR jW jZ jO oQ bR aY jQ gY iJ mQ lJ jA bG mK jB mW mJ eJ dG bT aG jC 0 bY jD mLn oF rP dQ aJ aB bW bZ aR aE bI aW bU fJ dO bM bQ bO jY oX nG pJ)) hP mk_279 13 rfl rfl rfl
      refine yW hP hD hS hA (yS mk_279) (aAi mk_279) hm.1 hm.2 (aAk _) (zW _) (zF (As := [.int v_6, .int x1]) (rest := [.ref a_m]) C0 hP hD hS (yS mk_279) hm.1 (aAl _) 0 10 rfl rfl (c_X10_moveOf l dC dI cI cC cZ cB cJ a_m nY sJ eG iY lY jR jW jZ jO oQ bR aY jQ gY iJ mQ lJ jA bG mK jB mW mJ eJ dG H.size v_6 x1 bT aG jC 0 bY jD mLn oF rP dQ aJ aB bW bZ aR aE bI aW bU fJ dO bM bQ bO jY oX nG pJ _ hp) q_771 q_774 q_772 q_773 aBL h_X10_moveOf rfl rfl ⟨lbz rfl, lbz rfl⟩ rfl rfl hl.1 rfl (lv_room (lbz rfl)) aWM.2.2.2.2.2.2.2.2.2.2.2.2.2.2.1 ⟨Nat.zero_le _, Nat.zero_le _⟩) (fun r_7 u H locs hp hP hD hS => ?_)
      have hPD := PDm (ws' := (aIJ cI cC cZ cB cJ a_m nY sJ eG iY lY jR jW jZ jO oQ bR aY jQ gY iJ mQ lJ jA bG mK jB mW mJ eJ dG bT aG jC 0 bY jD mLn oF rP dQ aJ aB bW bZ aR aE bI aW bU fJ dO bM bQ bO jY oX qG m_x gR pW qR nG oO pJ qO sW qQ sH)) hP hD 13 rfl rfl rfl
      have hP := hPD.1
      have hD := hPD.2
      exact ks_X10_pays_109 C0 x1 x2 x3 r_7 0 bY jD mLn oF rP dQ bZ aR aE bI aW dO sW sH H locs ls hp hP hD hS (lv_sub hl [0, 1, 2, 3] rfl)
    · have hp := hp.2 hc
      refine lv_iconst (v := 0) hx hb aWM.2.2.2.2.2.2.1 aCi ?_
      refine lv_goto (tgt := 109) hx hb aWM.2.2.2.2.2.2.2.1 (by decide) ?_
      exact ks_X10_pays_109 C0 x1 x2 x3 0 0 bY jD mLn oF rP dQ bZ aR aE bI aW dO sW sH H locs ls hp hP hD hS (lv_sub hl [0, 1, 2, 3] rfl)
  · have hp := hp.2 hc
    refine lv_iload_n hx hb aWK.2.2.2.2.2.2.2.2.2.2.2.1 rfl (lv_at hl 3 rfl) ?_
    refine lv_iload_n hx hb aWK.2.2.2.2.2.2.2.2.2.2.2.2.1 rfl (lv_at hl 2 rfl) ?_
    refine lv_iload hx hb aWK.2.2.2.2.2.2.2.2.2.2.2.2.2.1 (lv_at hl 4 rfl) ?_
    have hm := mgk (wc := (aLW cI cC cZ cB cJ)) hP mk_276 13 rfl rfl rfl
    refine yW hP hD hS hA (yS mk_276) (aAi mk_276) hm.1 hm.2 (aAk _) (zW _) (aDn (As := [.int x2, .int x4]) (rest := [.int x3]) C0 hP hD hS (yS mk_276) hm.1 (aAl _) (aUP l dC dI cI cC cZ cB cJ H.size x2 x4 _ hp) q_734 q_736 q_735 aBL aUT rfl rfl ⟨lbz rfl, lbz rfl⟩ rfl rfl hl.1 rfl (lv_room (lbz rfl)) aWK.2.2.2.2.2.2.2.2.2.2.2.2.2.2.1 ⟨Nat.zero_le _, Nat.zero_le _⟩) (fun r_22 u H locs hp hP hD hS => ?_)
    have hPD := PDm (ws' := (aIJ cI cC cZ cB cJ a_m nY sJ eG iY lY jR jW jZ jO oQ bR aY jQ gY iJ mQ lJ jA bG mK jB mW mJ eJ dG bT aG jC bL bY jD mLn oF rP dQ aJ aB bW bZ aR aE bI aW bU fJ dO bM bQ bO jY oX qG m_x gR pW qR nG oO pJ qO sW qQ sH)) hP hD 13 rfl rfl rfl
    have hP := hPD.1
    have hD := hPD.2
    refine lv_if_eq (tgt := 67) hx hb aWK.2.2.2.2.2.2.2.2.2.2.2.2.2.2.2 (by decide) (fun hc => ?_) (fun hc => ?_)
    · have hp := hp.1 hc
      refine lv_iconst (v := 0) hx hb aWL.2.2.2.2.2.2.2.1 aCi ?_
      exact ks_X10_pays_68 C0 hKn x1 x2 x4 x3 0 bL bY jD mLn oF rP dQ bZ aR aE bI aW dO sW sH H locs ls hp hP hD hS (lv_sub hl [0, 1, 2, 4] rfl)
    · have hp := hp.2 hc
      refine lv_aload_n hx hb aWL.1 rfl (lv_at hl 0 rfl) ?_
      refine lv_iload hx hb aWL.2.1 (lv_at hl 4 rfl) ?_
      refine lv_iload_n hx hb aWL.2.2.1 rfl (lv_at hl 1 rfl) ?_
      refine lv_iconst (v := 0) hx hb aWL.2.2.2.1 aCi ?_
      refine lv_iconst (v := 0) hx hb aWL.2.2.2.2.1 aCi ?_
      have hm := mgk (wc := (aFV cI cC cZ cB cJ a_m nY sJ eG iY lY jR jW jZ jO oQ bR aY jQ gY iJ mQ lJ jA bG mK jB mW mJ eJ dG bT aG jC bL bY jD mLn oF rP dQ aJ aB bW bZ aR aE bI aW bU fJ dO bM bQ bO jY oX m_x gR pW nG oO qO qQ)) hP mk_280 13 rfl rfl rfl
      refine yW hP hD hS hA (yS mk_280) (aAi mk_280) hm.1 hm.2 (aAk _) (zW _) (zF (As := [.int x4, .int x1, .int 0, .int 0]) (rest := [.int x3]) C0 hP hD hS (yS mk_280) hm.1 (aAl _) 0 10 rfl rfl (c_X10_secondsOf l dC dI cI cC cZ cB cJ a_m nY sJ eG iY lY jR jW jZ jO oQ bR aY jQ gY iJ mQ lJ jA bG mK jB mW mJ eJ dG H.size x4 x1 0 0 bT aG jC bL bY jD mLn oF rP dQ aJ aB bW bZ aR aE bI aW bU fJ dO bM bQ bO jY oX m_x gR pW nG oO qO qQ _ hp) q_804 q_807 q_805 q_806 aBL h_X10_secondsOf rfl rfl ⟨lbz rfl, lbz rfl⟩ rfl rfl hl.1 rfl (lv_room (lbz rfl)) aWL.2.2.2.2.2.1 ⟨Nat.zero_le _, Nat.zero_le _⟩) (fun r_25 u H locs hp hP hD hS => ?_)
      obtain ⟨m_read_26, m_length_27, m_top_28, m_at_29, m_wrong_30, m_isAsked_31, m_askedFruit_32, m_askedStanding_33, m_askedHook_34, m_askedApron_35⟩ := u
      have hPD := PDm (ws' := (aIJ cI cC cZ cB cJ a_m nY sJ eG iY lY jR jW jZ jO oQ bR aY jQ gY iJ mQ lJ jA bG mK jB mW mJ eJ dG bT aG jC bL bY m_read_26 m_length_27 m_top_28 m_at_29 m_wrong_30 aJ aB bW m_isAsked_31 m_askedFruit_32 m_askedStanding_33 m_askedHook_34 m_askedApron_35 bU fJ dO bM bQ bO jY oX qG m_x gR pW qR nG oO pJ qO sW qQ sH)) hP hD 13 rfl rfl rfl
      have hP := hPD.1
      have hD := hPD.2
      refine lv_goto (tgt := 68) hx hb aWL.2.2.2.2.2.2.1 (by decide) ?_
      exact ks_X10_pays_68 C0 hKn x1 x2 x4 x3 r_25 bL bY m_read_26 m_length_27 m_top_28 m_at_29 m_wrong_30 m_isAsked_31 m_askedFruit_32 m_askedStanding_33 m_askedHook_34 m_askedApron_35 dO sW sH H locs ls hp hP hD hS (lv_sub hl [0, 1, 2, 4] rfl)
set_option maxHeartbeats 4000000 in
set_option maxRecDepth 100000 in
theorem kb_X10_pays_36 (C0 : gc aCm (some .int) 5 zX (dC, dI) (tyl cI cC cZ cB cJ) A p s m args meth c) : ∀ (n : Nat), ∀ (x1 x2 x3 x4 bL bY : Int32) (jD : Nat) (mLn oF rP dQ bZ aR aE bI aW dO : Int32) (sW sH : Nat -> Int32) (H : Heap) (locs : List Loc) (ls : Array Slot), (wb_X10_pays_36 post bT aG bW qG m_x gR pW qR nG oO pJ qO qQ n) x1 x2 x3 x4 bL bY jD mLn oF rP dQ bZ aR aE bI aW dO sW sH -> va_P (dC, dI) classes (aIJ cI cC cZ cB cJ a_m nY sJ eG iY lY jR jW jZ jO oQ bR aY jQ gY iJ mQ lJ jA bG mK jB mW mJ eJ dG bT aG jC bL bY jD mLn oF rP dQ aJ aB bW bZ aR aE bI aW bU fJ dO bM bQ bO jY oX qG m_x gR pW qR nG oO pJ qO sW qQ sH) H -> va_D A (aIJ cI cC cZ cB cJ a_m nY sJ eG iY lY jR jW jZ jO oQ bR aY jQ gY iJ mQ lJ jA bG mK jB mW mJ eJ dG bT aG jC bL bY jD mLn oF rP dQ aJ aB bW bZ aR aE bI aW bU fJ dO bM bQ bO jY oX qG m_x gR pW qR nG oO pJ qO sW qQ sH) -> va_S A s.heap H locs -> lv_has ls 5 [(0, .ref a_m), (1, .int x1), (2, .int x2), (3, .int x3), (4, .int x4)] -> W p l e rm_X10_pays s m args below meth c H locs 0 0 (MQ below (q_X10_pays dC dI cI cC cZ cB cJ A a_m nY sJ eG iY lY jR jW jZ jO oQ bR aY jQ gY iJ mQ lJ jA bG mK jB mW mJ eJ dG bT aG jC aJ aB bW bU fJ bM bQ bO jY oX qG m_x gR pW qR nG oO pJ qO qQ post) args s 0 0 A) (F0 m 36 ls []) := by
  intro n
  induction n with
  | zero =>
    intro x1 x2 x3 x4 bL bY jD mLn oF rP dQ bZ aR aE bI aW dO sW sH H locs ls hp
    exact False.elim hp
  | succ n ih =>
    intro x1 x2 x3 x4 bL bY jD mLn oF rP dQ bZ aR aE bI aW dO sW sH H locs ls hp
    exact ks_X10_pays_36 C0 ih x1 x2 x3 x4 bL bY jD mLn oF rP dQ bZ aR aE bI aW dO sW sH H locs ls hp
end S_X10_pays
def wp_X10_pays (post : Int32 -> Int32 -> Int32 -> Nat -> Int32 -> Int32 -> Int32 -> Int32 -> Int32 -> Int32 -> Int32 -> Int32 -> Int32 -> Int32 -> (Nat -> Int32) -> (Nat -> Int32) -> Prop) (p0 bT aG bL bY : Int32) (jD : Nat) (mLn oF rP dQ bW bZ aR aE bI aW dO : Int32) (qG m_x gR pW qR nG oO pJ qO sW qQ sH : Nat -> Int32) : Prop := aJI (fun r_1 => (¬ r_1 = 0 -> aJm (fun aDd aH4 => vp_in p0 8 /\ (∀ v_4 : Int32, v_4 = aDd &&& (aH4 p0.toNatClampNeg) -> ∃ n : Nat, wb_X10_pays_36 post bT aG bW qG m_x gR pW qR nG oO pJ qO qQ n p0 v_4 0 0 bL 0 jD mLn oF rP dQ bZ aR aE bI aW aDd sW aH4)) bT aG dO qG m_x gR qR nG oO pJ sH) /\ (r_1 = 0 -> post (-1) bL 0 jD mLn oF rP dQ bZ aR aE bI aW dO sW sH)) p0 aG
set_option maxHeartbeats 4000000 in
set_option maxRecDepth 100000 in
theorem c_X10_pays (l : Launch) (dC : Nat -> ClassId) (dI : Nat -> Nat -> Nat) (cI cC cZ cB cJ : ClassId) (a_m nY sJ eG iY lY jR jW jZ jO oQ bR aY jQ gY iJ mQ lJ jA bG mK jB mW mJ eJ dG sz : Nat) (p0 bT aG jC bL bY : Int32) (jD : Nat) (mLn oF rP dQ aJ aB bW bZ aR aE bI aW bU fJ dO bM bQ bO jY oX : Int32) (qG m_x gR pW qR nG oO pJ qO sW qQ sH : Nat -> Int32) (post : Int32 -> Int32 -> Int32 -> Nat -> Int32 -> Int32 -> Int32 -> Int32 -> Int32 -> Int32 -> Int32 -> Int32 -> Int32 -> Int32 -> (Nat -> Int32) -> (Nat -> Int32) -> Prop) (hw : wp_X10_pays post p0 bT aG bL bY jD mLn oF rP dQ bW bZ aR aE bI aW dO qG m_x gR pW qR nG oO pJ qO sW qQ sH) : Met l yX10_pays (gw yX10_pays aCm 5 (some .int)) rm_X10_pays (va_Pc [.ref a_m, .int p0] (gPre (dC, dI) (tyl cI cC cZ cB cJ) (aIJ cI cC cZ cB cJ a_m nY sJ eG iY lY jR jW jZ jO oQ bR aY jQ gY iJ mQ lJ jA bG mK jB mW mJ eJ dG bT aG jC bL bY jD mLn oF rP dQ aJ aB bW bZ aR aE bI aW bU fJ dO bM bQ bO jY oX qG m_x gR pW qR nG oO pJ qO sW qQ sH) sz)) (q_X10_pays dC dI cI cC cZ cB cJ (va_A (aIJ cI cC cZ cB cJ a_m nY sJ eG iY lY jR jW jZ jO oQ bR aY jQ gY iJ mQ lJ jA bG mK jB mW mJ eJ dG bT aG jC bL bY jD mLn oF rP dQ aJ aB bW bZ aR aE bI aW bU fJ dO bM bQ bO jY oX qG m_x gR pW qR nG oO pJ qO sW qQ sH) sz) a_m nY sJ eG iY lY jR jW jZ jO oQ bR aY jQ gY iJ mQ lJ jA bG mK jB mW mJ eJ dG bT aG jC aJ aB bW bU fJ bM bQ bO jY oX qG m_x gR pW qR nG oO pJ qO qQ post) 0 0 (va_A (aIJ cI cC cZ cB cJ a_m nY sJ eG iY lY jR jW jZ jO oQ bR aY jQ gY iJ mQ lJ jA bG mK jB mW mJ eJ dG bT aG jC bL bY jD mLn oF rP dQ aJ aB bW bZ aR aE bI aW bU fJ dO bM bQ bO jY oX qG m_x gR pW qR nG oO pJ qO sW qQ sH) sz) := by
  refine aBJ (own := zX) (dC, dI) (tyl cI cC cZ cB cJ) (aIJ cI cC cZ cB cJ a_m nY sJ eG iY lY jR jW jZ jO oQ bR aY jQ gY iJ mQ lJ jA bG mK jB mW mJ eJ dG bT aG jC bL bY jD mLn oF rP dQ aJ aB bW bZ aR aE bI aW bU fJ dO bM bQ bO jY oX qG m_x gR pW qR nG oO pJ qO sW qQ sH) sz [.ref a_m, .int p0] (fun A => q_X10_pays dC dI cI cC cZ cB cJ A a_m nY sJ eG iY lY jR jW jZ jO oQ bR aY jQ gY iJ mQ lJ jA bG mK jB mW mJ eJ dG bT aG jC aJ aB bW bU fJ bM bQ bO jY oX qG m_x gR pW qR nG oO pJ qO qQ post) aFY rfl (lbz rfl) ?_
  intro p e s m args below meth c A H locs ls C0 hP hD hS hl
  have hl : lv_has ls 5 [(0, .ref a_m), (1, .int p0)] := hl
  obtain ⟨hx, hb, hr, hml, hown, hts, hlocks, hA, hK, hN, tL, tM, hZL, hTL, hZM, hTM, hZX⟩ := id C0
  have hp := hw
  unfold wp_X10_pays at hp
  refine lv_aload_n hx hb bAK.1 rfl (lv_at hl 0 rfl) ?_
  refine lv_iconst (v := 0) hx hb bAK.2.1 aCi ?_
  refine va_put (D := (dC, dI)) (ci := 10) (v := .int 0) (ty := .int) (C := zX) (T := aBe) (N := 51) hx hb hts aAt aD2 aAa aEC hown hK hP hD hS 0 rfl rfl 14 (lbz rfl) (hts _ q_638) (fun _ h9 => h9) rfl (aAa 14 (lbz rfl)) rfl rfl (lbz rfl) bAK.2.2.1 (fun H locs hP hD hS => ?_)
  have hPD := PDw (ws' := (aIJ cI cC cZ cB cJ a_m nY sJ eG iY lY jR jW jZ jO oQ bR aY jQ gY iJ mQ lJ jA bG mK jB mW mJ eJ dG bT aG jC bL 0 jD mLn oF rP dQ aJ aB bW bZ aR aE bI aW bU fJ dO bM bQ bO jY oX qG m_x gR pW qR nG oO pJ qO sW qQ sH)) hP hD rfl
  have hP := hPD.1
  have hD := hPD.2
  refine lv_aload_n hx hb bAK.2.2.2.1 rfl (lv_at hl 0 rfl) ?_
  refine lv_iload_n hx hb bAK.2.2.2.2.1 rfl (lv_at hl 1 rfl) ?_
  have hm := mgk (wc := (aK5 cI cC cZ cB cJ a_m nY sJ eG iY lY jR jW jZ jO oQ bR aY jQ gY iJ mQ lJ jA bG mK jB mW mJ eJ dG bT aG jC bL 0 jD mLn oF rP dQ aJ aB bW bZ aR aE bI aW bU fJ dO bM bQ bO jY oX)) hP mk_281 13 rfl rfl rfl
  refine yW hP hD hS hA (yS mk_281) (aAi mk_281) hm.1 hm.2 (aAk _) (zW _) (zF (As := [.int p0]) (rest := []) C0 hP hD hS (yS mk_281) hm.1 (aAl _) 0 10 rfl rfl (aZR l dC dI cI cC cZ cB cJ a_m nY sJ eG iY lY jR jW jZ jO oQ bR aY jQ gY iJ mQ lJ jA bG mK jB mW mJ eJ dG H.size p0 bT aG jC bL 0 jD mLn oF rP dQ aJ aB bW bZ aR aE bI aW bU fJ dO bM bQ bO jY oX _ hp) q_757 q_760 q_758 q_759 aBL aZY rfl rfl ⟨lbz rfl, lbz rfl⟩ rfl rfl hl.1 rfl (lv_room (lbz rfl)) bAK.2.2.2.2.2.1 ⟨Nat.zero_le _, Nat.zero_le _⟩) (fun r_1 u H locs hp hP hD hS => ?_)
  have hPD := PDm (ws' := (aIJ cI cC cZ cB cJ a_m nY sJ eG iY lY jR jW jZ jO oQ bR aY jQ gY iJ mQ lJ jA bG mK jB mW mJ eJ dG bT aG jC bL 0 jD mLn oF rP dQ aJ aB bW bZ aR aE bI aW bU fJ dO bM bQ bO jY oX qG m_x gR pW qR nG oO pJ qO sW qQ sH)) hP hD 13 rfl rfl rfl
  have hP := hPD.1
  have hD := hPD.2
  refine lv_if_ne (tgt := 15) hx hb bAK.2.2.2.2.2.2.1 (by decide) (fun hc => ?_) (fun hc => ?_)
  · have hp := hp.1 hc
    refine lv_aload_n hx hb bAK.2.2.2.2.2.2.2.2.2.1 rfl (lv_at hl 0 rfl) ?_
    have hm := mgk (wc := (aIe cI cC cZ cB cJ a_m nY sJ eG iY lY jR jW jZ jO oQ bR aY jQ gY iJ mQ lJ jA bG mK jB mW mJ eJ dG bT aG jC bL 0 jD mLn oF rP dQ aJ aB bW bZ aR aE bI aW bU fJ dO bM bQ bO jY oX qG m_x gR qR nG oO pJ sH)) hP mk_282 13 rfl rfl rfl
    refine aBn hP hD hS hA (yS mk_282) (aAi mk_282) hm.1 hm.2 (aAk _) (zW _) (zF (As := []) (rest := []) C0 hP hD hS (yS mk_282) hm.1 (aAl _) 0 10 rfl rfl (aPr l dC dI cI cC cZ cB cJ a_m nY sJ eG iY lY jR jW jZ jO oQ bR aY jQ gY iJ mQ lJ jA bG mK jB mW mJ eJ dG H.size bT aG jC bL 0 jD mLn oF rP dQ aJ aB bW bZ aR aE bI aW bU fJ dO bM bQ bO jY oX qG m_x gR qR nG oO pJ sH _ hp) q_883 q_886 q_884 q_885 aBL aQ3 rfl rfl ⟨lbz rfl, lbz rfl⟩ rfl rfl hl.1 rfl (lv_room (lbz rfl)) bAK.2.2.2.2.2.2.2.2.2.2.1 ⟨Nat.zero_le _, Nat.zero_le _⟩) (fun u H locs hp hP hD hS => ?_)
    obtain ⟨aDd, aH4⟩ := u
    have hPD := PDm (ws' := (aIJ cI cC cZ cB cJ a_m nY sJ eG iY lY jR jW jZ jO oQ bR aY jQ gY iJ mQ lJ jA bG mK jB mW mJ eJ dG bT aG jC bL 0 jD mLn oF rP dQ aJ aB bW bZ aR aE bI aW bU fJ aDd bM bQ bO jY oX qG m_x gR pW qR nG oO pJ qO sW qQ aH4)) hP hD 13 rfl rfl rfl
    have hP := hPD.1
    have hD := hPD.2
    refine lv_aload_n hx hb bAK.2.2.2.2.2.2.2.2.2.2.2.1 rfl (lv_at hl 0 rfl) ?_
    refine va_get (D := (dC, dI)) (ci := 10) (v := .int aDd) (C := zX) (T := aBe) (N := 51) hx hb hts aAt hown hK hP 0 rfl rfl 37 (lbz rfl) (hts _ q_878) (fun _ h9 => h9) rfl bAK.2.2.2.2.2.2.2.2.2.2.2.2.1 ?_
    refine lv_aload_n hx hb bAK.2.2.2.2.2.2.2.2.2.2.2.2.2.1 rfl (lv_at hl 0 rfl) ?_
    refine va_get (D := (dC, dI)) (ci := 10) (v := .ref lJ) (C := zX) (T := aBe) (N := 51) hx hb hts aAt hown hK hP 0 rfl rfl 36 (lbz rfl) (hts _ q_869) (fun _ h9 => h9) rfl bAK.2.2.2.2.2.2.2.2.2.2.2.2.2.2.1 ?_
    refine lv_iload_n hx hb bAK.2.2.2.2.2.2.2.2.2.2.2.2.2.2.2 rfl (lv_at hl 1 rfl) ?_
    have hin := hp.1
    have hp := hp.2
    refine va_iald hx hb hK hP 12 0 rfl rfl hin aWK.1 ?_
    refine lv_iand hx hb aWK.2.1 ?_
    refine lv_topi (fun v_4 aHM => ?_)
    have hp := hp v_4 aHM
    refine lv_istore_n (lv' := [(2, .int v_4), (0, .ref a_m), (1, .int p0)]) hx hb aWK.2.2.1 rfl hl (by decide) rfl (fun ls hl => ?_)
    refine lv_iconst (v := 0) hx hb aWK.2.2.2.1 aCi ?_
    refine lv_istore_n (lv' := [(3, .int 0), (2, .int v_4), (0, .ref a_m), (1, .int p0)]) hx hb aWK.2.2.2.2.1 rfl hl (by decide) rfl (fun ls hl => ?_)
    refine lv_iconst (v := 0) hx hb aWK.2.2.2.2.2.1 aCi ?_
    refine lv_istore (lv' := [(4, .int 0), (3, .int 0), (2, .int v_4), (0, .ref a_m), (1, .int p0)]) hx hb aWK.2.2.2.2.2.2.1 hl (by decide) rfl (fun ls hl => ?_)
    obtain ⟨n9, hp⟩ := hp
    exact kb_X10_pays_36 C0 n9 p0 v_4 0 0 bL 0 jD mLn oF rP dQ bZ aR aE bI aW aDd sW aH4 H locs ls hp hP hD hS (lv_sub hl [3, 4, 2, 1, 0] rfl)
  · have hp := hp.2 hc
    refine lv_iconst (v := (-1)) hx hb bAK.2.2.2.2.2.2.2.1 aEJ ?_
    exact W.iret (v := (-1)) hx hb hr (fun t ht hW => ⟨⟨(-1), (bL, 0, jD, mLn, oF, rP, dQ, bZ, aR, aE, bI, aW, dO, sW, sH), rfl, hp, by rw [ht]; exact hP, va_K.moved hW.alike hK, hD⟩, hS.F ht⟩) hS.2.2 bAK.2.2.2.2.2.2.2.2.1
abbrev aIq (cI cC cZ cB cJ : ClassId) (a_m nY sJ eG iY lY jR jW jZ jO oQ bR aY jQ gY iJ mQ lJ jA bG mK jB mW mJ eJ dG : Nat) (bT aG jC bL bY : Int32) (jD : Nat) (mLn oF rP dQ aJ aB bW bZ aR aE bI aW bU fJ dO bM bQ bO jY oX : Int32) (qG m_x gR qR nG oO pJ sW sH : Nat -> Int32) : va_W := [(a_m, .inr (10, [.ref nY, .int bT, .ref sJ, .ref eG, .ref iY, .ref lY, .int aG, .ref jR, .ref jW, .ref jZ, .ref jO, .int jC, .ref oQ, .int bL, .int bY, rdv jO jQ jD, .int mLn, .int oF, .int rP, .int dQ, .ref bR, .ref aY, .int aJ, .int aB, .ref jQ, .int bW, .int bZ, .int aR, .int aE, .int bI, .int aW, .ref gY, .int bU, .ref iJ, .ref mQ, .int fJ, .ref lJ, .int dO, .ref jA, .ref bG, .int bM, .int bQ, .int bO, .ref mK, .ref jB, .ref mW, .int jY, .int oX, .ref mJ, .ref eJ, .ref dG])), (nY, .inl (cI, 21, .inl qG)), (sJ, .inl (cI, 16, .inl m_x)), (eG, .inl (cI, 16, .inl gR)), (lY, .inl (cI, 16, .inl qR)), (jR, .inl (cI, 8, .inl nG)), (jW, .inl (cI, 8, .inl oO)), (jZ, .inl (cI, 5, .inl pJ)), (oQ, .inl (cI, 32, .inl sW)), (lJ, .inl (cI, 8, .inl sH))]
abbrev q_X10_trips (dC : Nat -> ClassId) (dI : Nat -> Nat -> Nat) (cI cC cZ cB cJ : ClassId) (A : Nat -> Prop) (a_m nY sJ eG iY lY jR jW jZ jO oQ bR aY jQ gY iJ mQ lJ jA bG mK jB mW mJ eJ dG : Nat) (bT aG jC : Int32) (jD : Nat) (mLn oF rP dQ aJ aB bW bZ aR aE bI aW bU fJ bM bQ bO jY oX : Int32) (qG m_x gR qR nG oO pJ : Nat -> Int32) (post : Int32 -> Int32 -> Int32 -> Int32 -> (Nat -> Int32) -> (Nat -> Int32) -> Prop) : Array Value -> State -> Outcome -> State -> Prop := va_Qi (fun (r : Int32) (u : Int32 × Int32 × Int32 × (Nat -> Int32) × (Nat -> Int32)) => post r u.1 u.2.1 u.2.2.1 u.2.2.2.1 u.2.2.2.2) (fun u t => gB (dC, dI) (tyl cI cC cZ cB cJ) A (aIq cI cC cZ cB cJ a_m nY sJ eG iY lY jR jW jZ jO oQ bR aY jQ gY iJ mQ lJ jA bG mK jB mW mJ eJ dG bT aG jC u.1 u.2.1 jD mLn oF rP dQ aJ aB bW bZ aR aE bI aW bU fJ u.2.2.1 bM bQ bO jY oX qG m_x gR qR nG oO pJ u.2.2.2.1 u.2.2.2.2) t) A
abbrev rm_X10_trips : Room := { frames := 6, cells := 0, slots := 0, locals := 133 }
section S_X10_trips
variable {p : Program} {l : Launch} {e : Env} {s : State} {m : MethodId} {args : Array Value} {below : List Frame} {meth : Method} {c : Code} {dC : Nat -> ClassId} {dI : Nat -> Nat -> Nat} {cI cC cZ cB cJ : ClassId} {A : Nat -> Prop} {a_m nY sJ eG iY lY jR jW jZ jO oQ bR aY jQ gY iJ mQ lJ jA bG mK jB mW mJ eJ dG : Nat} {bT aG jC : Int32} {jD : Nat} {mLn oF rP dQ aJ aB bW bZ aR aE bI aW bU fJ bM bQ bO jY oX : Int32} {qG m_x gR qR nG oO pJ : Nat -> Int32} {post : Int32 -> Int32 -> Int32 -> Int32 -> (Nat -> Int32) -> (Nat -> Int32) -> Prop}
def ws_X10_trips_85 (post : Int32 -> Int32 -> Int32 -> Int32 -> (Nat -> Int32) -> (Nat -> Int32) -> Prop) (K65 : Int32 -> Int32 -> Int32 -> Int32 -> Int32 -> Int32 -> (Nat -> Int32) -> (Nat -> Int32) -> Prop) (bT aG : Int32) (qG m_x gR qR nG oO pJ : Nat -> Int32) (x2 x3 x4 bL bY dO : Int32) (sW sH : Nat -> Int32) : Prop := ∀ v_9 : Int32, v_9 = x2 + 1 -> ∀ aEr : Int32, aEr = x4 + (-1) -> K65 v_9 x3 aEr bL bY dO sW sH
set_option maxHeartbeats 4000000 in
set_option maxRecDepth 100000 in
theorem ks_X10_trips_85 (C0 : gc aDl (some .int) 5 zX (dC, dI) (tyl cI cC cZ cB cJ) A p s m args meth c) {K65 : Int32 -> Int32 -> Int32 -> Int32 -> Int32 -> Int32 -> (Nat -> Int32) -> (Nat -> Int32) -> Prop} (hK65 : ∀ (x2 : Int32) (x3 : Int32) (x4 : Int32) (bL : Int32) (bY : Int32) (dO : Int32) (sW : Nat -> Int32) (sH : Nat -> Int32) (H : Heap) (locs : List Loc) (ls : Array Slot), K65 x2 x3 x4 bL bY dO sW sH -> va_P (dC, dI) classes (aIq cI cC cZ cB cJ a_m nY sJ eG iY lY jR jW jZ jO oQ bR aY jQ gY iJ mQ lJ jA bG mK jB mW mJ eJ dG bT aG jC bL bY jD mLn oF rP dQ aJ aB bW bZ aR aE bI aW bU fJ dO bM bQ bO jY oX qG m_x gR qR nG oO pJ sW sH) H -> va_D A (aIq cI cC cZ cB cJ a_m nY sJ eG iY lY jR jW jZ jO oQ bR aY jQ gY iJ mQ lJ jA bG mK jB mW mJ eJ dG bT aG jC bL bY jD mLn oF rP dQ aJ aB bW bZ aR aE bI aW bU fJ dO bM bQ bO jY oX qG m_x gR qR nG oO pJ sW sH) -> va_S A s.heap H locs -> lv_has ls 5 [(0, .ref a_m), (2, .int x2), (3, .int x3), (4, .int x4)] -> W p l e rm_X10_trips s m args below meth c H locs 0 0 (MQ below (q_X10_trips dC dI cI cC cZ cB cJ A a_m nY sJ eG iY lY jR jW jZ jO oQ bR aY jQ gY iJ mQ lJ jA bG mK jB mW mJ eJ dG bT aG jC jD mLn oF rP dQ aJ aB bW bZ aR aE bI aW bU fJ bM bQ bO jY oX qG m_x gR qR nG oO pJ post) args s 0 0 A) (F0 m 65 ls [])) : ∀ (x2 x3 x4 bL bY dO : Int32) (sW sH : Nat -> Int32) (H : Heap) (locs : List Loc) (ls : Array Slot), (ws_X10_trips_85 post K65 bT aG qG m_x gR qR nG oO pJ) x2 x3 x4 bL bY dO sW sH -> va_P (dC, dI) classes (aIq cI cC cZ cB cJ a_m nY sJ eG iY lY jR jW jZ jO oQ bR aY jQ gY iJ mQ lJ jA bG mK jB mW mJ eJ dG bT aG jC bL bY jD mLn oF rP dQ aJ aB bW bZ aR aE bI aW bU fJ dO bM bQ bO jY oX qG m_x gR qR nG oO pJ sW sH) H -> va_D A (aIq cI cC cZ cB cJ a_m nY sJ eG iY lY jR jW jZ jO oQ bR aY jQ gY iJ mQ lJ jA bG mK jB mW mJ eJ dG bT aG jC bL bY jD mLn oF rP dQ aJ aB bW bZ aR aE bI aW bU fJ dO bM bQ bO jY oX qG m_x gR qR nG oO pJ sW sH) -> va_S A s.heap H locs -> lv_has ls 5 [(0, .ref a_m), (2, .int x2), (3, .int x3), (4, .int x4)] -> W p l e rm_X10_trips s m args below meth c H locs 0 0 (MQ below (q_X10_trips dC dI cI cC cZ cB cJ A a_m nY sJ eG iY lY jR jW jZ jO oQ bR aY jQ gY iJ mQ lJ jA bG mK jB mW mJ eJ dG bT aG jC jD mLn oF rP dQ aJ aB bW bZ aR aE bI aW bU fJ bM bQ bO jY oX qG m_x gR qR nG oO pJ post) args s 0 0 A) (F0 m 85 ls []) := by
  obtain ⟨hx, hb, hr, hml, hown, hts, hlocks, hA, hK, hN, tL, tM, hZL, hTL, hZM, hTM, hZX⟩ := id C0
  intro x2 x3 x4 bL bY dO sW sH H locs ls hp hP hD hS hl
  unfold ws_X10_trips_85 at hp
  obtain ⟨v_9, ev_9⟩ : ∃ y : Int32, y = x2 + 1 := ⟨_, rfl⟩
  refine lv_iinc (v := v_9) (lv' := [(2, .int v_9), (0, .ref a_m), (3, .int x3), (4, .int x4)]) hx hb eX10_trips_85.1 hl (k := 1) rfl (by rw [ev_9]; rfl) (by decide) rfl (fun ls hl => ?_)
  have hp := hp v_9 ev_9
  obtain ⟨aEr, aNB⟩ : ∃ y : Int32, y = x4 + (-1) := ⟨_, rfl⟩
  refine lv_iinc (v := aEr) (lv' := [(4, .int aEr), (2, .int v_9), (0, .ref a_m), (3, .int x3)]) hx hb eX10_trips_85.2.1 hl (k := 3) rfl (by rw [aNB]; rfl) (by decide) rfl (fun ls hl => ?_)
  have hp := hp aEr aNB
  refine lv_goto (tgt := 65) hx hb eX10_trips_85.2.2.1 (by decide) ?_
  exact hK65 v_9 x3 aEr bL bY dO sW sH H locs ls hp hP hD hS (lv_sub hl [2, 1, 3, 0] rfl)
def ws_X10_trips_65 (post : Int32 -> Int32 -> Int32 -> Int32 -> (Nat -> Int32) -> (Nat -> Int32) -> Prop) (next : Int32 -> Int32 -> Int32 -> Int32 -> Int32 -> Int32 -> (Nat -> Int32) -> (Nat -> Int32) -> Prop) (bT aG : Int32) (qG m_x gR qR nG oO pJ : Nat -> Int32) (x2 x3 x4 bL bY dO : Int32) (sW sH : Nat -> Int32) : Prop := (x4 <= 0 -> aDs (fun aOp m_row_8 => post x3 aOp bY dO m_row_8 sH) x2 0 sW) /\ (¬ x4 <= 0 -> (x2 < (pJ (4 : Int32).toNatClampNeg) -> ws_X10_trips_85 post next bT aG qG m_x gR qR nG oO pJ x2 x3 x4 bL bY dO sW sH) /\ (¬ x2 < (pJ (4 : Int32).toNatClampNeg) -> ∀ aGH : Int32, aGH = x3 + 1 -> ws_X10_trips_85 post next bT aG qG m_x gR qR nG oO pJ 0 aGH x4 bL bY dO sW sH))
noncomputable def wb_X10_trips_65 (post : Int32 -> Int32 -> Int32 -> Int32 -> (Nat -> Int32) -> (Nat -> Int32) -> Prop) (bT aG : Int32) (qG m_x gR qR nG oO pJ : Nat -> Int32) : Nat -> Int32 -> Int32 -> Int32 -> Int32 -> Int32 -> Int32 -> (Nat -> Int32) -> (Nat -> Int32) -> Prop := fun n => Nat.rec (motive := fun _ => Int32 -> Int32 -> Int32 -> Int32 -> Int32 -> Int32 -> (Nat -> Int32) -> (Nat -> Int32) -> Prop) (fun _ _ _ _ _ _ _ _ => False) (fun _ ih => ws_X10_trips_65 post ih bT aG qG m_x gR qR nG oO pJ) n
set_option maxHeartbeats 4000000 in
set_option maxRecDepth 100000 in
theorem ks_X10_trips_65 (C0 : gc aDl (some .int) 5 zX (dC, dI) (tyl cI cC cZ cB cJ) A p s m args meth c) {next : Int32 -> Int32 -> Int32 -> Int32 -> Int32 -> Int32 -> (Nat -> Int32) -> (Nat -> Int32) -> Prop} (hKn : ∀ (x2 : Int32) (x3 : Int32) (x4 : Int32) (bL : Int32) (bY : Int32) (dO : Int32) (sW : Nat -> Int32) (sH : Nat -> Int32) (H : Heap) (locs : List Loc) (ls : Array Slot), next x2 x3 x4 bL bY dO sW sH -> va_P (dC, dI) classes (aIq cI cC cZ cB cJ a_m nY sJ eG iY lY jR jW jZ jO oQ bR aY jQ gY iJ mQ lJ jA bG mK jB mW mJ eJ dG bT aG jC bL bY jD mLn oF rP dQ aJ aB bW bZ aR aE bI aW bU fJ dO bM bQ bO jY oX qG m_x gR qR nG oO pJ sW sH) H -> va_D A (aIq cI cC cZ cB cJ a_m nY sJ eG iY lY jR jW jZ jO oQ bR aY jQ gY iJ mQ lJ jA bG mK jB mW mJ eJ dG bT aG jC bL bY jD mLn oF rP dQ aJ aB bW bZ aR aE bI aW bU fJ dO bM bQ bO jY oX qG m_x gR qR nG oO pJ sW sH) -> va_S A s.heap H locs -> lv_has ls 5 [(0, .ref a_m), (2, .int x2), (3, .int x3), (4, .int x4)] -> W p l e rm_X10_trips s m args below meth c H locs 0 0 (MQ below (q_X10_trips dC dI cI cC cZ cB cJ A a_m nY sJ eG iY lY jR jW jZ jO oQ bR aY jQ gY iJ mQ lJ jA bG mK jB mW mJ eJ dG bT aG jC jD mLn oF rP dQ aJ aB bW bZ aR aE bI aW bU fJ bM bQ bO jY oX qG m_x gR qR nG oO pJ post) args s 0 0 A) (F0 m 65 ls [])) : ∀ (x2 x3 x4 bL bY dO : Int32) (sW sH : Nat -> Int32) (H : Heap) (locs : List Loc) (ls : Array Slot), (ws_X10_trips_65 post next bT aG qG m_x gR qR nG oO pJ) x2 x3 x4 bL bY dO sW sH -> va_P (dC, dI) classes (aIq cI cC cZ cB cJ a_m nY sJ eG iY lY jR jW jZ jO oQ bR aY jQ gY iJ mQ lJ jA bG mK jB mW mJ eJ dG bT aG jC bL bY jD mLn oF rP dQ aJ aB bW bZ aR aE bI aW bU fJ dO bM bQ bO jY oX qG m_x gR qR nG oO pJ sW sH) H -> va_D A (aIq cI cC cZ cB cJ a_m nY sJ eG iY lY jR jW jZ jO oQ bR aY jQ gY iJ mQ lJ jA bG mK jB mW mJ eJ dG bT aG jC bL bY jD mLn oF rP dQ aJ aB bW bZ aR aE bI aW bU fJ dO bM bQ bO jY oX qG m_x gR qR nG oO pJ sW sH) -> va_S A s.heap H locs -> lv_has ls 5 [(0, .ref a_m), (2, .int x2), (3, .int x3), (4, .int x4)] -> W p l e rm_X10_trips s m args below meth c H locs 0 0 (MQ below (q_X10_trips dC dI cI cC cZ cB cJ A a_m nY sJ eG iY lY jR jW jZ jO oQ bR aY jQ gY iJ mQ lJ jA bG mK jB mW mJ eJ dG bT aG jC jD mLn oF rP dQ aJ aB bW bZ aR aE bI aW bU fJ bM bQ bO jY oX qG m_x gR qR nG oO pJ post) args s 0 0 A) (F0 m 65 ls []) := by
  obtain ⟨hx, hb, hr, hml, hown, hts, hlocks, hA, hK, hN, tL, tM, hZL, hTL, hZM, hTM, hZX⟩ := id C0
  intro x2 x3 x4 bL bY dO sW sH H locs ls hp hP hD hS hl
  unfold ws_X10_trips_65 at hp
  refine lv_iload hx hb aTW.2.2.2.2.2.1 (lv_at hl 3 rfl) ?_
  refine lv_if_le (tgt := 94) hx hb aTW.2.2.2.2.2.2.1 (by decide) (fun hc => ?_) (fun hc => ?_)
  · have hp := hp.1 hc
    refine lv_aload_n hx hb eX10_trips_85.2.2.2.1 rfl (lv_at hl 0 rfl) ?_
    refine lv_iconst (v := 0) hx hb eX10_trips_85.2.2.2.2.1 aCi ?_
    refine va_put (D := (dC, dI)) (ci := 10) (v := .int 0) (ty := .int) (C := zX) (T := aBe) (N := 51) hx hb hts aAt aD2 aAa aEC hown hK hP hD hS 0 rfl rfl 13 (lbz rfl) (hts _ q_847) (fun _ h9 => h9) rfl (aAa 13 (lbz rfl)) rfl rfl (lbz rfl) eX10_trips_85.2.2.2.2.2.1 (fun H locs hP hD hS => ?_)
    have hPD := PDw (ws' := (aIq cI cC cZ cB cJ a_m nY sJ eG iY lY jR jW jZ jO oQ bR aY jQ gY iJ mQ lJ jA bG mK jB mW mJ eJ dG bT aG jC 0 bY jD mLn oF rP dQ aJ aB bW bZ aR aE bI aW bU fJ dO bM bQ bO jY oX qG m_x gR qR nG oO pJ sW sH)) hP hD rfl
    have hP := hPD.1
    have hD := hPD.2
    refine lv_aload_n hx hb eX10_trips_85.2.2.2.2.2.2.1 rfl (lv_at hl 0 rfl) ?_
    refine lv_iload_n hx hb eX10_trips_85.2.2.2.2.2.2.2.1 rfl (lv_at hl 1 rfl) ?_
    have hm := mgk (wc := (aD0 cI cC cZ cB cJ a_m nY sJ eG iY lY jR jW jZ jO oQ bR aY jQ gY iJ mQ lJ jA bG mK jB mW mJ eJ dG bT aG jC 0 bY jD mLn oF rP dQ aJ aB bW bZ aR aE bI aW bU fJ dO bM bQ bO jY oX sW)) hP aOv 10 rfl rfl rfl
    refine aBn hP hD hS hA (yS aOv) (aAi aOv) hm.1 hm.2 (aAk _) (zW _) (zF (As := [.int x2]) (rest := []) C0 hP hD hS (yS aOv) hm.1 (aAl _) 0 10 rfl rfl (aGE l dC dI cI cC cZ cB cJ a_m nY sJ eG iY lY jR jW jZ jO oQ bR aY jQ gY iJ mQ lJ jA bG mK jB mW mJ eJ dG H.size x2 bT aG jC 0 bY jD mLn oF rP dQ aJ aB bW bZ aR aE bI aW bU fJ dO bM bQ bO jY oX sW _ hp) q_849 q_852 q_850 q_851 aBL aGF rfl rfl ⟨lbz rfl, lbz rfl⟩ rfl rfl hl.1 rfl (lv_room (lbz rfl)) eX10_trips_85.2.2.2.2.2.2.2.2.1 ⟨Nat.zero_le _, Nat.zero_le _⟩) (fun u H locs hp hP hD hS => ?_)
    obtain ⟨aOp, m_row_8⟩ := u
    have hPD := PDm (ws' := (aIq cI cC cZ cB cJ a_m nY sJ eG iY lY jR jW jZ jO oQ bR aY jQ gY iJ mQ lJ jA bG mK jB mW mJ eJ dG bT aG jC aOp bY jD mLn oF rP dQ aJ aB bW bZ aR aE bI aW bU fJ dO bM bQ bO jY oX qG m_x gR qR nG oO pJ m_row_8 sH)) hP hD 10 rfl rfl rfl
    have hP := hPD.1
    have hD := hPD.2
    refine lv_iload_n hx hb eX10_trips_85.2.2.2.2.2.2.2.2.2.1 rfl (lv_at hl 2 rfl) ?_
    exact W.iret (v := x3) hx hb hr (fun t ht hW => ⟨⟨x3, (aOp, bY, dO, m_row_8, sH), rfl, hp, by rw [ht]; exact hP, va_K.moved hW.alike hK, hD⟩, hS.F ht⟩) hS.2.2 eX10_trips_85.2.2.2.2.2.2.2.2.2.2
  · have hp := hp.2 hc
    refine lv_iload_n hx hb aTW.2.2.2.2.2.2.2.1 rfl (lv_at hl 1 rfl) ?_
    refine lv_aload_n hx hb aTW.2.2.2.2.2.2.2.2.1 rfl (lv_at hl 0 rfl) ?_
    refine va_get (D := (dC, dI)) (ci := 10) (v := .ref jZ) (C := zX) (T := aBe) (N := 51) hx hb hts aAt hown hK hP 0 rfl rfl 9 (lbz rfl) (hts _ q_765) (fun _ h9 => h9) rfl aTW.2.2.2.2.2.2.2.2.2.1 ?_
    refine lv_iconst (v := 4) hx hb aTW.2.2.2.2.2.2.2.2.2.2.1 ic_4 ?_
    refine va_iald hx hb hK hP 7 0 rfl rfl (g_in rfl) aTW.2.2.2.2.2.2.2.2.2.2.2.1 ?_
    refine lv_icmp_lt (tgt := 85) hx hb aTW.2.2.2.2.2.2.2.2.2.2.2.2.1 (by decide) (fun hc => ?_) (fun hc => ?_)
    · have hp := hp.1 hc
      exact ks_X10_trips_85 C0 hKn x2 x3 x4 bL bY dO sW sH H locs ls hp hP hD hS (lv_sub hl [0, 1, 2, 3] rfl)
    · have hp := hp.2 hc
      obtain ⟨aGH, ev_11⟩ : ∃ y : Int32, y = x3 + 1 := ⟨_, rfl⟩
      refine lv_iinc (v := aGH) (lv' := [(3, .int aGH), (0, .ref a_m), (2, .int x2), (4, .int x4)]) hx hb aTW.2.2.2.2.2.2.2.2.2.2.2.2.2.1 hl (k := 2) rfl (by rw [ev_11]; rfl) (by decide) rfl (fun ls hl => ?_)
      have hp := hp aGH ev_11
      refine lv_iconst (v := 0) hx hb aTW.2.2.2.2.2.2.2.2.2.2.2.2.2.2.1 aCi ?_
      refine lv_istore_n (lv' := [(2, .int 0), (3, .int aGH), (0, .ref a_m), (4, .int x4)]) hx hb aTW.2.2.2.2.2.2.2.2.2.2.2.2.2.2.2 rfl hl (by decide) rfl (fun ls hl => ?_)
      exact ks_X10_trips_85 C0 hKn 0 aGH x4 bL bY dO sW sH H locs ls hp hP hD hS (lv_sub hl [2, 0, 1, 3] rfl)
set_option maxHeartbeats 4000000 in
set_option maxRecDepth 100000 in
theorem kb_X10_trips_65 (C0 : gc aDl (some .int) 5 zX (dC, dI) (tyl cI cC cZ cB cJ) A p s m args meth c) : ∀ (n : Nat), ∀ (x2 x3 x4 bL bY dO : Int32) (sW sH : Nat -> Int32) (H : Heap) (locs : List Loc) (ls : Array Slot), (wb_X10_trips_65 post bT aG qG m_x gR qR nG oO pJ n) x2 x3 x4 bL bY dO sW sH -> va_P (dC, dI) classes (aIq cI cC cZ cB cJ a_m nY sJ eG iY lY jR jW jZ jO oQ bR aY jQ gY iJ mQ lJ jA bG mK jB mW mJ eJ dG bT aG jC bL bY jD mLn oF rP dQ aJ aB bW bZ aR aE bI aW bU fJ dO bM bQ bO jY oX qG m_x gR qR nG oO pJ sW sH) H -> va_D A (aIq cI cC cZ cB cJ a_m nY sJ eG iY lY jR jW jZ jO oQ bR aY jQ gY iJ mQ lJ jA bG mK jB mW mJ eJ dG bT aG jC bL bY jD mLn oF rP dQ aJ aB bW bZ aR aE bI aW bU fJ dO bM bQ bO jY oX qG m_x gR qR nG oO pJ sW sH) -> va_S A s.heap H locs -> lv_has ls 5 [(0, .ref a_m), (2, .int x2), (3, .int x3), (4, .int x4)] -> W p l e rm_X10_trips s m args below meth c H locs 0 0 (MQ below (q_X10_trips dC dI cI cC cZ cB cJ A a_m nY sJ eG iY lY jR jW jZ jO oQ bR aY jQ gY iJ mQ lJ jA bG mK jB mW mJ eJ dG bT aG jC jD mLn oF rP dQ aJ aB bW bZ aR aE bI aW bU fJ bM bQ bO jY oX qG m_x gR qR nG oO pJ post) args s 0 0 A) (F0 m 65 ls []) := by
  intro n
  induction n with
  | zero =>
    intro x2 x3 x4 bL bY dO sW sH H locs ls hp
    exact False.elim hp
  | succ n ih =>
    intro x2 x3 x4 bL bY dO sW sH H locs ls hp
    exact ks_X10_trips_65 C0 ih x2 x3 x4 bL bY dO sW sH H locs ls hp
def ws_X10_trips_46 (post : Int32 -> Int32 -> Int32 -> Int32 -> (Nat -> Int32) -> (Nat -> Int32) -> Prop) (bT aG : Int32) (qG m_x gR qR nG oO pJ : Nat -> Int32) (x1 k0 bL bY dO : Int32) (sW sH : Nat -> Int32) : Prop := vp_in x1 8 /\ (∀ v_5 : Int32, v_5 = dO &&& (sH x1.toNatClampNeg) -> aBb (fun r_6 => ∃ n : Nat, wb_X10_trips_65 post bT aG qG m_x gR qR nG oO pJ n k0 0 r_6 bL bY dO sW sH) v_5)
set_option maxHeartbeats 4000000 in
set_option maxRecDepth 100000 in
theorem ks_X10_trips_46 (C0 : gc aDl (some .int) 5 zX (dC, dI) (tyl cI cC cZ cB cJ) A p s m args meth c) : ∀ (x1 k0 bL bY dO : Int32) (sW sH : Nat -> Int32) (H : Heap) (locs : List Loc) (ls : Array Slot), (ws_X10_trips_46 post bT aG qG m_x gR qR nG oO pJ) x1 k0 bL bY dO sW sH -> va_P (dC, dI) classes (aIq cI cC cZ cB cJ a_m nY sJ eG iY lY jR jW jZ jO oQ bR aY jQ gY iJ mQ lJ jA bG mK jB mW mJ eJ dG bT aG jC bL bY jD mLn oF rP dQ aJ aB bW bZ aR aE bI aW bU fJ dO bM bQ bO jY oX qG m_x gR qR nG oO pJ sW sH) H -> va_D A (aIq cI cC cZ cB cJ a_m nY sJ eG iY lY jR jW jZ jO oQ bR aY jQ gY iJ mQ lJ jA bG mK jB mW mJ eJ dG bT aG jC bL bY jD mLn oF rP dQ aJ aB bW bZ aR aE bI aW bU fJ dO bM bQ bO jY oX qG m_x gR qR nG oO pJ sW sH) -> va_S A s.heap H locs -> lv_has ls 5 [(0, .ref a_m), (1, .int x1)] -> W p l e rm_X10_trips s m args below meth c H locs 0 0 (MQ below (q_X10_trips dC dI cI cC cZ cB cJ A a_m nY sJ eG iY lY jR jW jZ jO oQ bR aY jQ gY iJ mQ lJ jA bG mK jB mW mJ eJ dG bT aG jC jD mLn oF rP dQ aJ aB bW bZ aR aE bI aW bU fJ bM bQ bO jY oX qG m_x gR qR nG oO pJ post) args s 0 0 A) (F0 m 46 ls [.int k0]) := by
  obtain ⟨hx, hb, hr, hml, hown, hts, hlocks, hA, hK, hN, tL, tM, hZL, hTL, hZM, hTM, hZX⟩ := id C0
  intro x1 k0 bL bY dO sW sH H locs ls hp hP hD hS hl
  unfold ws_X10_trips_46 at hp
  refine lv_istore_n (lv' := [(2, .int k0), (0, .ref a_m), (1, .int x1)]) hx hb aTV.2.2.2.2.2.2.2.2.2.1 rfl hl (by decide) rfl (fun ls hl => ?_)
  refine lv_iconst (v := 0) hx hb aTV.2.2.2.2.2.2.2.2.2.2.1 aCi ?_
  refine lv_istore_n (lv' := [(3, .int 0), (2, .int k0), (0, .ref a_m), (1, .int x1)]) hx hb aTV.2.2.2.2.2.2.2.2.2.2.2.1 rfl hl (by decide) rfl (fun ls hl => ?_)
  refine lv_aload_n hx hb aTV.2.2.2.2.2.2.2.2.2.2.2.2.1 rfl (lv_at hl 2 rfl) ?_
  refine va_get (D := (dC, dI)) (ci := 10) (v := .int dO) (C := zX) (T := aBe) (N := 51) hx hb hts aAt hown hK hP 0 rfl rfl 37 (lbz rfl) (hts _ q_878) (fun _ h9 => h9) rfl aTV.2.2.2.2.2.2.2.2.2.2.2.2.2.1 ?_
  refine lv_aload_n hx hb aTV.2.2.2.2.2.2.2.2.2.2.2.2.2.2.1 rfl (lv_at hl 2 rfl) ?_
  refine va_get (D := (dC, dI)) (ci := 10) (v := .ref lJ) (C := zX) (T := aBe) (N := 51) hx hb hts aAt hown hK hP 0 rfl rfl 36 (lbz rfl) (hts _ q_869) (fun _ h9 => h9) rfl aTV.2.2.2.2.2.2.2.2.2.2.2.2.2.2.2 ?_
  refine lv_iload_n hx hb aTW.1 rfl (lv_at hl 3 rfl) ?_
  have hin := hp.1
  have hp := hp.2
  refine va_iald hx hb hK hP 9 0 rfl rfl hin aTW.2.1 ?_
  refine lv_iand hx hb aTW.2.2.1 ?_
  refine lv_topi (fun v_5 aJD => ?_)
  have hp := hp v_5 aJD
  have hm := mgk (wc := (aBh cI cC cZ cB cJ)) hP aGk 10 rfl rfl rfl
  refine yW hP hD hS hA (yS aGk) (aAi aGk) hm.1 hm.2 (aAk _) (zW _) (aDn (As := [.int v_5]) (rest := []) C0 hP hD hS (yS aGk) hm.1 (aAl _) (aBv l dC dI cI cC cZ cB cJ H.size v_5 _ hp) q_320 q_803 q_322 q_321 aBw rfl rfl ⟨lbz rfl, lbz rfl⟩ rfl rfl hl.1 rfl (lv_room (lbz rfl)) aTW.2.2.2.1 ⟨Nat.zero_le _, Nat.zero_le _⟩) (fun r_6 u H locs hp hP hD hS => ?_)
  have hPD := PDm (ws' := (aIq cI cC cZ cB cJ a_m nY sJ eG iY lY jR jW jZ jO oQ bR aY jQ gY iJ mQ lJ jA bG mK jB mW mJ eJ dG bT aG jC bL bY jD mLn oF rP dQ aJ aB bW bZ aR aE bI aW bU fJ dO bM bQ bO jY oX qG m_x gR qR nG oO pJ sW sH)) hP hD 10 rfl rfl rfl
  have hP := hPD.1
  have hD := hPD.2
  refine lv_istore (lv' := [(4, .int r_6), (3, .int 0), (2, .int k0), (0, .ref a_m), (1, .int x1)]) hx hb aTW.2.2.2.2.1 hl (by decide) rfl (fun ls hl => ?_)
  obtain ⟨n9, hp⟩ := hp
  exact kb_X10_trips_65 C0 n9 k0 0 r_6 bL bY dO sW sH H locs ls hp hP hD hS (lv_sub hl [3, 2, 1, 0] rfl)
end S_X10_trips
def wp_X10_trips (post : Int32 -> Int32 -> Int32 -> Int32 -> (Nat -> Int32) -> (Nat -> Int32) -> Prop) (p0 bT aG bL bY dO : Int32) (qG m_x gR qR nG oO pJ sW sH : Nat -> Int32) : Prop := aJI (fun r_1 => (¬ r_1 = 0 -> aJm (fun aDd aH4 => ∀ v_4 : Int32, v_4 = qG (17 : Int32).toNatClampNeg -> (¬ v_4 = p0 -> ws_X10_trips_46 post bT aG qG m_x gR qR nG oO pJ p0 0 bL 0 aDd sW aH4) /\ (v_4 = p0 -> aIB (fun r_12 => aBb (fun r_13 => ws_X10_trips_46 post bT aG qG m_x gR qR nG oO pJ p0 r_13 bL 0 aDd sW aH4) r_12) 1 bT qG)) bT aG dO qG m_x gR qR nG oO pJ sH) /\ (r_1 = 0 -> post (-1) bL 0 dO sW sH)) p0 aG
set_option maxHeartbeats 4000000 in
set_option maxRecDepth 100000 in
theorem c_X10_trips (l : Launch) (dC : Nat -> ClassId) (dI : Nat -> Nat -> Nat) (cI cC cZ cB cJ : ClassId) (a_m nY sJ eG iY lY jR jW jZ jO oQ bR aY jQ gY iJ mQ lJ jA bG mK jB mW mJ eJ dG sz : Nat) (p0 bT aG jC bL bY : Int32) (jD : Nat) (mLn oF rP dQ aJ aB bW bZ aR aE bI aW bU fJ dO bM bQ bO jY oX : Int32) (qG m_x gR qR nG oO pJ sW sH : Nat -> Int32) (post : Int32 -> Int32 -> Int32 -> Int32 -> (Nat -> Int32) -> (Nat -> Int32) -> Prop) (hw : wp_X10_trips post p0 bT aG bL bY dO qG m_x gR qR nG oO pJ sW sH) : Met l yX10_trips (gw yX10_trips aDl 5 (some .int)) rm_X10_trips (va_Pc [.ref a_m, .int p0] (gPre (dC, dI) (tyl cI cC cZ cB cJ) (aIq cI cC cZ cB cJ a_m nY sJ eG iY lY jR jW jZ jO oQ bR aY jQ gY iJ mQ lJ jA bG mK jB mW mJ eJ dG bT aG jC bL bY jD mLn oF rP dQ aJ aB bW bZ aR aE bI aW bU fJ dO bM bQ bO jY oX qG m_x gR qR nG oO pJ sW sH) sz)) (q_X10_trips dC dI cI cC cZ cB cJ (va_A (aIq cI cC cZ cB cJ a_m nY sJ eG iY lY jR jW jZ jO oQ bR aY jQ gY iJ mQ lJ jA bG mK jB mW mJ eJ dG bT aG jC bL bY jD mLn oF rP dQ aJ aB bW bZ aR aE bI aW bU fJ dO bM bQ bO jY oX qG m_x gR qR nG oO pJ sW sH) sz) a_m nY sJ eG iY lY jR jW jZ jO oQ bR aY jQ gY iJ mQ lJ jA bG mK jB mW mJ eJ dG bT aG jC jD mLn oF rP dQ aJ aB bW bZ aR aE bI aW bU fJ bM bQ bO jY oX qG m_x gR qR nG oO pJ post) 0 0 (va_A (aIq cI cC cZ cB cJ a_m nY sJ eG iY lY jR jW jZ jO oQ bR aY jQ gY iJ mQ lJ jA bG mK jB mW mJ eJ dG bT aG jC bL bY jD mLn oF rP dQ aJ aB bW bZ aR aE bI aW bU fJ dO bM bQ bO jY oX qG m_x gR qR nG oO pJ sW sH) sz) := by
  refine aBJ (own := zX) (dC, dI) (tyl cI cC cZ cB cJ) (aIq cI cC cZ cB cJ a_m nY sJ eG iY lY jR jW jZ jO oQ bR aY jQ gY iJ mQ lJ jA bG mK jB mW mJ eJ dG bT aG jC bL bY jD mLn oF rP dQ aJ aB bW bZ aR aE bI aW bU fJ dO bM bQ bO jY oX qG m_x gR qR nG oO pJ sW sH) sz [.ref a_m, .int p0] (fun A => q_X10_trips dC dI cI cC cZ cB cJ A a_m nY sJ eG iY lY jR jW jZ jO oQ bR aY jQ gY iJ mQ lJ jA bG mK jB mW mJ eJ dG bT aG jC jD mLn oF rP dQ aJ aB bW bZ aR aE bI aW bU fJ bM bQ bO jY oX qG m_x gR qR nG oO pJ post) aFY rfl (lbz rfl) ?_
  intro p e s m args below meth c A H locs ls C0 hP hD hS hl
  have hl : lv_has ls 5 [(0, .ref a_m), (1, .int p0)] := hl
  obtain ⟨hx, hb, hr, hml, hown, hts, hlocks, hA, hK, hN, tL, tM, hZL, hTL, hZM, hTM, hZX⟩ := id C0
  have hp := hw
  unfold wp_X10_trips at hp
  refine lv_aload_n hx hb aWX.1 rfl (lv_at hl 0 rfl) ?_
  refine lv_iconst (v := 0) hx hb aWX.2.1 aCi ?_
  refine va_put (D := (dC, dI)) (ci := 10) (v := .int 0) (ty := .int) (C := zX) (T := aBe) (N := 51) hx hb hts aAt aD2 aAa aEC hown hK hP hD hS 0 rfl rfl 14 (lbz rfl) (hts _ q_638) (fun _ h9 => h9) rfl (aAa 14 (lbz rfl)) rfl rfl (lbz rfl) aWX.2.2.1 (fun H locs hP hD hS => ?_)
  have hPD := PDw (ws' := (aIq cI cC cZ cB cJ a_m nY sJ eG iY lY jR jW jZ jO oQ bR aY jQ gY iJ mQ lJ jA bG mK jB mW mJ eJ dG bT aG jC bL 0 jD mLn oF rP dQ aJ aB bW bZ aR aE bI aW bU fJ dO bM bQ bO jY oX qG m_x gR qR nG oO pJ sW sH)) hP hD rfl
  have hP := hPD.1
  have hD := hPD.2
  refine lv_aload_n hx hb aWX.2.2.2.1 rfl (lv_at hl 0 rfl) ?_
  refine lv_iload_n hx hb aWX.2.2.2.2.1 rfl (lv_at hl 1 rfl) ?_
  have hm := mgk (wc := (aK5 cI cC cZ cB cJ a_m nY sJ eG iY lY jR jW jZ jO oQ bR aY jQ gY iJ mQ lJ jA bG mK jB mW mJ eJ dG bT aG jC bL 0 jD mLn oF rP dQ aJ aB bW bZ aR aE bI aW bU fJ dO bM bQ bO jY oX)) hP aRf 10 rfl rfl rfl
  refine yW hP hD hS hA (yS aRf) (aAi aRf) hm.1 hm.2 (aAk _) (zW _) (zF (As := [.int p0]) (rest := []) C0 hP hD hS (yS aRf) hm.1 (aAl _) 0 10 rfl rfl (aZR l dC dI cI cC cZ cB cJ a_m nY sJ eG iY lY jR jW jZ jO oQ bR aY jQ gY iJ mQ lJ jA bG mK jB mW mJ eJ dG H.size p0 bT aG jC bL 0 jD mLn oF rP dQ aJ aB bW bZ aR aE bI aW bU fJ dO bM bQ bO jY oX _ hp) q_757 q_760 q_758 q_759 aBL aZY rfl rfl ⟨lbz rfl, lbz rfl⟩ rfl rfl hl.1 rfl (lv_room (lbz rfl)) aWX.2.2.2.2.2.1 ⟨Nat.zero_le _, Nat.zero_le _⟩) (fun r_1 u H locs hp hP hD hS => ?_)
  have hPD := PDm (ws' := (aIq cI cC cZ cB cJ a_m nY sJ eG iY lY jR jW jZ jO oQ bR aY jQ gY iJ mQ lJ jA bG mK jB mW mJ eJ dG bT aG jC bL 0 jD mLn oF rP dQ aJ aB bW bZ aR aE bI aW bU fJ dO bM bQ bO jY oX qG m_x gR qR nG oO pJ sW sH)) hP hD 10 rfl rfl rfl
  have hP := hPD.1
  have hD := hPD.2
  refine lv_if_ne (tgt := 15) hx hb aWX.2.2.2.2.2.2.1 (by decide) (fun hc => ?_) (fun hc => ?_)
  · have hp := hp.1 hc
    refine lv_aload_n hx hb aWX.2.2.2.2.2.2.2.2.2.1 rfl (lv_at hl 0 rfl) ?_
    have hm := mgk (wc := (aIe cI cC cZ cB cJ a_m nY sJ eG iY lY jR jW jZ jO oQ bR aY jQ gY iJ mQ lJ jA bG mK jB mW mJ eJ dG bT aG jC bL 0 jD mLn oF rP dQ aJ aB bW bZ aR aE bI aW bU fJ dO bM bQ bO jY oX qG m_x gR qR nG oO pJ sH)) hP aUv 10 rfl rfl rfl
    refine aBn hP hD hS hA (yS aUv) (aAi aUv) hm.1 hm.2 (aAk _) (zW _) (zF (As := []) (rest := []) C0 hP hD hS (yS aUv) hm.1 (aAl _) 0 10 rfl rfl (aPr l dC dI cI cC cZ cB cJ a_m nY sJ eG iY lY jR jW jZ jO oQ bR aY jQ gY iJ mQ lJ jA bG mK jB mW mJ eJ dG H.size bT aG jC bL 0 jD mLn oF rP dQ aJ aB bW bZ aR aE bI aW bU fJ dO bM bQ bO jY oX qG m_x gR qR nG oO pJ sH _ hp) q_883 q_886 q_884 q_885 aBL aQ3 rfl rfl ⟨lbz rfl, lbz rfl⟩ rfl rfl hl.1 rfl (lv_room (lbz rfl)) aWX.2.2.2.2.2.2.2.2.2.2.1 ⟨Nat.zero_le _, Nat.zero_le _⟩) (fun u H locs hp hP hD hS => ?_)
    obtain ⟨aDd, aH4⟩ := u
    have hPD := PDm (ws' := (aIq cI cC cZ cB cJ a_m nY sJ eG iY lY jR jW jZ jO oQ bR aY jQ gY iJ mQ lJ jA bG mK jB mW mJ eJ dG bT aG jC bL 0 jD mLn oF rP dQ aJ aB bW bZ aR aE bI aW bU fJ aDd bM bQ bO jY oX qG m_x gR qR nG oO pJ sW aH4)) hP hD 10 rfl rfl rfl
    have hP := hPD.1
    have hD := hPD.2
    refine lv_aload_n hx hb aWX.2.2.2.2.2.2.2.2.2.2.2.1 rfl (lv_at hl 0 rfl) ?_
    refine va_get (D := (dC, dI)) (ci := 10) (v := .ref nY) (C := zX) (T := aBe) (N := 51) hx hb hts aAt hown hK hP 0 rfl rfl 0 (lbz rfl) (hts _ aHO) (fun _ h9 => h9) rfl aWX.2.2.2.2.2.2.2.2.2.2.2.2.1 ?_
    refine lv_bipush (v := 17) hx hb aWX.2.2.2.2.2.2.2.2.2.2.2.2.2.1 bp_17 ?_
    refine va_iald hx hb hK hP 1 0 rfl rfl (g_in rfl) aWX.2.2.2.2.2.2.2.2.2.2.2.2.2.2.1 ?_
    refine lv_topi (fun v_4 aHM => ?_)
    have hp := hp v_4 aHM
    refine lv_iload_n hx hb aWX.2.2.2.2.2.2.2.2.2.2.2.2.2.2.2 rfl (lv_at hl 1 rfl) ?_
    refine lv_icmp_ne (tgt := 45) hx hb aTV.1 (by decide) (fun hc => ?_) (fun hc => ?_)
    · have hp := hp.1 hc
      refine lv_iconst (v := 0) hx hb aTV.2.2.2.2.2.2.2.2.1 aCi ?_
      exact ks_X10_trips_46 C0 p0 0 bL 0 aDd sW aH4 H locs ls hp hP hD hS (lv_sub hl [0, 1] rfl)
    · have hp := hp.2 hc
      refine lv_aload_n hx hb aTV.2.1 rfl (lv_at hl 0 rfl) ?_
      refine lv_aload_n hx hb aTV.2.2.1 rfl (lv_at hl 0 rfl) ?_
      refine va_get (D := (dC, dI)) (ci := 10) (v := .ref nY) (C := zX) (T := aBe) (N := 51) hx hb hts aAt hown hK hP 0 rfl rfl 0 (lbz rfl) (hts _ aHO) (fun _ h9 => h9) rfl aTV.2.2.2.1 ?_
      refine lv_iconst (v := 1) hx hb aTV.2.2.2.2.1 aDx ?_
      have hm := mgk (wc := (aGS cI cC cZ cB cJ a_m nY sJ eG iY lY jR jW jZ jO oQ bR aY jQ gY iJ mQ lJ jA bG mK jB mW mJ eJ dG bT aG jC bL 0 jD mLn oF rP dQ aJ aB bW bZ aR aE bI aW bU fJ aDd bM bQ bO jY oX qG)) hP mk_283 10 rfl rfl rfl
      refine yW hP hD hS hA (yS mk_283) (aAi mk_283) hm.1 hm.2 (aAk _) (zW _) (zF (As := [.ref nY, .int 1]) (rest := []) C0 hP hD hS (yS mk_283) hm.1 (aAl _) 0 10 rfl rfl (aRP l dC dI cI cC cZ cB cJ a_m nY sJ eG iY lY jR jW jZ jO oQ bR aY jQ gY iJ mQ lJ jA bG mK jB mW mJ eJ dG H.size 1 bT aG jC bL 0 jD mLn oF rP dQ aJ aB bW bZ aR aE bI aW bU fJ aDd bM bQ bO jY oX qG _ hp) q_749 q_752 q_750 q_751 aBL aRR rfl rfl ⟨lbz rfl, lbz rfl⟩ rfl rfl hl.1 rfl (lv_room (lbz rfl)) aTV.2.2.2.2.2.1 ⟨Nat.zero_le _, Nat.zero_le _⟩) (fun r_12 u H locs hp hP hD hS => ?_)
      have hPD := PDm (ws' := (aIq cI cC cZ cB cJ a_m nY sJ eG iY lY jR jW jZ jO oQ bR aY jQ gY iJ mQ lJ jA bG mK jB mW mJ eJ dG bT aG jC bL 0 jD mLn oF rP dQ aJ aB bW bZ aR aE bI aW bU fJ aDd bM bQ bO jY oX qG m_x gR qR nG oO pJ sW aH4)) hP hD 10 rfl rfl rfl
      have hP := hPD.1
      have hD := hPD.2
      have hm := mgk (wc := (aBh cI cC cZ cB cJ)) hP aGk 10 rfl rfl rfl
      refine yW hP hD hS hA (yS aGk) (aAi aGk) hm.1 hm.2 (aAk _) (zW _) (aDn (As := [.int r_12]) (rest := []) C0 hP hD hS (yS aGk) hm.1 (aAl _) (aBv l dC dI cI cC cZ cB cJ H.size r_12 _ hp) q_320 q_803 q_322 q_321 aBw rfl rfl ⟨lbz rfl, lbz rfl⟩ rfl rfl hl.1 rfl (lv_room (lbz rfl)) aTV.2.2.2.2.2.2.1 ⟨Nat.zero_le _, Nat.zero_le _⟩) (fun r_13 u H locs hp hP hD hS => ?_)
      have hPD := PDm (ws' := (aIq cI cC cZ cB cJ a_m nY sJ eG iY lY jR jW jZ jO oQ bR aY jQ gY iJ mQ lJ jA bG mK jB mW mJ eJ dG bT aG jC bL 0 jD mLn oF rP dQ aJ aB bW bZ aR aE bI aW bU fJ aDd bM bQ bO jY oX qG m_x gR qR nG oO pJ sW aH4)) hP hD 10 rfl rfl rfl
      have hP := hPD.1
      have hD := hPD.2
      refine lv_goto (tgt := 46) hx hb aTV.2.2.2.2.2.2.2.1 (by decide) ?_
      exact ks_X10_trips_46 C0 p0 r_13 bL 0 aDd sW aH4 H locs ls hp hP hD hS (lv_sub hl [0, 1] rfl)
  · have hp := hp.2 hc
    refine lv_iconst (v := (-1)) hx hb aWX.2.2.2.2.2.2.2.1 aEJ ?_
    exact W.iret (v := (-1)) hx hb hr (fun t ht hW => ⟨⟨(-1), (bL, 0, dO, sW, sH), rfl, hp, by rw [ht]; exact hP, va_K.moved hW.alike hK, hD⟩, hS.F ht⟩) hS.2.2 aWX.2.2.2.2.2.2.2.2.1
abbrev aO9 (cI cC cZ cB cJ : ClassId) (a_m nY sJ eG iY lY jR jW jZ jO oQ bR aY jQ gY iJ mQ lJ jA bG mK jB mW mJ eJ dG : Nat) (bT aG jC bL bY : Int32) (jD : Nat) (mLn oF rP dQ aJ aB bW bZ aR aE bI aW bU fJ dO bM bQ bO jY oX : Int32) (qG m_x gR qR nG oO pJ sW sH : Nat -> Int32) : va_W := [(a_m, .inr (10, [.ref nY, .int bT, .ref sJ, .ref eG, .ref iY, .ref lY, .int aG, .ref jR, .ref jW, .ref jZ, .ref jO, .int jC, .ref oQ, .int bL, .int bY, rdv jO jQ jD, .int mLn, .int oF, .int rP, .int dQ, .ref bR, .ref aY, .int aJ, .int aB, .ref jQ, .int bW, .int bZ, .int aR, .int aE, .int bI, .int aW, .ref gY, .int bU, .ref iJ, .ref mQ, .int fJ, .ref lJ, .int dO, .ref jA, .ref bG, .int bM, .int bQ, .int bO, .ref mK, .ref jB, .ref mW, .int jY, .int oX, .ref mJ, .ref eJ, .ref dG])), (nY, .inl (cI, 21, .inl qG)), (sJ, .inl (cI, 16, .inl m_x)), (eG, .inl (cI, 16, .inl gR)), (lY, .inl (cI, 16, .inl qR)), (jR, .inl (cI, 8, .inl nG)), (jW, .inl (cI, 8, .inl oO)), (jZ, .inl (cI, 5, .inl pJ)), (oQ, .inl (cI, 32, .inl sW)), (lJ, .inl (cI, 8, .inl sH))]
abbrev q_X10_helps (dC : Nat -> ClassId) (dI : Nat -> Nat -> Nat) (cI cC cZ cB cJ : ClassId) (A : Nat -> Prop) (a_m nY sJ eG iY lY jR jW jZ jO oQ bR aY jQ gY iJ mQ lJ jA bG mK jB mW mJ eJ dG : Nat) (bT aG jC : Int32) (jD : Nat) (mLn oF rP dQ aJ aB bW bZ aR aE bI aW bU fJ bM bQ bO jY oX : Int32) (qG m_x gR qR nG oO pJ : Nat -> Int32) (post : Int32 -> Int32 -> Int32 -> Int32 -> (Nat -> Int32) -> (Nat -> Int32) -> Prop) : Array Value -> State -> Outcome -> State -> Prop := va_Qi (fun (r : Int32) (u : Int32 × Int32 × Int32 × (Nat -> Int32) × (Nat -> Int32)) => post r u.1 u.2.1 u.2.2.1 u.2.2.2.1 u.2.2.2.2) (fun u t => gB (dC, dI) (tyl cI cC cZ cB cJ) A (aO9 cI cC cZ cB cJ a_m nY sJ eG iY lY jR jW jZ jO oQ bR aY jQ gY iJ mQ lJ jA bG mK jB mW mJ eJ dG bT aG jC u.1 u.2.1 jD mLn oF rP dQ aJ aB bW bZ aR aE bI aW bU fJ u.2.2.1 bM bQ bO jY oX qG m_x gR qR nG oO pJ u.2.2.2.1 u.2.2.2.2) t) A
abbrev rm_X10_helps : Room := { frames := 5, cells := 0, slots := 0, locals := 113 }
def wp_X10_helps (post : Int32 -> Int32 -> Int32 -> Int32 -> (Nat -> Int32) -> (Nat -> Int32) -> Prop) (bT aG bL bY dO : Int32) (qG m_x gR qR nG oO pJ sW sH : Nat -> Int32) : Prop := wp_X10_layHands_ (fun aDN aII => wp_X10_cover (fun r_3 => aBb (fun r_4 => aBb (fun r_5 => wp_X10_layHands_ (fun aPR m_hand_7 => wp_X10_cover (fun r_8 => aBb (fun r_9 => aDs (fun aDZ aHj => aBb (fun r_12 => aDs (fun bBI m_row_14 => post (r_4 - r_9) bBI 0 aPR m_row_14 m_hand_7) r_12 aDZ aHj) aPR) r_5 0 sW) r_8) aPR aG m_hand_7) 1 bT aG aDN qG m_x gR qR nG oO pJ aII) aDN) r_3) aDN aG aII) 0 bT aG dO qG m_x gR qR nG oO pJ sH
set_option maxHeartbeats 4000000 in
set_option maxRecDepth 100000 in
theorem c_X10_helps (l : Launch) (dC : Nat -> ClassId) (dI : Nat -> Nat -> Nat) (cI cC cZ cB cJ : ClassId) (a_m nY sJ eG iY lY jR jW jZ jO oQ bR aY jQ gY iJ mQ lJ jA bG mK jB mW mJ eJ dG sz : Nat) (bT aG jC bL bY : Int32) (jD : Nat) (mLn oF rP dQ aJ aB bW bZ aR aE bI aW bU fJ dO bM bQ bO jY oX : Int32) (qG m_x gR qR nG oO pJ sW sH : Nat -> Int32) (post : Int32 -> Int32 -> Int32 -> Int32 -> (Nat -> Int32) -> (Nat -> Int32) -> Prop) (hw : wp_X10_helps post bT aG bL bY dO qG m_x gR qR nG oO pJ sW sH) : Met l yX10_helps (gw yX10_helps aG5 4 (some .int)) rm_X10_helps (va_Pc [.ref a_m] (gPre (dC, dI) (tyl cI cC cZ cB cJ) (aO9 cI cC cZ cB cJ a_m nY sJ eG iY lY jR jW jZ jO oQ bR aY jQ gY iJ mQ lJ jA bG mK jB mW mJ eJ dG bT aG jC bL bY jD mLn oF rP dQ aJ aB bW bZ aR aE bI aW bU fJ dO bM bQ bO jY oX qG m_x gR qR nG oO pJ sW sH) sz)) (q_X10_helps dC dI cI cC cZ cB cJ (va_A (aO9 cI cC cZ cB cJ a_m nY sJ eG iY lY jR jW jZ jO oQ bR aY jQ gY iJ mQ lJ jA bG mK jB mW mJ eJ dG bT aG jC bL bY jD mLn oF rP dQ aJ aB bW bZ aR aE bI aW bU fJ dO bM bQ bO jY oX qG m_x gR qR nG oO pJ sW sH) sz) a_m nY sJ eG iY lY jR jW jZ jO oQ bR aY jQ gY iJ mQ lJ jA bG mK jB mW mJ eJ dG bT aG jC jD mLn oF rP dQ aJ aB bW bZ aR aE bI aW bU fJ bM bQ bO jY oX qG m_x gR qR nG oO pJ post) 0 0 (va_A (aO9 cI cC cZ cB cJ a_m nY sJ eG iY lY jR jW jZ jO oQ bR aY jQ gY iJ mQ lJ jA bG mK jB mW mJ eJ dG bT aG jC bL bY jD mLn oF rP dQ aJ aB bW bZ aR aE bI aW bU fJ dO bM bQ bO jY oX qG m_x gR qR nG oO pJ sW sH) sz) := by
  refine aBJ (own := zX) (dC, dI) (tyl cI cC cZ cB cJ) (aO9 cI cC cZ cB cJ a_m nY sJ eG iY lY jR jW jZ jO oQ bR aY jQ gY iJ mQ lJ jA bG mK jB mW mJ eJ dG bT aG jC bL bY jD mLn oF rP dQ aJ aB bW bZ aR aE bI aW bU fJ dO bM bQ bO jY oX qG m_x gR qR nG oO pJ sW sH) sz [.ref a_m] (fun A => q_X10_helps dC dI cI cC cZ cB cJ A a_m nY sJ eG iY lY jR jW jZ jO oQ bR aY jQ gY iJ mQ lJ jA bG mK jB mW mJ eJ dG bT aG jC jD mLn oF rP dQ aJ aB bW bZ aR aE bI aW bU fJ bM bQ bO jY oX qG m_x gR qR nG oO pJ post) aFY rfl (lbz rfl) ?_
  intro p e s m args below meth c A H locs ls C0 hP hD hS hl
  have hl : lv_has ls 4 [(0, .ref a_m)] := hl
  obtain ⟨hx, hb, hr, hml, hown, hts, hlocks, hA, hK, hN, tL, tM, hZL, hTL, hZM, hTM, hZX⟩ := id C0
  have hp := hw
  unfold wp_X10_helps at hp
  refine lv_aload_n hx hb aWB.1 rfl (lv_at hl 0 rfl) ?_
  refine lv_iconst (v := 0) hx hb aWB.2.1 aCi ?_
  refine va_put (D := (dC, dI)) (ci := 10) (v := .int 0) (ty := .int) (C := zX) (T := aBe) (N := 51) hx hb hts aAt aD2 aAa aEC hown hK hP hD hS 0 rfl rfl 14 (lbz rfl) (hts _ q_638) (fun _ h9 => h9) rfl (aAa 14 (lbz rfl)) rfl rfl (lbz rfl) aWB.2.2.1 (fun H locs hP hD hS => ?_)
  have hPD := PDw (ws' := (aO9 cI cC cZ cB cJ a_m nY sJ eG iY lY jR jW jZ jO oQ bR aY jQ gY iJ mQ lJ jA bG mK jB mW mJ eJ dG bT aG jC bL 0 jD mLn oF rP dQ aJ aB bW bZ aR aE bI aW bU fJ dO bM bQ bO jY oX qG m_x gR qR nG oO pJ sW sH)) hP hD rfl
  have hP := hPD.1
  have hD := hPD.2
  refine lv_aload_n hx hb aWB.2.2.2.1 rfl (lv_at hl 0 rfl) ?_
  refine lv_iconst (v := 0) hx hb aWB.2.2.2.2.1 aCi ?_
  have hm := mgk (wc := (aHP cI cC cZ cB cJ a_m nY sJ eG iY lY jR jW jZ jO oQ bR aY jQ gY iJ mQ lJ jA bG mK jB mW mJ eJ dG bT aG jC bL 0 jD mLn oF rP dQ aJ aB bW bZ aR aE bI aW bU fJ dO bM bQ bO jY oX qG m_x gR qR nG oO pJ sH)) hP aUv 10 rfl rfl rfl
  refine aBn hP hD hS hA (yS aUv) (aAi aUv) hm.1 hm.2 (aAk _) (zW _) (zF (As := [.int 0]) (rest := []) C0 hP hD hS (yS aUv) hm.1 (aAl _) 0 10 rfl rfl (c_X10_layHands_ l dC dI cI cC cZ cB cJ a_m nY sJ eG iY lY jR jW jZ jO oQ bR aY jQ gY iJ mQ lJ jA bG mK jB mW mJ eJ dG H.size 0 bT aG jC bL 0 jD mLn oF rP dQ aJ aB bW bZ aR aE bI aW bU fJ dO bM bQ bO jY oX qG m_x gR qR nG oO pJ sH _ hp) q_879 q_882 q_880 q_881 aBL h_X10_layHands_ rfl rfl ⟨lbz rfl, lbz rfl⟩ rfl rfl hl.1 rfl (lv_room (lbz rfl)) aWB.2.2.2.2.2.1 ⟨Nat.zero_le _, Nat.zero_le _⟩) (fun u H locs hp hP hD hS => ?_)
  obtain ⟨aDN, aII⟩ := u
  have hPD := PDm (ws' := (aO9 cI cC cZ cB cJ a_m nY sJ eG iY lY jR jW jZ jO oQ bR aY jQ gY iJ mQ lJ jA bG mK jB mW mJ eJ dG bT aG jC bL 0 jD mLn oF rP dQ aJ aB bW bZ aR aE bI aW bU fJ aDN bM bQ bO jY oX qG m_x gR qR nG oO pJ sW aII)) hP hD 10 rfl rfl rfl
  have hP := hPD.1
  have hD := hPD.2
  refine lv_aload_n hx hb aWB.2.2.2.2.2.2.1 rfl (lv_at hl 0 rfl) ?_
  refine lv_aload_n hx hb aWB.2.2.2.2.2.2.2.1 rfl (lv_at hl 0 rfl) ?_
  refine va_get (D := (dC, dI)) (ci := 10) (v := .int aDN) (C := zX) (T := aBe) (N := 51) hx hb hts aAt hown hK hP 0 rfl rfl 37 (lbz rfl) (hts _ q_878) (fun _ h9 => h9) rfl aWB.2.2.2.2.2.2.2.2.1 ?_
  have hm := mgk (wc := (aHF cI cC cZ cB cJ a_m nY sJ eG iY lY jR jW jZ jO oQ bR aY jQ gY iJ mQ lJ jA bG mK jB mW mJ eJ dG bT aG jC bL 0 jD mLn oF rP dQ aJ aB bW bZ aR aE bI aW bU fJ aDN bM bQ bO jY oX aII)) hP mk_284 10 rfl rfl rfl
  refine yW hP hD hS hA (yS mk_284) (aAi mk_284) hm.1 hm.2 (aAk _) (zW _) (zF (As := [.int aDN]) (rest := []) C0 hP hD hS (yS mk_284) hm.1 (aAl _) 0 10 rfl rfl (c_X10_cover l dC dI cI cC cZ cB cJ a_m nY sJ eG iY lY jR jW jZ jO oQ bR aY jQ gY iJ mQ lJ jA bG mK jB mW mJ eJ dG H.size aDN bT aG jC bL 0 jD mLn oF rP dQ aJ aB bW bZ aR aE bI aW bU fJ aDN bM bQ bO jY oX aII _ hp) q_898 q_901 q_899 q_900 aBL h_X10_cover rfl rfl ⟨lbz rfl, lbz rfl⟩ rfl rfl hl.1 rfl (lv_room (lbz rfl)) aWB.2.2.2.2.2.2.2.2.2.1 ⟨Nat.zero_le _, Nat.zero_le _⟩) (fun r_3 u H locs hp hP hD hS => ?_)
  have hPD := PDm (ws' := (aO9 cI cC cZ cB cJ a_m nY sJ eG iY lY jR jW jZ jO oQ bR aY jQ gY iJ mQ lJ jA bG mK jB mW mJ eJ dG bT aG jC bL 0 jD mLn oF rP dQ aJ aB bW bZ aR aE bI aW bU fJ aDN bM bQ bO jY oX qG m_x gR qR nG oO pJ sW aII)) hP hD 10 rfl rfl rfl
  have hP := hPD.1
  have hD := hPD.2
  have hm := mgk (wc := (aBh cI cC cZ cB cJ)) hP aGk 10 rfl rfl rfl
  refine yW hP hD hS hA (yS aGk) (aAi aGk) hm.1 hm.2 (aAk _) (zW _) (aDn (As := [.int r_3]) (rest := []) C0 hP hD hS (yS aGk) hm.1 (aAl _) (aBv l dC dI cI cC cZ cB cJ H.size r_3 _ hp) q_320 q_803 q_322 q_321 aBw rfl rfl ⟨lbz rfl, lbz rfl⟩ rfl rfl hl.1 rfl (lv_room (lbz rfl)) aWB.2.2.2.2.2.2.2.2.2.2.1 ⟨Nat.zero_le _, Nat.zero_le _⟩) (fun r_4 u H locs hp hP hD hS => ?_)
  have hPD := PDm (ws' := (aO9 cI cC cZ cB cJ a_m nY sJ eG iY lY jR jW jZ jO oQ bR aY jQ gY iJ mQ lJ jA bG mK jB mW mJ eJ dG bT aG jC bL 0 jD mLn oF rP dQ aJ aB bW bZ aR aE bI aW bU fJ aDN bM bQ bO jY oX qG m_x gR qR nG oO pJ sW aII)) hP hD 10 rfl rfl rfl
  have hP := hPD.1
  have hD := hPD.2
  refine lv_istore_n (lv' := [(1, .int r_4), (0, .ref a_m)]) hx hb aWB.2.2.2.2.2.2.2.2.2.2.2.1 rfl hl (by decide) rfl (fun ls hl => ?_)
  refine lv_aload_n hx hb aWB.2.2.2.2.2.2.2.2.2.2.2.2.1 rfl (lv_at hl 1 rfl) ?_
  refine va_get (D := (dC, dI)) (ci := 10) (v := .int aDN) (C := zX) (T := aBe) (N := 51) hx hb hts aAt hown hK hP 0 rfl rfl 37 (lbz rfl) (hts _ q_878) (fun _ h9 => h9) rfl aWB.2.2.2.2.2.2.2.2.2.2.2.2.2.1 ?_
  have hm := mgk (wc := (aBh cI cC cZ cB cJ)) hP aGk 10 rfl rfl rfl
  refine yW hP hD hS hA (yS aGk) (aAi aGk) hm.1 hm.2 (aAk _) (zW _) (aDn (As := [.int aDN]) (rest := []) C0 hP hD hS (yS aGk) hm.1 (aAl _) (aBv l dC dI cI cC cZ cB cJ H.size aDN _ hp) q_320 q_803 q_322 q_321 aBw rfl rfl ⟨lbz rfl, lbz rfl⟩ rfl rfl hl.1 rfl (lv_room (lbz rfl)) aWB.2.2.2.2.2.2.2.2.2.2.2.2.2.2.1 ⟨Nat.zero_le _, Nat.zero_le _⟩) (fun r_5 u H locs hp hP hD hS => ?_)
  have hPD := PDm (ws' := (aO9 cI cC cZ cB cJ a_m nY sJ eG iY lY jR jW jZ jO oQ bR aY jQ gY iJ mQ lJ jA bG mK jB mW mJ eJ dG bT aG jC bL 0 jD mLn oF rP dQ aJ aB bW bZ aR aE bI aW bU fJ aDN bM bQ bO jY oX qG m_x gR qR nG oO pJ sW aII)) hP hD 10 rfl rfl rfl
  have hP := hPD.1
  have hD := hPD.2
  refine lv_istore_n (lv' := [(2, .int r_5), (1, .int r_4), (0, .ref a_m)]) hx hb aWB.2.2.2.2.2.2.2.2.2.2.2.2.2.2.2 rfl hl (by decide) rfl (fun ls hl => ?_)
  refine lv_aload_n hx hb aSw.1 rfl (lv_at hl 2 rfl) ?_
  refine lv_iconst (v := 1) hx hb aSw.2.1 aDx ?_
  have hm := mgk (wc := (aHP cI cC cZ cB cJ a_m nY sJ eG iY lY jR jW jZ jO oQ bR aY jQ gY iJ mQ lJ jA bG mK jB mW mJ eJ dG bT aG jC bL 0 jD mLn oF rP dQ aJ aB bW bZ aR aE bI aW bU fJ aDN bM bQ bO jY oX qG m_x gR qR nG oO pJ aII)) hP aUv 10 rfl rfl rfl
  refine aBn hP hD hS hA (yS aUv) (aAi aUv) hm.1 hm.2 (aAk _) (zW _) (zF (As := [.int 1]) (rest := []) C0 hP hD hS (yS aUv) hm.1 (aAl _) 0 10 rfl rfl (c_X10_layHands_ l dC dI cI cC cZ cB cJ a_m nY sJ eG iY lY jR jW jZ jO oQ bR aY jQ gY iJ mQ lJ jA bG mK jB mW mJ eJ dG H.size 1 bT aG jC bL 0 jD mLn oF rP dQ aJ aB bW bZ aR aE bI aW bU fJ aDN bM bQ bO jY oX qG m_x gR qR nG oO pJ aII _ hp) q_879 q_882 q_880 q_881 aBL h_X10_layHands_ rfl rfl ⟨lbz rfl, lbz rfl⟩ rfl rfl hl.1 rfl (lv_room (lbz rfl)) aSw.2.2.1 ⟨Nat.zero_le _, Nat.zero_le _⟩) (fun u H locs hp hP hD hS => ?_)
  obtain ⟨aPR, m_hand_7⟩ := u
  have hPD := PDm (ws' := (aO9 cI cC cZ cB cJ a_m nY sJ eG iY lY jR jW jZ jO oQ bR aY jQ gY iJ mQ lJ jA bG mK jB mW mJ eJ dG bT aG jC bL 0 jD mLn oF rP dQ aJ aB bW bZ aR aE bI aW bU fJ aPR bM bQ bO jY oX qG m_x gR qR nG oO pJ sW m_hand_7)) hP hD 10 rfl rfl rfl
  have hP := hPD.1
  have hD := hPD.2
  refine lv_aload_n hx hb aSw.2.2.2.1 rfl (lv_at hl 2 rfl) ?_
  refine lv_aload_n hx hb aSw.2.2.2.2.1 rfl (lv_at hl 2 rfl) ?_
  refine va_get (D := (dC, dI)) (ci := 10) (v := .int aPR) (C := zX) (T := aBe) (N := 51) hx hb hts aAt hown hK hP 0 rfl rfl 37 (lbz rfl) (hts _ q_878) (fun _ h9 => h9) rfl aSw.2.2.2.2.2.1 ?_
  have hm := mgk (wc := (aHF cI cC cZ cB cJ a_m nY sJ eG iY lY jR jW jZ jO oQ bR aY jQ gY iJ mQ lJ jA bG mK jB mW mJ eJ dG bT aG jC bL 0 jD mLn oF rP dQ aJ aB bW bZ aR aE bI aW bU fJ aPR bM bQ bO jY oX m_hand_7)) hP mk_284 10 rfl rfl rfl
  refine yW hP hD hS hA (yS mk_284) (aAi mk_284) hm.1 hm.2 (aAk _) (zW _) (zF (As := [.int aPR]) (rest := []) C0 hP hD hS (yS mk_284) hm.1 (aAl _) 0 10 rfl rfl (c_X10_cover l dC dI cI cC cZ cB cJ a_m nY sJ eG iY lY jR jW jZ jO oQ bR aY jQ gY iJ mQ lJ jA bG mK jB mW mJ eJ dG H.size aPR bT aG jC bL 0 jD mLn oF rP dQ aJ aB bW bZ aR aE bI aW bU fJ aPR bM bQ bO jY oX m_hand_7 _ hp) q_898 q_901 q_899 q_900 aBL h_X10_cover rfl rfl ⟨lbz rfl, lbz rfl⟩ rfl rfl hl.1 rfl (lv_room (lbz rfl)) aSw.2.2.2.2.2.2.1 ⟨Nat.zero_le _, Nat.zero_le _⟩) (fun r_8 u H locs hp hP hD hS => ?_)
  have hPD := PDm (ws' := (aO9 cI cC cZ cB cJ a_m nY sJ eG iY lY jR jW jZ jO oQ bR aY jQ gY iJ mQ lJ jA bG mK jB mW mJ eJ dG bT aG jC bL 0 jD mLn oF rP dQ aJ aB bW bZ aR aE bI aW bU fJ aPR bM bQ bO jY oX qG m_x gR qR nG oO pJ sW m_hand_7)) hP hD 10 rfl rfl rfl
  have hP := hPD.1
  have hD := hPD.2
  have hm := mgk (wc := (aBh cI cC cZ cB cJ)) hP aGk 10 rfl rfl rfl
  refine yW hP hD hS hA (yS aGk) (aAi aGk) hm.1 hm.2 (aAk _) (zW _) (aDn (As := [.int r_8]) (rest := []) C0 hP hD hS (yS aGk) hm.1 (aAl _) (aBv l dC dI cI cC cZ cB cJ H.size r_8 _ hp) q_320 q_803 q_322 q_321 aBw rfl rfl ⟨lbz rfl, lbz rfl⟩ rfl rfl hl.1 rfl (lv_room (lbz rfl)) aSw.2.2.2.2.2.2.2.1 ⟨Nat.zero_le _, Nat.zero_le _⟩) (fun r_9 u H locs hp hP hD hS => ?_)
  have hPD := PDm (ws' := (aO9 cI cC cZ cB cJ a_m nY sJ eG iY lY jR jW jZ jO oQ bR aY jQ gY iJ mQ lJ jA bG mK jB mW mJ eJ dG bT aG jC bL 0 jD mLn oF rP dQ aJ aB bW bZ aR aE bI aW bU fJ aPR bM bQ bO jY oX qG m_x gR qR nG oO pJ sW m_hand_7)) hP hD 10 rfl rfl rfl
  have hP := hPD.1
  have hD := hPD.2
  refine lv_istore_n (lv' := [(3, .int r_9), (2, .int r_5), (1, .int r_4), (0, .ref a_m)]) hx hb aSw.2.2.2.2.2.2.2.2.1 rfl hl (by decide) rfl (fun ls hl => ?_)
  refine lv_aload_n hx hb aSw.2.2.2.2.2.2.2.2.2.1 rfl (lv_at hl 3 rfl) ?_
  refine lv_iconst (v := 0) hx hb aSw.2.2.2.2.2.2.2.2.2.2.1 aCi ?_
  refine va_put (D := (dC, dI)) (ci := 10) (v := .int 0) (ty := .int) (C := zX) (T := aBe) (N := 51) hx hb hts aAt aD2 aAa aEC hown hK hP hD hS 0 rfl rfl 13 (lbz rfl) (hts _ q_847) (fun _ h9 => h9) rfl (aAa 13 (lbz rfl)) rfl rfl (lbz rfl) aSw.2.2.2.2.2.2.2.2.2.2.2.1 (fun H locs hP hD hS => ?_)
  have hPD := PDw (ws' := (aO9 cI cC cZ cB cJ a_m nY sJ eG iY lY jR jW jZ jO oQ bR aY jQ gY iJ mQ lJ jA bG mK jB mW mJ eJ dG bT aG jC 0 0 jD mLn oF rP dQ aJ aB bW bZ aR aE bI aW bU fJ aPR bM bQ bO jY oX qG m_x gR qR nG oO pJ sW m_hand_7)) hP hD rfl
  have hP := hPD.1
  have hD := hPD.2
  refine lv_aload_n hx hb aSw.2.2.2.2.2.2.2.2.2.2.2.2.1 rfl (lv_at hl 3 rfl) ?_
  refine lv_iload_n hx hb aSw.2.2.2.2.2.2.2.2.2.2.2.2.2.1 rfl (lv_at hl 1 rfl) ?_
  have hm := mgk (wc := (aD0 cI cC cZ cB cJ a_m nY sJ eG iY lY jR jW jZ jO oQ bR aY jQ gY iJ mQ lJ jA bG mK jB mW mJ eJ dG bT aG jC 0 0 jD mLn oF rP dQ aJ aB bW bZ aR aE bI aW bU fJ aPR bM bQ bO jY oX sW)) hP aOv 10 rfl rfl rfl
  refine aBn hP hD hS hA (yS aOv) (aAi aOv) hm.1 hm.2 (aAk _) (zW _) (zF (As := [.int r_5]) (rest := []) C0 hP hD hS (yS aOv) hm.1 (aAl _) 0 10 rfl rfl (aGE l dC dI cI cC cZ cB cJ a_m nY sJ eG iY lY jR jW jZ jO oQ bR aY jQ gY iJ mQ lJ jA bG mK jB mW mJ eJ dG H.size r_5 bT aG jC 0 0 jD mLn oF rP dQ aJ aB bW bZ aR aE bI aW bU fJ aPR bM bQ bO jY oX sW _ hp) q_849 q_852 q_850 q_851 aBL aGF rfl rfl ⟨lbz rfl, lbz rfl⟩ rfl rfl hl.1 rfl (lv_room (lbz rfl)) aSw.2.2.2.2.2.2.2.2.2.2.2.2.2.2.1 ⟨Nat.zero_le _, Nat.zero_le _⟩) (fun u H locs hp hP hD hS => ?_)
  obtain ⟨aDZ, aHj⟩ := u
  have hPD := PDm (ws' := (aO9 cI cC cZ cB cJ a_m nY sJ eG iY lY jR jW jZ jO oQ bR aY jQ gY iJ mQ lJ jA bG mK jB mW mJ eJ dG bT aG jC aDZ 0 jD mLn oF rP dQ aJ aB bW bZ aR aE bI aW bU fJ aPR bM bQ bO jY oX qG m_x gR qR nG oO pJ aHj m_hand_7)) hP hD 10 rfl rfl rfl
  have hP := hPD.1
  have hD := hPD.2
  refine lv_aload_n hx hb aSw.2.2.2.2.2.2.2.2.2.2.2.2.2.2.2 rfl (lv_at hl 3 rfl) ?_
  refine lv_aload_n hx hb eX10_helps_58.1 rfl (lv_at hl 3 rfl) ?_
  refine va_get (D := (dC, dI)) (ci := 10) (v := .int aPR) (C := zX) (T := aBe) (N := 51) hx hb hts aAt hown hK hP 0 rfl rfl 37 (lbz rfl) (hts _ q_878) (fun _ h9 => h9) rfl eX10_helps_58.2.1 ?_
  have hm := mgk (wc := (aBh cI cC cZ cB cJ)) hP aGk 10 rfl rfl rfl
  refine yW hP hD hS hA (yS aGk) (aAi aGk) hm.1 hm.2 (aAk _) (zW _) (aDn (As := [.int aPR]) (rest := [.ref a_m]) C0 hP hD hS (yS aGk) hm.1 (aAl _) (aBv l dC dI cI cC cZ cB cJ H.size aPR _ hp) q_320 q_803 q_322 q_321 aBw rfl rfl ⟨lbz rfl, lbz rfl⟩ rfl rfl hl.1 rfl (lv_room (lbz rfl)) eX10_helps_58.2.2.1 ⟨Nat.zero_le _, Nat.zero_le _⟩) (fun r_12 u H locs hp hP hD hS => ?_)
  have hPD := PDm (ws' := (aO9 cI cC cZ cB cJ a_m nY sJ eG iY lY jR jW jZ jO oQ bR aY jQ gY iJ mQ lJ jA bG mK jB mW mJ eJ dG bT aG jC aDZ 0 jD mLn oF rP dQ aJ aB bW bZ aR aE bI aW bU fJ aPR bM bQ bO jY oX qG m_x gR qR nG oO pJ aHj m_hand_7)) hP hD 10 rfl rfl rfl
  have hP := hPD.1
  have hD := hPD.2
  have hm := mgk (wc := (aD0 cI cC cZ cB cJ a_m nY sJ eG iY lY jR jW jZ jO oQ bR aY jQ gY iJ mQ lJ jA bG mK jB mW mJ eJ dG bT aG jC aDZ 0 jD mLn oF rP dQ aJ aB bW bZ aR aE bI aW bU fJ aPR bM bQ bO jY oX aHj)) hP aOv 10 rfl rfl rfl
  refine aBn hP hD hS hA (yS aOv) (aAi aOv) hm.1 hm.2 (aAk _) (zW _) (zF (As := [.int r_12]) (rest := []) C0 hP hD hS (yS aOv) hm.1 (aAl _) 0 10 rfl rfl (aGE l dC dI cI cC cZ cB cJ a_m nY sJ eG iY lY jR jW jZ jO oQ bR aY jQ gY iJ mQ lJ jA bG mK jB mW mJ eJ dG H.size r_12 bT aG jC aDZ 0 jD mLn oF rP dQ aJ aB bW bZ aR aE bI aW bU fJ aPR bM bQ bO jY oX aHj _ hp) q_849 q_852 q_850 q_851 aBL aGF rfl rfl ⟨lbz rfl, lbz rfl⟩ rfl rfl hl.1 rfl (lv_room (lbz rfl)) eX10_helps_58.2.2.2.1 ⟨Nat.zero_le _, Nat.zero_le _⟩) (fun u H locs hp hP hD hS => ?_)
  obtain ⟨bBI, m_row_14⟩ := u
  have hPD := PDm (ws' := (aO9 cI cC cZ cB cJ a_m nY sJ eG iY lY jR jW jZ jO oQ bR aY jQ gY iJ mQ lJ jA bG mK jB mW mJ eJ dG bT aG jC bBI 0 jD mLn oF rP dQ aJ aB bW bZ aR aE bI aW bU fJ aPR bM bQ bO jY oX qG m_x gR qR nG oO pJ m_row_14 m_hand_7)) hP hD 10 rfl rfl rfl
  have hP := hPD.1
  have hD := hPD.2
  refine lv_iload_n hx hb eX10_helps_58.2.2.2.2.1 rfl (lv_at hl 2 rfl) ?_
  refine lv_iload_n hx hb eX10_helps_58.2.2.2.2.2.1 rfl (lv_at hl 0 rfl) ?_
  refine lv_isub hx hb eX10_helps_58.2.2.2.2.2.2.1 ?_
  exact W.iret (v := r_4 - r_9) hx hb hr (fun t ht hW => ⟨⟨r_4 - r_9, (bBI, 0, aPR, m_row_14, m_hand_7), rfl, hp, by rw [ht]; exact hP, va_K.moved hW.alike hK, hD⟩, hS.F ht⟩) hS.2.2 eX10_helps_58.2.2.2.2.2.2.2
abbrev aG8 (cI cC cZ cB cJ : ClassId) (a_m nY sJ eG iY lY jR jW jZ jO oQ bR aY jQ gY iJ mQ lJ jA bG mK jB mW mJ eJ dG : Nat) (bT aG jC bL bY : Int32) (jD : Nat) (mLn oF rP dQ aJ aB bW bZ aR aE bI aW bU fJ dO bM bQ bO jY oX : Int32) (qG m_x gR qR nG oO pJ sW sH : Nat -> Int32) : va_W := [(a_m, .inr (10, [.ref nY, .int bT, .ref sJ, .ref eG, .ref iY, .ref lY, .int aG, .ref jR, .ref jW, .ref jZ, .ref jO, .int jC, .ref oQ, .int bL, .int bY, rdv jO jQ jD, .int mLn, .int oF, .int rP, .int dQ, .ref bR, .ref aY, .int aJ, .int aB, .ref jQ, .int bW, .int bZ, .int aR, .int aE, .int bI, .int aW, .ref gY, .int bU, .ref iJ, .ref mQ, .int fJ, .ref lJ, .int dO, .ref jA, .ref bG, .int bM, .int bQ, .int bO, .ref mK, .ref jB, .ref mW, .int jY, .int oX, .ref mJ, .ref eJ, .ref dG])), (nY, .inl (cI, 21, .inl qG)), (sJ, .inl (cI, 16, .inl m_x)), (eG, .inl (cI, 16, .inl gR)), (lY, .inl (cI, 16, .inl qR)), (jR, .inl (cI, 8, .inl nG)), (jW, .inl (cI, 8, .inl oO)), (jZ, .inl (cI, 5, .inl pJ)), (oQ, .inl (cI, 32, .inl sW)), (lJ, .inl (cI, 8, .inl sH))]
abbrev q_X10_hooked (dC : Nat -> ClassId) (dI : Nat -> Nat -> Nat) (cI cC cZ cB cJ : ClassId) (A : Nat -> Prop) (a_m nY sJ eG iY lY jR jW jZ jO oQ bR aY jQ gY iJ mQ lJ jA bG mK jB mW mJ eJ dG : Nat) (bT aG jC : Int32) (jD : Nat) (mLn oF rP dQ aJ aB bW bZ aR aE bI aW bU fJ bM bQ bO jY oX : Int32) (qG m_x gR qR nG oO pJ : Nat -> Int32) (post : Int32 -> Int32 -> Int32 -> Int32 -> (Nat -> Int32) -> (Nat -> Int32) -> Prop) : Array Value -> State -> Outcome -> State -> Prop := va_Qi (fun (r : Int32) (u : Int32 × Int32 × Int32 × (Nat -> Int32) × (Nat -> Int32)) => post r u.1 u.2.1 u.2.2.1 u.2.2.2.1 u.2.2.2.2) (fun u t => gB (dC, dI) (tyl cI cC cZ cB cJ) A (aG8 cI cC cZ cB cJ a_m nY sJ eG iY lY jR jW jZ jO oQ bR aY jQ gY iJ mQ lJ jA bG mK jB mW mJ eJ dG bT aG jC u.1 u.2.1 jD mLn oF rP dQ aJ aB bW bZ aR aE bI aW bU fJ u.2.2.1 bM bQ bO jY oX qG m_x gR qR nG oO pJ u.2.2.2.1 u.2.2.2.2) t) A
abbrev rm_X10_hooked : Room := { frames := 6, cells := 0, slots := 0, locals := 133 }
section S_X10_hooked
variable {p : Program} {l : Launch} {e : Env} {s : State} {m : MethodId} {args : Array Value} {below : List Frame} {meth : Method} {c : Code} {dC : Nat -> ClassId} {dI : Nat -> Nat -> Nat} {cI cC cZ cB cJ : ClassId} {A : Nat -> Prop} {a_m nY sJ eG iY lY jR jW jZ jO oQ bR aY jQ gY iJ mQ lJ jA bG mK jB mW mJ eJ dG : Nat} {bT aG jC : Int32} {jD : Nat} {mLn oF rP dQ aJ aB bW bZ aR aE bI aW bU fJ bM bQ bO jY oX : Int32} {qG m_x gR qR nG oO pJ : Nat -> Int32} {post : Int32 -> Int32 -> Int32 -> Int32 -> (Nat -> Int32) -> (Nat -> Int32) -> Prop}
def ws_X10_hooked_107 (post : Int32 -> Int32 -> Int32 -> Int32 -> (Nat -> Int32) -> (Nat -> Int32) -> Prop) (K52 : Int32 -> Int32 -> Int32 -> Int32 -> Int32 -> Int32 -> Int32 -> Int32 -> (Nat -> Int32) -> (Nat -> Int32) -> Prop) (bT aG : Int32) (qG m_x gR qR nG oO pJ : Nat -> Int32) (x1 x2 x3 x4 x5 bL bY dO : Int32) (sW sH : Nat -> Int32) : Prop := ∀ v_20 : Int32, v_20 = x5 + 1 -> K52 x1 x2 x3 x4 v_20 bL bY dO sW sH
set_option maxHeartbeats 4000000 in
set_option maxRecDepth 100000 in
theorem ks_X10_hooked_107 (C0 : gc aCg (some .int) 7 zX (dC, dI) (tyl cI cC cZ cB cJ) A p s m args meth c) {K52 : Int32 -> Int32 -> Int32 -> Int32 -> Int32 -> Int32 -> Int32 -> Int32 -> (Nat -> Int32) -> (Nat -> Int32) -> Prop} (hK52 : ∀ (x1 : Int32) (x2 : Int32) (x3 : Int32) (x4 : Int32) (x5 : Int32) (bL : Int32) (bY : Int32) (dO : Int32) (sW : Nat -> Int32) (sH : Nat -> Int32) (H : Heap) (locs : List Loc) (ls : Array Slot), K52 x1 x2 x3 x4 x5 bL bY dO sW sH -> va_P (dC, dI) classes (aG8 cI cC cZ cB cJ a_m nY sJ eG iY lY jR jW jZ jO oQ bR aY jQ gY iJ mQ lJ jA bG mK jB mW mJ eJ dG bT aG jC bL bY jD mLn oF rP dQ aJ aB bW bZ aR aE bI aW bU fJ dO bM bQ bO jY oX qG m_x gR qR nG oO pJ sW sH) H -> va_D A (aG8 cI cC cZ cB cJ a_m nY sJ eG iY lY jR jW jZ jO oQ bR aY jQ gY iJ mQ lJ jA bG mK jB mW mJ eJ dG bT aG jC bL bY jD mLn oF rP dQ aJ aB bW bZ aR aE bI aW bU fJ dO bM bQ bO jY oX qG m_x gR qR nG oO pJ sW sH) -> va_S A s.heap H locs -> lv_has ls 7 [(0, .ref a_m), (1, .int x1), (2, .int x2), (3, .int x3), (4, .int x4), (5, .int x5)] -> W p l e rm_X10_hooked s m args below meth c H locs 0 0 (MQ below (q_X10_hooked dC dI cI cC cZ cB cJ A a_m nY sJ eG iY lY jR jW jZ jO oQ bR aY jQ gY iJ mQ lJ jA bG mK jB mW mJ eJ dG bT aG jC jD mLn oF rP dQ aJ aB bW bZ aR aE bI aW bU fJ bM bQ bO jY oX qG m_x gR qR nG oO pJ post) args s 0 0 A) (F0 m 52 ls [])) : ∀ (x1 x2 x3 x4 x5 bL bY dO : Int32) (sW sH : Nat -> Int32) (H : Heap) (locs : List Loc) (ls : Array Slot), (ws_X10_hooked_107 post K52 bT aG qG m_x gR qR nG oO pJ) x1 x2 x3 x4 x5 bL bY dO sW sH -> va_P (dC, dI) classes (aG8 cI cC cZ cB cJ a_m nY sJ eG iY lY jR jW jZ jO oQ bR aY jQ gY iJ mQ lJ jA bG mK jB mW mJ eJ dG bT aG jC bL bY jD mLn oF rP dQ aJ aB bW bZ aR aE bI aW bU fJ dO bM bQ bO jY oX qG m_x gR qR nG oO pJ sW sH) H -> va_D A (aG8 cI cC cZ cB cJ a_m nY sJ eG iY lY jR jW jZ jO oQ bR aY jQ gY iJ mQ lJ jA bG mK jB mW mJ eJ dG bT aG jC bL bY jD mLn oF rP dQ aJ aB bW bZ aR aE bI aW bU fJ dO bM bQ bO jY oX qG m_x gR qR nG oO pJ sW sH) -> va_S A s.heap H locs -> lv_has ls 7 [(0, .ref a_m), (1, .int x1), (2, .int x2), (3, .int x3), (4, .int x4), (5, .int x5)] -> W p l e rm_X10_hooked s m args below meth c H locs 0 0 (MQ below (q_X10_hooked dC dI cI cC cZ cB cJ A a_m nY sJ eG iY lY jR jW jZ jO oQ bR aY jQ gY iJ mQ lJ jA bG mK jB mW mJ eJ dG bT aG jC jD mLn oF rP dQ aJ aB bW bZ aR aE bI aW bU fJ bM bQ bO jY oX qG m_x gR qR nG oO pJ post) args s 0 0 A) (F0 m 107 ls []) := by
  obtain ⟨hx, hb, hr, hml, hown, hts, hlocks, hA, hK, hN, tL, tM, hZL, hTL, hZM, hTM, hZX⟩ := id C0
  intro x1 x2 x3 x4 x5 bL bY dO sW sH H locs ls hp hP hD hS hl
  unfold ws_X10_hooked_107 at hp
  obtain ⟨v_20, ev_20⟩ : ∃ y : Int32, y = x5 + 1 := ⟨_, rfl⟩
  refine lv_iinc (v := v_20) (lv' := [(5, .int v_20), (0, .ref a_m), (1, .int x1), (2, .int x2), (3, .int x3), (4, .int x4)]) hx hb aQI.2.2.2.2.2.2.2.2.2.2.2.2.2.2.1 hl (k := 5) rfl (by rw [ev_20]; rfl) (by decide) rfl (fun ls hl => ?_)
  have hp := hp v_20 ev_20
  refine lv_goto (tgt := 52) hx hb aQI.2.2.2.2.2.2.2.2.2.2.2.2.2.2.2 (by decide) ?_
  exact hK52 x1 x2 x3 x4 v_20 bL bY dO sW sH H locs ls hp hP hD hS (lv_sub hl [1, 2, 3, 4, 5, 0] rfl)
def ws_X10_hooked_52 (post : Int32 -> Int32 -> Int32 -> Int32 -> (Nat -> Int32) -> (Nat -> Int32) -> Prop) (next : Int32 -> Int32 -> Int32 -> Int32 -> Int32 -> Int32 -> Int32 -> Int32 -> (Nat -> Int32) -> (Nat -> Int32) -> Prop) (bT aG : Int32) (qG m_x gR qR nG oO pJ : Nat -> Int32) (x1 x2 x3 x4 x5 bL bY dO : Int32) (sW sH : Nat -> Int32) : Prop := (aG <= x5 -> aDs (fun aDZ aHj => aDs (fun bBH m_row_13 => post x2 bBH bY dO m_row_13 sH) x4 aDZ aHj) x3 0 sW) /\ (¬ aG <= x5 -> ∀ aGC : Int32, aGC = qG (18 : Int32).toNatClampNeg -> aJz (fun r_15 => ∀ aHb : Int32, aHb = x1 &&& r_15 -> ∀ v_17 : Int32, v_17 = x2 ||| aHb -> aBb (fun r_18 => (x4 < r_18 -> aBb (fun r_19 => ws_X10_hooked_107 post next bT aG qG m_x gR qR nG oO pJ x1 v_17 x5 r_19 x5 bL bY dO sW sH) aHb) /\ (¬ x4 < r_18 -> ws_X10_hooked_107 post next bT aG qG m_x gR qR nG oO pJ x1 v_17 x3 x4 x5 bL bY dO sW sH)) aHb) x5 aGC 1 bT m_x gR nG oO pJ)
noncomputable def wb_X10_hooked_52 (post : Int32 -> Int32 -> Int32 -> Int32 -> (Nat -> Int32) -> (Nat -> Int32) -> Prop) (bT aG : Int32) (qG m_x gR qR nG oO pJ : Nat -> Int32) : Nat -> Int32 -> Int32 -> Int32 -> Int32 -> Int32 -> Int32 -> Int32 -> Int32 -> (Nat -> Int32) -> (Nat -> Int32) -> Prop := fun n => Nat.rec (motive := fun _ => Int32 -> Int32 -> Int32 -> Int32 -> Int32 -> Int32 -> Int32 -> Int32 -> (Nat -> Int32) -> (Nat -> Int32) -> Prop) (fun _ _ _ _ _ _ _ _ _ _ => False) (fun _ ih => ws_X10_hooked_52 post ih bT aG qG m_x gR qR nG oO pJ) n
set_option maxHeartbeats 4000000 in
set_option maxRecDepth 100000 in
theorem ks_X10_hooked_52 (C0 : gc aCg (some .int) 7 zX (dC, dI) (tyl cI cC cZ cB cJ) A p s m args meth c) {next : Int32 -> Int32 -> Int32 -> Int32 -> Int32 -> Int32 -> Int32 -> Int32 -> (Nat -> Int32) -> (Nat -> Int32) -> Prop} (hKn : ∀ (x1 : Int32) (x2 : Int32) (x3 : Int32) (x4 : Int32) (x5 : Int32) (bL : Int32) (bY : Int32) (dO : Int32) (sW : Nat -> Int32) (sH : Nat -> Int32) (H : Heap) (locs : List Loc) (ls : Array Slot), next x1 x2 x3 x4 x5 bL bY dO sW sH -> va_P (dC, dI) classes (aG8 cI cC cZ cB cJ a_m nY sJ eG iY lY jR jW jZ jO oQ bR aY jQ gY iJ mQ lJ jA bG mK jB mW mJ eJ dG bT aG jC bL bY jD mLn oF rP dQ aJ aB bW bZ aR aE bI aW bU fJ dO bM bQ bO jY oX qG m_x gR qR nG oO pJ sW sH) H -> va_D A (aG8 cI cC cZ cB cJ a_m nY sJ eG iY lY jR jW jZ jO oQ bR aY jQ gY iJ mQ lJ jA bG mK jB mW mJ eJ dG bT aG jC bL bY jD mLn oF rP dQ aJ aB bW bZ aR aE bI aW bU fJ dO bM bQ bO jY oX qG m_x gR qR nG oO pJ sW sH) -> va_S A s.heap H locs -> lv_has ls 7 [(0, .ref a_m), (1, .int x1), (2, .int x2), (3, .int x3), (4, .int x4), (5, .int x5)] -> W p l e rm_X10_hooked s m args below meth c H locs 0 0 (MQ below (q_X10_hooked dC dI cI cC cZ cB cJ A a_m nY sJ eG iY lY jR jW jZ jO oQ bR aY jQ gY iJ mQ lJ jA bG mK jB mW mJ eJ dG bT aG jC jD mLn oF rP dQ aJ aB bW bZ aR aE bI aW bU fJ bM bQ bO jY oX qG m_x gR qR nG oO pJ post) args s 0 0 A) (F0 m 52 ls [])) : ∀ (x1 x2 x3 x4 x5 bL bY dO : Int32) (sW sH : Nat -> Int32) (H : Heap) (locs : List Loc) (ls : Array Slot), (ws_X10_hooked_52 post next bT aG qG m_x gR qR nG oO pJ) x1 x2 x3 x4 x5 bL bY dO sW sH -> va_P (dC, dI) classes (aG8 cI cC cZ cB cJ a_m nY sJ eG iY lY jR jW jZ jO oQ bR aY jQ gY iJ mQ lJ jA bG mK jB mW mJ eJ dG bT aG jC bL bY jD mLn oF rP dQ aJ aB bW bZ aR aE bI aW bU fJ dO bM bQ bO jY oX qG m_x gR qR nG oO pJ sW sH) H -> va_D A (aG8 cI cC cZ cB cJ a_m nY sJ eG iY lY jR jW jZ jO oQ bR aY jQ gY iJ mQ lJ jA bG mK jB mW mJ eJ dG bT aG jC bL bY jD mLn oF rP dQ aJ aB bW bZ aR aE bI aW bU fJ dO bM bQ bO jY oX qG m_x gR qR nG oO pJ sW sH) -> va_S A s.heap H locs -> lv_has ls 7 [(0, .ref a_m), (1, .int x1), (2, .int x2), (3, .int x3), (4, .int x4), (5, .int x5)] -> W p l e rm_X10_hooked s m args below meth c H locs 0 0 (MQ below (q_X10_hooked dC dI cI cC cZ cB cJ A a_m nY sJ eG iY lY jR jW jZ jO oQ bR aY jQ gY iJ mQ lJ jA bG mK jB mW mJ eJ dG bT aG jC jD mLn oF rP dQ aJ aB bW bZ aR aE bI aW bU fJ bM bQ bO jY oX qG m_x gR qR nG oO pJ post) args s 0 0 A) (F0 m 52 ls []) := by
  obtain ⟨hx, hb, hr, hml, hown, hts, hlocks, hA, hK, hN, tL, tM, hZL, hTL, hZM, hTM, hZX⟩ := id C0
  intro x1 x2 x3 x4 x5 bL bY dO sW sH H locs ls hp hP hD hS hl
  unfold ws_X10_hooked_52 at hp
  refine lv_iload hx hb aQH.2.1 (lv_at hl 5 rfl) ?_
  refine lv_aload_n hx hb aQH.2.2.1 rfl (lv_at hl 0 rfl) ?_
  refine va_get (D := (dC, dI)) (ci := 10) (v := .int aG) (C := zX) (T := aBe) (N := 51) hx hb hts aAt hown hK hP 0 rfl rfl 6 (lbz rfl) (hts _ q_666) (fun _ h9 => h9) rfl aQH.2.2.2.1 ?_
  refine lv_icmp_ge (tgt := 113) hx hb aQH.2.2.2.2.1 (by decide) (fun hc => ?_) (fun hc => ?_)
  · have hp := hp.1 hc
    refine lv_aload_n hx hb aYq.1 rfl (lv_at hl 0 rfl) ?_
    refine lv_iconst (v := 0) hx hb aYq.2.1 aCi ?_
    refine va_put (D := (dC, dI)) (ci := 10) (v := .int 0) (ty := .int) (C := zX) (T := aBe) (N := 51) hx hb hts aAt aD2 aAa aEC hown hK hP hD hS 0 rfl rfl 13 (lbz rfl) (hts _ q_847) (fun _ h9 => h9) rfl (aAa 13 (lbz rfl)) rfl rfl (lbz rfl) aYq.2.2.1 (fun H locs hP hD hS => ?_)
    have hPD := PDw (ws' := (aG8 cI cC cZ cB cJ a_m nY sJ eG iY lY jR jW jZ jO oQ bR aY jQ gY iJ mQ lJ jA bG mK jB mW mJ eJ dG bT aG jC 0 bY jD mLn oF rP dQ aJ aB bW bZ aR aE bI aW bU fJ dO bM bQ bO jY oX qG m_x gR qR nG oO pJ sW sH)) hP hD rfl
    have hP := hPD.1
    have hD := hPD.2
    refine lv_aload_n hx hb aYq.2.2.2.1 rfl (lv_at hl 0 rfl) ?_
    refine lv_iload_n hx hb aYq.2.2.2.2.1 rfl (lv_at hl 3 rfl) ?_
    have hm := mgk (wc := (aD0 cI cC cZ cB cJ a_m nY sJ eG iY lY jR jW jZ jO oQ bR aY jQ gY iJ mQ lJ jA bG mK jB mW mJ eJ dG bT aG jC 0 bY jD mLn oF rP dQ aJ aB bW bZ aR aE bI aW bU fJ dO bM bQ bO jY oX sW)) hP aOv 10 rfl rfl rfl
    refine aBn hP hD hS hA (yS aOv) (aAi aOv) hm.1 hm.2 (aAk _) (zW _) (zF (As := [.int x3]) (rest := []) C0 hP hD hS (yS aOv) hm.1 (aAl _) 0 10 rfl rfl (aGE l dC dI cI cC cZ cB cJ a_m nY sJ eG iY lY jR jW jZ jO oQ bR aY jQ gY iJ mQ lJ jA bG mK jB mW mJ eJ dG H.size x3 bT aG jC 0 bY jD mLn oF rP dQ aJ aB bW bZ aR aE bI aW bU fJ dO bM bQ bO jY oX sW _ hp) q_849 q_852 q_850 q_851 aBL aGF rfl rfl ⟨lbz rfl, lbz rfl⟩ rfl rfl hl.1 rfl (lv_room (lbz rfl)) aYq.2.2.2.2.2.1 ⟨Nat.zero_le _, Nat.zero_le _⟩) (fun u H locs hp hP hD hS => ?_)
    obtain ⟨aDZ, aHj⟩ := u
    have hPD := PDm (ws' := (aG8 cI cC cZ cB cJ a_m nY sJ eG iY lY jR jW jZ jO oQ bR aY jQ gY iJ mQ lJ jA bG mK jB mW mJ eJ dG bT aG jC aDZ bY jD mLn oF rP dQ aJ aB bW bZ aR aE bI aW bU fJ dO bM bQ bO jY oX qG m_x gR qR nG oO pJ aHj sH)) hP hD 10 rfl rfl rfl
    have hP := hPD.1
    have hD := hPD.2
    refine lv_aload_n hx hb aYq.2.2.2.2.2.2.1 rfl (lv_at hl 0 rfl) ?_
    refine lv_iload hx hb aYq.2.2.2.2.2.2.2.1 (lv_at hl 4 rfl) ?_
    have hm := mgk (wc := (aD0 cI cC cZ cB cJ a_m nY sJ eG iY lY jR jW jZ jO oQ bR aY jQ gY iJ mQ lJ jA bG mK jB mW mJ eJ dG bT aG jC aDZ bY jD mLn oF rP dQ aJ aB bW bZ aR aE bI aW bU fJ dO bM bQ bO jY oX aHj)) hP aOv 10 rfl rfl rfl
    refine aBn hP hD hS hA (yS aOv) (aAi aOv) hm.1 hm.2 (aAk _) (zW _) (zF (As := [.int x4]) (rest := []) C0 hP hD hS (yS aOv) hm.1 (aAl _) 0 10 rfl rfl (aGE l dC dI cI cC cZ cB cJ a_m nY sJ eG iY lY jR jW jZ jO oQ bR aY jQ gY iJ mQ lJ jA bG mK jB mW mJ eJ dG H.size x4 bT aG jC aDZ bY jD mLn oF rP dQ aJ aB bW bZ aR aE bI aW bU fJ dO bM bQ bO jY oX aHj _ hp) q_849 q_852 q_850 q_851 aBL aGF rfl rfl ⟨lbz rfl, lbz rfl⟩ rfl rfl hl.1 rfl (lv_room (lbz rfl)) aYq.2.2.2.2.2.2.2.2.1 ⟨Nat.zero_le _, Nat.zero_le _⟩) (fun u H locs hp hP hD hS => ?_)
    obtain ⟨bBH, m_row_13⟩ := u
    have hPD := PDm (ws' := (aG8 cI cC cZ cB cJ a_m nY sJ eG iY lY jR jW jZ jO oQ bR aY jQ gY iJ mQ lJ jA bG mK jB mW mJ eJ dG bT aG jC bBH bY jD mLn oF rP dQ aJ aB bW bZ aR aE bI aW bU fJ dO bM bQ bO jY oX qG m_x gR qR nG oO pJ m_row_13 sH)) hP hD 10 rfl rfl rfl
    have hP := hPD.1
    have hD := hPD.2
    refine lv_iload_n hx hb aYq.2.2.2.2.2.2.2.2.2.1 rfl (lv_at hl 2 rfl) ?_
    exact W.iret (v := x2) hx hb hr (fun t ht hW => ⟨⟨x2, (bBH, bY, dO, m_row_13, sH), rfl, hp, by rw [ht]; exact hP, va_K.moved hW.alike hK, hD⟩, hS.F ht⟩) hS.2.2 aYq.2.2.2.2.2.2.2.2.2.2
  · have hp := hp.2 hc
    refine lv_iload_n hx hb aQH.2.2.2.2.2.1 rfl (lv_at hl 1 rfl) ?_
    refine lv_aload_n hx hb aQH.2.2.2.2.2.2.1 rfl (lv_at hl 0 rfl) ?_
    refine lv_iload hx hb aQH.2.2.2.2.2.2.2.1 (lv_at hl 5 rfl) ?_
    refine lv_aload_n hx hb aQH.2.2.2.2.2.2.2.2.1 rfl (lv_at hl 0 rfl) ?_
    refine va_get (D := (dC, dI)) (ci := 10) (v := .ref nY) (C := zX) (T := aBe) (N := 51) hx hb hts aAt hown hK hP 0 rfl rfl 0 (lbz rfl) (hts _ aHO) (fun _ h9 => h9) rfl aQH.2.2.2.2.2.2.2.2.2.1 ?_
    refine lv_bipush (v := 18) hx hb aQH.2.2.2.2.2.2.2.2.2.2.1 bp_18 ?_
    refine va_iald hx hb hK hP 1 0 rfl rfl (g_in rfl) aQH.2.2.2.2.2.2.2.2.2.2.2.1 ?_
    refine lv_topi (fun aGC ev_14 => ?_)
    have hp := hp aGC ev_14
    refine lv_iconst (v := 1) hx hb aQH.2.2.2.2.2.2.2.2.2.2.2.2.1 aDx ?_
    have hm := mgk (wc := (aFy cI cC cZ cB cJ a_m nY sJ eG iY lY jR jW jZ jO oQ bR aY jQ gY iJ mQ lJ jA bG mK jB mW mJ eJ dG bT aG jC bL bY jD mLn oF rP dQ aJ aB bW bZ aR aE bI aW bU fJ dO bM bQ bO jY oX m_x gR nG oO pJ)) hP mk_285 10 rfl rfl rfl
    refine yW hP hD hS hA (yS mk_285) (aAi mk_285) hm.1 hm.2 (aAk _) (zW _) (zF (As := [.int x5, .int aGC, .int 1]) (rest := [.int x1]) C0 hP hD hS (yS mk_285) hm.1 (aAl _) 0 10 rfl rfl (c_X10_reachedFrom l dC dI cI cC cZ cB cJ a_m nY sJ eG iY lY jR jW jZ jO oQ bR aY jQ gY iJ mQ lJ jA bG mK jB mW mJ eJ dG H.size x5 aGC 1 bT aG jC bL bY jD mLn oF rP dQ aJ aB bW bZ aR aE bI aW bU fJ dO bM bQ bO jY oX m_x gR nG oO pJ _ hp) q_824 q_827 q_825 q_826 aBL h_X10_reachedFrom rfl rfl ⟨lbz rfl, lbz rfl⟩ rfl rfl hl.1 rfl (lv_room (lbz rfl)) aQH.2.2.2.2.2.2.2.2.2.2.2.2.2.1 ⟨Nat.zero_le _, Nat.zero_le _⟩) (fun r_15 u H locs hp hP hD hS => ?_)
    have hPD := PDm (ws' := (aG8 cI cC cZ cB cJ a_m nY sJ eG iY lY jR jW jZ jO oQ bR aY jQ gY iJ mQ lJ jA bG mK jB mW mJ eJ dG bT aG jC bL bY jD mLn oF rP dQ aJ aB bW bZ aR aE bI aW bU fJ dO bM bQ bO jY oX qG m_x gR qR nG oO pJ sW sH)) hP hD 10 rfl rfl rfl
    have hP := hPD.1
    have hD := hPD.2
    refine lv_iand hx hb aQH.2.2.2.2.2.2.2.2.2.2.2.2.2.2.1 ?_
    refine lv_topi (fun aHb ev_16 => ?_)
    have hp := hp aHb ev_16
    refine lv_istore (lv' := [(6, .int aHb), (0, .ref a_m), (1, .int x1), (2, .int x2), (3, .int x3), (4, .int x4), (5, .int x5)]) hx hb aQH.2.2.2.2.2.2.2.2.2.2.2.2.2.2.2 hl (by decide) rfl (fun ls hl => ?_)
    refine lv_iload_n hx hb aQI.1 rfl (lv_at hl 3 rfl) ?_
    refine lv_iload hx hb aQI.2.1 (lv_at hl 0 rfl) ?_
    refine lv_ior hx hb aQI.2.2.1 ?_
    refine lv_topi (fun v_17 ev_17 => ?_)
    have hp := hp v_17 ev_17
    refine lv_istore_n (lv' := [(2, .int v_17), (6, .int aHb), (0, .ref a_m), (1, .int x1), (3, .int x3), (4, .int x4), (5, .int x5)]) hx hb aQI.2.2.2.1 rfl hl (by decide) rfl (fun ls hl => ?_)
    refine lv_iload hx hb aQI.2.2.2.2.1 (lv_at hl 1 rfl) ?_
    have hm := mgk (wc := (aBh cI cC cZ cB cJ)) hP aGk 10 rfl rfl rfl
    refine yW hP hD hS hA (yS aGk) (aAi aGk) hm.1 hm.2 (aAk _) (zW _) (aDn (As := [.int aHb]) (rest := []) C0 hP hD hS (yS aGk) hm.1 (aAl _) (aBv l dC dI cI cC cZ cB cJ H.size aHb _ hp) q_320 q_803 q_322 q_321 aBw rfl rfl ⟨lbz rfl, lbz rfl⟩ rfl rfl hl.1 rfl (lv_room (lbz rfl)) aQI.2.2.2.2.2.1 ⟨Nat.zero_le _, Nat.zero_le _⟩) (fun r_18 u H locs hp hP hD hS => ?_)
    have hPD := PDm (ws' := (aG8 cI cC cZ cB cJ a_m nY sJ eG iY lY jR jW jZ jO oQ bR aY jQ gY iJ mQ lJ jA bG mK jB mW mJ eJ dG bT aG jC bL bY jD mLn oF rP dQ aJ aB bW bZ aR aE bI aW bU fJ dO bM bQ bO jY oX qG m_x gR qR nG oO pJ sW sH)) hP hD 10 rfl rfl rfl
    have hP := hPD.1
    have hD := hPD.2
    refine lv_iload hx hb aQI.2.2.2.2.2.2.1 (lv_at hl 5 rfl) ?_
    refine lv_icmp_gt (tgt := 97) hx hb aQI.2.2.2.2.2.2.2.1 (by decide) (fun hc => ?_) (fun hc => ?_)
    · have hp := hp.1 hc
      refine lv_iload hx hb aQI.2.2.2.2.2.2.2.2.2.1 (lv_at hl 6 rfl) ?_
      refine lv_istore_n (lv' := [(3, .int x5), (2, .int v_17), (6, .int aHb), (0, .ref a_m), (1, .int x1), (4, .int x4), (5, .int x5)]) hx hb aQI.2.2.2.2.2.2.2.2.2.2.1 rfl hl (by decide) rfl (fun ls hl => ?_)
      refine lv_iload hx hb aQI.2.2.2.2.2.2.2.2.2.2.2.1 (lv_at hl 2 rfl) ?_
      have hm := mgk (wc := (aBh cI cC cZ cB cJ)) hP aGk 10 rfl rfl rfl
      refine yW hP hD hS hA (yS aGk) (aAi aGk) hm.1 hm.2 (aAk _) (zW _) (aDn (As := [.int aHb]) (rest := []) C0 hP hD hS (yS aGk) hm.1 (aAl _) (aBv l dC dI cI cC cZ cB cJ H.size aHb _ hp) q_320 q_803 q_322 q_321 aBw rfl rfl ⟨lbz rfl, lbz rfl⟩ rfl rfl hl.1 rfl (lv_room (lbz rfl)) aQI.2.2.2.2.2.2.2.2.2.2.2.2.1 ⟨Nat.zero_le _, Nat.zero_le _⟩) (fun r_19 u H locs hp hP hD hS => ?_)
      have hPD := PDm (ws' := (aG8 cI cC cZ cB cJ a_m nY sJ eG iY lY jR jW jZ jO oQ bR aY jQ gY iJ mQ lJ jA bG mK jB mW mJ eJ dG bT aG jC bL bY jD mLn oF rP dQ aJ aB bW bZ aR aE bI aW bU fJ dO bM bQ bO jY oX qG m_x gR qR nG oO pJ sW sH)) hP hD 10 rfl rfl rfl
      have hP := hPD.1
      have hD := hPD.2
      refine lv_istore (lv' := [(4, .int r_19), (3, .int x5), (2, .int v_17), (6, .int aHb), (0, .ref a_m), (1, .int x1), (5, .int x5)]) hx hb aQI.2.2.2.2.2.2.2.2.2.2.2.2.2.1 hl (by decide) rfl (fun ls hl => ?_)
      exact ks_X10_hooked_107 C0 hKn x1 v_17 x5 r_19 x5 bL bY dO sW sH H locs ls hp hP hD hS (lv_sub hl [4, 5, 2, 1, 0, 6] rfl)
    · have hp := hp.2 hc
      refine lv_goto (tgt := 107) hx hb aQI.2.2.2.2.2.2.2.2.1 (by decide) ?_
      exact ks_X10_hooked_107 C0 hKn x1 v_17 x3 x4 x5 bL bY dO sW sH H locs ls hp hP hD hS (lv_sub hl [2, 3, 0, 4, 5, 6] rfl)
set_option maxHeartbeats 4000000 in
set_option maxRecDepth 100000 in
theorem kb_X10_hooked_52 (C0 : gc aCg (some .int) 7 zX (dC, dI) (tyl cI cC cZ cB cJ) A p s m args meth c) : ∀ (n : Nat), ∀ (x1 x2 x3 x4 x5 bL bY dO : Int32) (sW sH : Nat -> Int32) (H : Heap) (locs : List Loc) (ls : Array Slot), (wb_X10_hooked_52 post bT aG qG m_x gR qR nG oO pJ n) x1 x2 x3 x4 x5 bL bY dO sW sH -> va_P (dC, dI) classes (aG8 cI cC cZ cB cJ a_m nY sJ eG iY lY jR jW jZ jO oQ bR aY jQ gY iJ mQ lJ jA bG mK jB mW mJ eJ dG bT aG jC bL bY jD mLn oF rP dQ aJ aB bW bZ aR aE bI aW bU fJ dO bM bQ bO jY oX qG m_x gR qR nG oO pJ sW sH) H -> va_D A (aG8 cI cC cZ cB cJ a_m nY sJ eG iY lY jR jW jZ jO oQ bR aY jQ gY iJ mQ lJ jA bG mK jB mW mJ eJ dG bT aG jC bL bY jD mLn oF rP dQ aJ aB bW bZ aR aE bI aW bU fJ dO bM bQ bO jY oX qG m_x gR qR nG oO pJ sW sH) -> va_S A s.heap H locs -> lv_has ls 7 [(0, .ref a_m), (1, .int x1), (2, .int x2), (3, .int x3), (4, .int x4), (5, .int x5)] -> W p l e rm_X10_hooked s m args below meth c H locs 0 0 (MQ below (q_X10_hooked dC dI cI cC cZ cB cJ A a_m nY sJ eG iY lY jR jW jZ jO oQ bR aY jQ gY iJ mQ lJ jA bG mK jB mW mJ eJ dG bT aG jC jD mLn oF rP dQ aJ aB bW bZ aR aE bI aW bU fJ bM bQ bO jY oX qG m_x gR qR nG oO pJ post) args s 0 0 A) (F0 m 52 ls []) := by
  intro n
  induction n with
  | zero =>
    intro x1 x2 x3 x4 x5 bL bY dO sW sH H locs ls hp
    exact False.elim hp
  | succ n ih =>
    intro x1 x2 x3 x4 x5 bL bY dO sW sH H locs ls hp
    exact ks_X10_hooked_52 C0 ih x1 x2 x3 x4 x5 bL bY dO sW sH H locs ls hp
end S_X10_hooked
def wp_X10_hooked (post : Int32 -> Int32 -> Int32 -> Int32 -> (Nat -> Int32) -> (Nat -> Int32) -> Prop) (bT aG bL bY dO : Int32) (qG m_x gR qR nG oO pJ sW sH : Nat -> Int32) : Prop := aJm (fun aDN aII => aIB (fun r_3 => ∀ v_4 : Int32, v_4 = qG (19 : Int32).toNatClampNeg -> aLg (fun r_5 => ∀ v_6 : Int32, v_6 = r_3 &&& r_5 -> aGu (fun r_7 => aRt (fun r_8 => ∀ v_9 : Int32, v_9 = v_6 &&& (r_8 ^^^ (-1)) -> ∃ n : Nat, wb_X10_hooked_52 post bT aG qG m_x gR qR nG oO pJ n v_9 0 (-1) 0 0 bL 0 aDN sW aII) r_7 aG aII) aG) v_4 bT qR) 0 bT qG) bT aG dO qG m_x gR qR nG oO pJ sH
set_option maxHeartbeats 4000000 in
set_option maxRecDepth 100000 in
theorem c_X10_hooked (l : Launch) (dC : Nat -> ClassId) (dI : Nat -> Nat -> Nat) (cI cC cZ cB cJ : ClassId) (a_m nY sJ eG iY lY jR jW jZ jO oQ bR aY jQ gY iJ mQ lJ jA bG mK jB mW mJ eJ dG sz : Nat) (bT aG jC bL bY : Int32) (jD : Nat) (mLn oF rP dQ aJ aB bW bZ aR aE bI aW bU fJ dO bM bQ bO jY oX : Int32) (qG m_x gR qR nG oO pJ sW sH : Nat -> Int32) (post : Int32 -> Int32 -> Int32 -> Int32 -> (Nat -> Int32) -> (Nat -> Int32) -> Prop) (hw : wp_X10_hooked post bT aG bL bY dO qG m_x gR qR nG oO pJ sW sH) : Met l yX10_hooked (gw yX10_hooked aCg 7 (some .int)) rm_X10_hooked (va_Pc [.ref a_m] (gPre (dC, dI) (tyl cI cC cZ cB cJ) (aG8 cI cC cZ cB cJ a_m nY sJ eG iY lY jR jW jZ jO oQ bR aY jQ gY iJ mQ lJ jA bG mK jB mW mJ eJ dG bT aG jC bL bY jD mLn oF rP dQ aJ aB bW bZ aR aE bI aW bU fJ dO bM bQ bO jY oX qG m_x gR qR nG oO pJ sW sH) sz)) (q_X10_hooked dC dI cI cC cZ cB cJ (va_A (aG8 cI cC cZ cB cJ a_m nY sJ eG iY lY jR jW jZ jO oQ bR aY jQ gY iJ mQ lJ jA bG mK jB mW mJ eJ dG bT aG jC bL bY jD mLn oF rP dQ aJ aB bW bZ aR aE bI aW bU fJ dO bM bQ bO jY oX qG m_x gR qR nG oO pJ sW sH) sz) a_m nY sJ eG iY lY jR jW jZ jO oQ bR aY jQ gY iJ mQ lJ jA bG mK jB mW mJ eJ dG bT aG jC jD mLn oF rP dQ aJ aB bW bZ aR aE bI aW bU fJ bM bQ bO jY oX qG m_x gR qR nG oO pJ post) 0 0 (va_A (aG8 cI cC cZ cB cJ a_m nY sJ eG iY lY jR jW jZ jO oQ bR aY jQ gY iJ mQ lJ jA bG mK jB mW mJ eJ dG bT aG jC bL bY jD mLn oF rP dQ aJ aB bW bZ aR aE bI aW bU fJ dO bM bQ bO jY oX qG m_x gR qR nG oO pJ sW sH) sz) := by
  refine aBJ (own := zX) (dC, dI) (tyl cI cC cZ cB cJ) (aG8 cI cC cZ cB cJ a_m nY sJ eG iY lY jR jW jZ jO oQ bR aY jQ gY iJ mQ lJ jA bG mK jB mW mJ eJ dG bT aG jC bL bY jD mLn oF rP dQ aJ aB bW bZ aR aE bI aW bU fJ dO bM bQ bO jY oX qG m_x gR qR nG oO pJ sW sH) sz [.ref a_m] (fun A => q_X10_hooked dC dI cI cC cZ cB cJ A a_m nY sJ eG iY lY jR jW jZ jO oQ bR aY jQ gY iJ mQ lJ jA bG mK jB mW mJ eJ dG bT aG jC jD mLn oF rP dQ aJ aB bW bZ aR aE bI aW bU fJ bM bQ bO jY oX qG m_x gR qR nG oO pJ post) aFY rfl (lbz rfl) ?_
  intro p e s m args below meth c A H locs ls C0 hP hD hS hl
  have hl : lv_has ls 7 [(0, .ref a_m)] := hl
  obtain ⟨hx, hb, hr, hml, hown, hts, hlocks, hA, hK, hN, tL, tM, hZL, hTL, hZM, hTM, hZX⟩ := id C0
  have hp := hw
  unfold wp_X10_hooked at hp
  refine lv_aload_n hx hb aSx.1 rfl (lv_at hl 0 rfl) ?_
  refine lv_iconst (v := 0) hx hb aSx.2.1 aCi ?_
  refine va_put (D := (dC, dI)) (ci := 10) (v := .int 0) (ty := .int) (C := zX) (T := aBe) (N := 51) hx hb hts aAt aD2 aAa aEC hown hK hP hD hS 0 rfl rfl 14 (lbz rfl) (hts _ q_638) (fun _ h9 => h9) rfl (aAa 14 (lbz rfl)) rfl rfl (lbz rfl) aSx.2.2.1 (fun H locs hP hD hS => ?_)
  have hPD := PDw (ws' := (aG8 cI cC cZ cB cJ a_m nY sJ eG iY lY jR jW jZ jO oQ bR aY jQ gY iJ mQ lJ jA bG mK jB mW mJ eJ dG bT aG jC bL 0 jD mLn oF rP dQ aJ aB bW bZ aR aE bI aW bU fJ dO bM bQ bO jY oX qG m_x gR qR nG oO pJ sW sH)) hP hD rfl
  have hP := hPD.1
  have hD := hPD.2
  refine lv_aload_n hx hb aSx.2.2.2.1 rfl (lv_at hl 0 rfl) ?_
  have hm := mgk (wc := (aIe cI cC cZ cB cJ a_m nY sJ eG iY lY jR jW jZ jO oQ bR aY jQ gY iJ mQ lJ jA bG mK jB mW mJ eJ dG bT aG jC bL 0 jD mLn oF rP dQ aJ aB bW bZ aR aE bI aW bU fJ dO bM bQ bO jY oX qG m_x gR qR nG oO pJ sH)) hP aUv 10 rfl rfl rfl
  refine aBn hP hD hS hA (yS aUv) (aAi aUv) hm.1 hm.2 (aAk _) (zW _) (zF (As := []) (rest := []) C0 hP hD hS (yS aUv) hm.1 (aAl _) 0 10 rfl rfl (aPr l dC dI cI cC cZ cB cJ a_m nY sJ eG iY lY jR jW jZ jO oQ bR aY jQ gY iJ mQ lJ jA bG mK jB mW mJ eJ dG H.size bT aG jC bL 0 jD mLn oF rP dQ aJ aB bW bZ aR aE bI aW bU fJ dO bM bQ bO jY oX qG m_x gR qR nG oO pJ sH _ hp) q_883 q_886 q_884 q_885 aBL aQ3 rfl rfl ⟨lbz rfl, lbz rfl⟩ rfl rfl hl.1 rfl (lv_room (lbz rfl)) aSx.2.2.2.2.1 ⟨Nat.zero_le _, Nat.zero_le _⟩) (fun u H locs hp hP hD hS => ?_)
  obtain ⟨aDN, aII⟩ := u
  have hPD := PDm (ws' := (aG8 cI cC cZ cB cJ a_m nY sJ eG iY lY jR jW jZ jO oQ bR aY jQ gY iJ mQ lJ jA bG mK jB mW mJ eJ dG bT aG jC bL 0 jD mLn oF rP dQ aJ aB bW bZ aR aE bI aW bU fJ aDN bM bQ bO jY oX qG m_x gR qR nG oO pJ sW aII)) hP hD 10 rfl rfl rfl
  have hP := hPD.1
  have hD := hPD.2
  refine lv_aload_n hx hb aSx.2.2.2.2.2.1 rfl (lv_at hl 0 rfl) ?_
  refine lv_aload_n hx hb aSx.2.2.2.2.2.2.1 rfl (lv_at hl 0 rfl) ?_
  refine va_get (D := (dC, dI)) (ci := 10) (v := .ref nY) (C := zX) (T := aBe) (N := 51) hx hb hts aAt hown hK hP 0 rfl rfl 0 (lbz rfl) (hts _ aHO) (fun _ h9 => h9) rfl aSx.2.2.2.2.2.2.2.1 ?_
  refine lv_iconst (v := 0) hx hb aSx.2.2.2.2.2.2.2.2.1 aCi ?_
  have hm := mgk (wc := (aGS cI cC cZ cB cJ a_m nY sJ eG iY lY jR jW jZ jO oQ bR aY jQ gY iJ mQ lJ jA bG mK jB mW mJ eJ dG bT aG jC bL 0 jD mLn oF rP dQ aJ aB bW bZ aR aE bI aW bU fJ aDN bM bQ bO jY oX qG)) hP mk_283 10 rfl rfl rfl
  refine yW hP hD hS hA (yS mk_283) (aAi mk_283) hm.1 hm.2 (aAk _) (zW _) (zF (As := [.ref nY, .int 0]) (rest := []) C0 hP hD hS (yS mk_283) hm.1 (aAl _) 0 10 rfl rfl (aRP l dC dI cI cC cZ cB cJ a_m nY sJ eG iY lY jR jW jZ jO oQ bR aY jQ gY iJ mQ lJ jA bG mK jB mW mJ eJ dG H.size 0 bT aG jC bL 0 jD mLn oF rP dQ aJ aB bW bZ aR aE bI aW bU fJ aDN bM bQ bO jY oX qG _ hp) q_749 q_752 q_750 q_751 aBL aRR rfl rfl ⟨lbz rfl, lbz rfl⟩ rfl rfl hl.1 rfl (lv_room (lbz rfl)) aSx.2.2.2.2.2.2.2.2.2.1 ⟨Nat.zero_le _, Nat.zero_le _⟩) (fun r_3 u H locs hp hP hD hS => ?_)
  have hPD := PDm (ws' := (aG8 cI cC cZ cB cJ a_m nY sJ eG iY lY jR jW jZ jO oQ bR aY jQ gY iJ mQ lJ jA bG mK jB mW mJ eJ dG bT aG jC bL 0 jD mLn oF rP dQ aJ aB bW bZ aR aE bI aW bU fJ aDN bM bQ bO jY oX qG m_x gR qR nG oO pJ sW aII)) hP hD 10 rfl rfl rfl
  have hP := hPD.1
  have hD := hPD.2
  refine lv_aload_n hx hb aSx.2.2.2.2.2.2.2.2.2.2.1 rfl (lv_at hl 0 rfl) ?_
  refine lv_aload_n hx hb aSx.2.2.2.2.2.2.2.2.2.2.2.1 rfl (lv_at hl 0 rfl) ?_
  refine va_get (D := (dC, dI)) (ci := 10) (v := .ref nY) (C := zX) (T := aBe) (N := 51) hx hb hts aAt hown hK hP 0 rfl rfl 0 (lbz rfl) (hts _ aHO) (fun _ h9 => h9) rfl aSx.2.2.2.2.2.2.2.2.2.2.2.2.1 ?_
  refine lv_bipush (v := 19) hx hb aSx.2.2.2.2.2.2.2.2.2.2.2.2.2.1 bp_19 ?_
  refine va_iald hx hb hK hP 1 0 rfl rfl (g_in rfl) aSx.2.2.2.2.2.2.2.2.2.2.2.2.2.2.1 ?_
  refine lv_topi (fun v_4 aHM => ?_)
  have hp := hp v_4 aHM
  have hm := mgk (wc := (aHf cI cC cZ cB cJ a_m nY sJ eG iY lY jR jW jZ jO oQ bR aY jQ gY iJ mQ lJ jA bG mK jB mW mJ eJ dG bT aG jC bL 0 jD mLn oF rP dQ aJ aB bW bZ aR aE bI aW bU fJ aDN bM bQ bO jY oX qR)) hP mk_286 10 rfl rfl rfl
  refine yW hP hD hS hA (yS mk_286) (aAi mk_286) hm.1 hm.2 (aAk _) (zW _) (zF (As := [.int v_4]) (rest := [.int r_3]) C0 hP hD hS (yS mk_286) hm.1 (aAl _) 0 10 rfl rfl (c_X10_ripeOnes l dC dI cI cC cZ cB cJ a_m nY sJ eG iY lY jR jW jZ jO oQ bR aY jQ gY iJ mQ lJ jA bG mK jB mW mJ eJ dG H.size v_4 bT aG jC bL 0 jD mLn oF rP dQ aJ aB bW bZ aR aE bI aW bU fJ aDN bM bQ bO jY oX qR _ hp) q_828 q_831 q_829 q_830 aBL h_X10_ripeOnes rfl rfl ⟨lbz rfl, lbz rfl⟩ rfl rfl hl.1 rfl (lv_room (lbz rfl)) aSx.2.2.2.2.2.2.2.2.2.2.2.2.2.2.2 ⟨Nat.zero_le _, Nat.zero_le _⟩) (fun r_5 u H locs hp hP hD hS => ?_)
  have hPD := PDm (ws' := (aG8 cI cC cZ cB cJ a_m nY sJ eG iY lY jR jW jZ jO oQ bR aY jQ gY iJ mQ lJ jA bG mK jB mW mJ eJ dG bT aG jC bL 0 jD mLn oF rP dQ aJ aB bW bZ aR aE bI aW bU fJ aDN bM bQ bO jY oX qG m_x gR qR nG oO pJ sW aII)) hP hD 10 rfl rfl rfl
  have hP := hPD.1
  have hD := hPD.2
  refine lv_iand hx hb aQG.1 ?_
  refine lv_topi (fun v_6 ev_6 => ?_)
  have hp := hp v_6 ev_6
  refine lv_aload_n hx hb aQG.2.1 rfl (lv_at hl 0 rfl) ?_
  refine lv_aload_n hx hb aQG.2.2.1 rfl (lv_at hl 0 rfl) ?_
  have hm := mgk (wc := (aGj cI cC cZ cB cJ a_m nY sJ eG iY lY jR jW jZ jO oQ bR aY jQ gY iJ mQ lJ jA bG mK jB mW mJ eJ dG bT aG jC bL 0 jD mLn oF rP dQ aJ aB bW bZ aR aE bI aW bU fJ aDN bM bQ bO jY oX)) hP aRf 10 rfl rfl rfl
  refine yW hP hD hS hA (yS aRf) (aAi aRf) hm.1 hm.2 (aAk _) (zW _) (zF (As := []) (rest := [.ref a_m, .int v_6]) C0 hP hD hS (yS aRf) hm.1 (aAl _) 0 10 rfl rfl (aKY l dC dI cI cC cZ cB cJ a_m nY sJ eG iY lY jR jW jZ jO oQ bR aY jQ gY iJ mQ lJ jA bG mK jB mW mJ eJ dG H.size bT aG jC bL 0 jD mLn oF rP dQ aJ aB bW bZ aR aE bI aW bU fJ aDN bM bQ bO jY oX _ hp) q_870 q_873 q_871 q_872 aBL aKa rfl rfl ⟨lbz rfl, lbz rfl⟩ rfl rfl hl.1 rfl (lv_room (lbz rfl)) aQG.2.2.2.1 ⟨Nat.zero_le _, Nat.zero_le _⟩) (fun r_7 u H locs hp hP hD hS => ?_)
  have hPD := PDm (ws' := (aG8 cI cC cZ cB cJ a_m nY sJ eG iY lY jR jW jZ jO oQ bR aY jQ gY iJ mQ lJ jA bG mK jB mW mJ eJ dG bT aG jC bL 0 jD mLn oF rP dQ aJ aB bW bZ aR aE bI aW bU fJ aDN bM bQ bO jY oX qG m_x gR qR nG oO pJ sW aII)) hP hD 10 rfl rfl rfl
  have hP := hPD.1
  have hD := hPD.2
  have hm := mgk (wc := (aH9 cI cC cZ cB cJ a_m nY sJ eG iY lY jR jW jZ jO oQ bR aY jQ gY iJ mQ lJ jA bG mK jB mW mJ eJ dG bT aG jC bL 0 jD mLn oF rP dQ aJ aB bW bZ aR aE bI aW bU fJ aDN bM bQ bO jY oX aII)) hP mk_284 10 rfl rfl rfl
  refine yW hP hD hS hA (yS mk_284) (aAi mk_284) hm.1 hm.2 (aAk _) (zW _) (zF (As := [.int r_7]) (rest := [.int v_6]) C0 hP hD hS (yS mk_284) hm.1 (aAl _) 0 10 rfl rfl (c_X10_handOf l dC dI cI cC cZ cB cJ a_m nY sJ eG iY lY jR jW jZ jO oQ bR aY jQ gY iJ mQ lJ jA bG mK jB mW mJ eJ dG H.size r_7 bT aG jC bL 0 jD mLn oF rP dQ aJ aB bW bZ aR aE bI aW bU fJ aDN bM bQ bO jY oX aII _ hp) q_874 q_877 q_875 q_876 aBL h_X10_handOf rfl rfl ⟨lbz rfl, lbz rfl⟩ rfl rfl hl.1 rfl (lv_room (lbz rfl)) aQG.2.2.2.2.1 ⟨Nat.zero_le _, Nat.zero_le _⟩) (fun r_8 u H locs hp hP hD hS => ?_)
  have hPD := PDm (ws' := (aG8 cI cC cZ cB cJ a_m nY sJ eG iY lY jR jW jZ jO oQ bR aY jQ gY iJ mQ lJ jA bG mK jB mW mJ eJ dG bT aG jC bL 0 jD mLn oF rP dQ aJ aB bW bZ aR aE bI aW bU fJ aDN bM bQ bO jY oX qG m_x gR qR nG oO pJ sW aII)) hP hD 10 rfl rfl rfl
  have hP := hPD.1
  have hD := hPD.2
  refine lv_iconst (v := (-1)) hx hb aQG.2.2.2.2.2.1 aEJ ?_
  refine lv_ixor hx hb aQG.2.2.2.2.2.2.1 ?_
  refine lv_iand hx hb aQG.2.2.2.2.2.2.2.1 ?_
  refine lv_topi (fun v_9 ev_9 => ?_)
  have hp := hp v_9 ev_9
  refine lv_istore_n (lv' := [(1, .int v_9), (0, .ref a_m)]) hx hb aQG.2.2.2.2.2.2.2.2.1 rfl hl (by decide) rfl (fun ls hl => ?_)
  refine lv_iconst (v := 0) hx hb aQG.2.2.2.2.2.2.2.2.2.1 aCi ?_
  refine lv_istore_n (lv' := [(2, .int 0), (1, .int v_9), (0, .ref a_m)]) hx hb aQG.2.2.2.2.2.2.2.2.2.2.1 rfl hl (by decide) rfl (fun ls hl => ?_)
  refine lv_iconst (v := (-1)) hx hb aQG.2.2.2.2.2.2.2.2.2.2.2.1 aEJ ?_
  refine lv_istore_n (lv' := [(3, .int (-1)), (2, .int 0), (1, .int v_9), (0, .ref a_m)]) hx hb aQG.2.2.2.2.2.2.2.2.2.2.2.2.1 rfl hl (by decide) rfl (fun ls hl => ?_)
  refine lv_iconst (v := 0) hx hb aQG.2.2.2.2.2.2.2.2.2.2.2.2.2.1 aCi ?_
  refine lv_istore (lv' := [(4, .int 0), (3, .int (-1)), (2, .int 0), (1, .int v_9), (0, .ref a_m)]) hx hb aQG.2.2.2.2.2.2.2.2.2.2.2.2.2.2.1 hl (by decide) rfl (fun ls hl => ?_)
  refine lv_iconst (v := 0) hx hb aQG.2.2.2.2.2.2.2.2.2.2.2.2.2.2.2 aCi ?_
  refine lv_istore (lv' := [(5, .int 0), (4, .int 0), (3, .int (-1)), (2, .int 0), (1, .int v_9), (0, .ref a_m)]) hx hb aQH.1 hl (by decide) rfl (fun ls hl => ?_)
  obtain ⟨n9, hp⟩ := hp
  exact kb_X10_hooked_52 C0 n9 v_9 0 (-1) 0 0 bL 0 aDN sW aII H locs ls hp hP hD hS (lv_sub hl [5, 4, 3, 2, 1, 0] rfl)
abbrev aOg (cI cC cZ cB cJ : ClassId) (a_m nY sJ eG iY lY jR jW jZ jO oQ bR aY jQ gY iJ mQ lJ jA bG mK jB mW mJ eJ dG : Nat) (bT aG jC bL bY : Int32) (jD : Nat) (mLn oF rP dQ aJ aB bW bZ aR aE bI aW bU fJ dO bM bQ bO jY oX : Int32) (qG m_x gR qR nG oO pJ sW sH : Nat -> Int32) : va_W := [(a_m, .inr (10, [.ref nY, .int bT, .ref sJ, .ref eG, .ref iY, .ref lY, .int aG, .ref jR, .ref jW, .ref jZ, .ref jO, .int jC, .ref oQ, .int bL, .int bY, rdv jO jQ jD, .int mLn, .int oF, .int rP, .int dQ, .ref bR, .ref aY, .int aJ, .int aB, .ref jQ, .int bW, .int bZ, .int aR, .int aE, .int bI, .int aW, .ref gY, .int bU, .ref iJ, .ref mQ, .int fJ, .ref lJ, .int dO, .ref jA, .ref bG, .int bM, .int bQ, .int bO, .ref mK, .ref jB, .ref mW, .int jY, .int oX, .ref mJ, .ref eJ, .ref dG])), (nY, .inl (cI, 21, .inl qG)), (sJ, .inl (cI, 16, .inl m_x)), (eG, .inl (cI, 16, .inl gR)), (lY, .inl (cI, 16, .inl qR)), (jR, .inl (cI, 8, .inl nG)), (jW, .inl (cI, 8, .inl oO)), (jZ, .inl (cI, 5, .inl pJ)), (oQ, .inl (cI, 32, .inl sW)), (lJ, .inl (cI, 8, .inl sH))]
abbrev q_X10_broken (dC : Nat -> ClassId) (dI : Nat -> Nat -> Nat) (cI cC cZ cB cJ : ClassId) (A : Nat -> Prop) (a_m nY sJ eG iY lY jR jW jZ jO oQ bR aY jQ gY iJ mQ lJ jA bG mK jB mW mJ eJ dG : Nat) (bT aG jC : Int32) (jD : Nat) (mLn oF rP dQ aJ aB bW bZ aR aE bI aW bU fJ bM bQ bO jY oX : Int32) (qG m_x gR qR nG oO pJ : Nat -> Int32) (post : Int32 -> Int32 -> Int32 -> Int32 -> (Nat -> Int32) -> (Nat -> Int32) -> Prop) : Array Value -> State -> Outcome -> State -> Prop := va_Qi (fun (r : Int32) (u : Int32 × Int32 × Int32 × (Nat -> Int32) × (Nat -> Int32)) => post r u.1 u.2.1 u.2.2.1 u.2.2.2.1 u.2.2.2.2) (fun u t => gB (dC, dI) (tyl cI cC cZ cB cJ) A (aOg cI cC cZ cB cJ a_m nY sJ eG iY lY jR jW jZ jO oQ bR aY jQ gY iJ mQ lJ jA bG mK jB mW mJ eJ dG bT aG jC u.1 u.2.1 jD mLn oF rP dQ aJ aB bW bZ aR aE bI aW bU fJ u.2.2.1 bM bQ bO jY oX qG m_x gR qR nG oO pJ u.2.2.2.1 u.2.2.2.2) t) A
abbrev rm_X10_broken : Room := { frames := 6, cells := 0, slots := 0, locals := 133 }
def wp_X10_broken (post : Int32 -> Int32 -> Int32 -> Int32 -> (Nat -> Int32) -> (Nat -> Int32) -> Prop) (p0 bT aG bL bY dO : Int32) (qG m_x gR qR nG oO pJ sW sH : Nat -> Int32) : Prop := aJI (fun r_1 => (¬ r_1 = 0 -> aJm (fun aDd aH4 => vp_in p0 8 /\ (aGu (fun r_4 => aRt (fun r_5 => ∀ v_6 : Int32, v_6 = aDd &&& r_5 -> wp_X10_cover (fun r_7 => aBb (fun r_8 => ∀ v_9 : Int32, v_9 = aDd &&& (v_6 ^^^ (-1)) -> aDs (fun aDZ aHj => post r_8 aDZ 0 aDd aHj (upd aH4 p0.toNatClampNeg 0)) v_9 0 sW) r_7) v_6 aG (upd aH4 p0.toNatClampNeg 0)) r_4 aG (upd aH4 p0.toNatClampNeg 0)) aG)) bT aG dO qG m_x gR qR nG oO pJ sH) /\ (r_1 = 0 -> post (-1) bL 0 dO sW sH)) p0 aG
set_option maxHeartbeats 4000000 in
set_option maxRecDepth 100000 in
theorem c_X10_broken (l : Launch) (dC : Nat -> ClassId) (dI : Nat -> Nat -> Nat) (cI cC cZ cB cJ : ClassId) (a_m nY sJ eG iY lY jR jW jZ jO oQ bR aY jQ gY iJ mQ lJ jA bG mK jB mW mJ eJ dG sz : Nat) (p0 bT aG jC bL bY : Int32) (jD : Nat) (mLn oF rP dQ aJ aB bW bZ aR aE bI aW bU fJ dO bM bQ bO jY oX : Int32) (qG m_x gR qR nG oO pJ sW sH : Nat -> Int32) (post : Int32 -> Int32 -> Int32 -> Int32 -> (Nat -> Int32) -> (Nat -> Int32) -> Prop) (hw : wp_X10_broken post p0 bT aG bL bY dO qG m_x gR qR nG oO pJ sW sH) : Met l yX10_broken (gw yX10_broken aFk 4 (some .int)) rm_X10_broken (va_Pc [.ref a_m, .int p0] (gPre (dC, dI) (tyl cI cC cZ cB cJ) (aOg cI cC cZ cB cJ a_m nY sJ eG iY lY jR jW jZ jO oQ bR aY jQ gY iJ mQ lJ jA bG mK jB mW mJ eJ dG bT aG jC bL bY jD mLn oF rP dQ aJ aB bW bZ aR aE bI aW bU fJ dO bM bQ bO jY oX qG m_x gR qR nG oO pJ sW sH) sz)) (q_X10_broken dC dI cI cC cZ cB cJ (va_A (aOg cI cC cZ cB cJ a_m nY sJ eG iY lY jR jW jZ jO oQ bR aY jQ gY iJ mQ lJ jA bG mK jB mW mJ eJ dG bT aG jC bL bY jD mLn oF rP dQ aJ aB bW bZ aR aE bI aW bU fJ dO bM bQ bO jY oX qG m_x gR qR nG oO pJ sW sH) sz) a_m nY sJ eG iY lY jR jW jZ jO oQ bR aY jQ gY iJ mQ lJ jA bG mK jB mW mJ eJ dG bT aG jC jD mLn oF rP dQ aJ aB bW bZ aR aE bI aW bU fJ bM bQ bO jY oX qG m_x gR qR nG oO pJ post) 0 0 (va_A (aOg cI cC cZ cB cJ a_m nY sJ eG iY lY jR jW jZ jO oQ bR aY jQ gY iJ mQ lJ jA bG mK jB mW mJ eJ dG bT aG jC bL bY jD mLn oF rP dQ aJ aB bW bZ aR aE bI aW bU fJ dO bM bQ bO jY oX qG m_x gR qR nG oO pJ sW sH) sz) := by
  refine aBJ (own := zX) (dC, dI) (tyl cI cC cZ cB cJ) (aOg cI cC cZ cB cJ a_m nY sJ eG iY lY jR jW jZ jO oQ bR aY jQ gY iJ mQ lJ jA bG mK jB mW mJ eJ dG bT aG jC bL bY jD mLn oF rP dQ aJ aB bW bZ aR aE bI aW bU fJ dO bM bQ bO jY oX qG m_x gR qR nG oO pJ sW sH) sz [.ref a_m, .int p0] (fun A => q_X10_broken dC dI cI cC cZ cB cJ A a_m nY sJ eG iY lY jR jW jZ jO oQ bR aY jQ gY iJ mQ lJ jA bG mK jB mW mJ eJ dG bT aG jC jD mLn oF rP dQ aJ aB bW bZ aR aE bI aW bU fJ bM bQ bO jY oX qG m_x gR qR nG oO pJ post) aFY rfl (lbz rfl) ?_
  intro p e s m args below meth c A H locs ls C0 hP hD hS hl
  have hl : lv_has ls 4 [(0, .ref a_m), (1, .int p0)] := hl
  obtain ⟨hx, hb, hr, hml, hown, hts, hlocks, hA, hK, hN, tL, tM, hZL, hTL, hZM, hTM, hZX⟩ := id C0
  have hp := hw
  unfold wp_X10_broken at hp
  refine lv_aload_n hx hb aSf.1 rfl (lv_at hl 0 rfl) ?_
  refine lv_iconst (v := 0) hx hb aSf.2.1 aCi ?_
  refine va_put (D := (dC, dI)) (ci := 10) (v := .int 0) (ty := .int) (C := zX) (T := aBe) (N := 51) hx hb hts aAt aD2 aAa aEC hown hK hP hD hS 0 rfl rfl 14 (lbz rfl) (hts _ q_638) (fun _ h9 => h9) rfl (aAa 14 (lbz rfl)) rfl rfl (lbz rfl) aSf.2.2.1 (fun H locs hP hD hS => ?_)
  have hPD := PDw (ws' := (aOg cI cC cZ cB cJ a_m nY sJ eG iY lY jR jW jZ jO oQ bR aY jQ gY iJ mQ lJ jA bG mK jB mW mJ eJ dG bT aG jC bL 0 jD mLn oF rP dQ aJ aB bW bZ aR aE bI aW bU fJ dO bM bQ bO jY oX qG m_x gR qR nG oO pJ sW sH)) hP hD rfl
  have hP := hPD.1
  have hD := hPD.2
  refine lv_aload_n hx hb aSf.2.2.2.1 rfl (lv_at hl 0 rfl) ?_
  refine lv_iload_n hx hb aSf.2.2.2.2.1 rfl (lv_at hl 1 rfl) ?_
  have hm := mgk (wc := (aK5 cI cC cZ cB cJ a_m nY sJ eG iY lY jR jW jZ jO oQ bR aY jQ gY iJ mQ lJ jA bG mK jB mW mJ eJ dG bT aG jC bL 0 jD mLn oF rP dQ aJ aB bW bZ aR aE bI aW bU fJ dO bM bQ bO jY oX)) hP aRf 10 rfl rfl rfl
  refine yW hP hD hS hA (yS aRf) (aAi aRf) hm.1 hm.2 (aAk _) (zW _) (zF (As := [.int p0]) (rest := []) C0 hP hD hS (yS aRf) hm.1 (aAl _) 0 10 rfl rfl (aZR l dC dI cI cC cZ cB cJ a_m nY sJ eG iY lY jR jW jZ jO oQ bR aY jQ gY iJ mQ lJ jA bG mK jB mW mJ eJ dG H.size p0 bT aG jC bL 0 jD mLn oF rP dQ aJ aB bW bZ aR aE bI aW bU fJ dO bM bQ bO jY oX _ hp) q_757 q_760 q_758 q_759 aBL aZY rfl rfl ⟨lbz rfl, lbz rfl⟩ rfl rfl hl.1 rfl (lv_room (lbz rfl)) aSf.2.2.2.2.2.1 ⟨Nat.zero_le _, Nat.zero_le _⟩) (fun r_1 u H locs hp hP hD hS => ?_)
  have hPD := PDm (ws' := (aOg cI cC cZ cB cJ a_m nY sJ eG iY lY jR jW jZ jO oQ bR aY jQ gY iJ mQ lJ jA bG mK jB mW mJ eJ dG bT aG jC bL 0 jD mLn oF rP dQ aJ aB bW bZ aR aE bI aW bU fJ dO bM bQ bO jY oX qG m_x gR qR nG oO pJ sW sH)) hP hD 10 rfl rfl rfl
  have hP := hPD.1
  have hD := hPD.2
  refine lv_if_ne (tgt := 15) hx hb aSf.2.2.2.2.2.2.1 (by decide) (fun hc => ?_) (fun hc => ?_)
  · have hp := hp.1 hc
    refine lv_aload_n hx hb aSf.2.2.2.2.2.2.2.2.2.1 rfl (lv_at hl 0 rfl) ?_
    have hm := mgk (wc := (aIe cI cC cZ cB cJ a_m nY sJ eG iY lY jR jW jZ jO oQ bR aY jQ gY iJ mQ lJ jA bG mK jB mW mJ eJ dG bT aG jC bL 0 jD mLn oF rP dQ aJ aB bW bZ aR aE bI aW bU fJ dO bM bQ bO jY oX qG m_x gR qR nG oO pJ sH)) hP aUv 10 rfl rfl rfl
    refine aBn hP hD hS hA (yS aUv) (aAi aUv) hm.1 hm.2 (aAk _) (zW _) (zF (As := []) (rest := []) C0 hP hD hS (yS aUv) hm.1 (aAl _) 0 10 rfl rfl (aPr l dC dI cI cC cZ cB cJ a_m nY sJ eG iY lY jR jW jZ jO oQ bR aY jQ gY iJ mQ lJ jA bG mK jB mW mJ eJ dG H.size bT aG jC bL 0 jD mLn oF rP dQ aJ aB bW bZ aR aE bI aW bU fJ dO bM bQ bO jY oX qG m_x gR qR nG oO pJ sH _ hp) q_883 q_886 q_884 q_885 aBL aQ3 rfl rfl ⟨lbz rfl, lbz rfl⟩ rfl rfl hl.1 rfl (lv_room (lbz rfl)) aSf.2.2.2.2.2.2.2.2.2.2.1 ⟨Nat.zero_le _, Nat.zero_le _⟩) (fun u H locs hp hP hD hS => ?_)
    obtain ⟨aDd, aH4⟩ := u
    have hPD := PDm (ws' := (aOg cI cC cZ cB cJ a_m nY sJ eG iY lY jR jW jZ jO oQ bR aY jQ gY iJ mQ lJ jA bG mK jB mW mJ eJ dG bT aG jC bL 0 jD mLn oF rP dQ aJ aB bW bZ aR aE bI aW bU fJ aDd bM bQ bO jY oX qG m_x gR qR nG oO pJ sW aH4)) hP hD 10 rfl rfl rfl
    have hP := hPD.1
    have hD := hPD.2
    refine lv_aload_n hx hb aSf.2.2.2.2.2.2.2.2.2.2.2.1 rfl (lv_at hl 0 rfl) ?_
    refine va_get (D := (dC, dI)) (ci := 10) (v := .ref lJ) (C := zX) (T := aBe) (N := 51) hx hb hts aAt hown hK hP 0 rfl rfl 36 (lbz rfl) (hts _ q_869) (fun _ h9 => h9) rfl aSf.2.2.2.2.2.2.2.2.2.2.2.2.1 ?_
    refine lv_iload_n hx hb aSf.2.2.2.2.2.2.2.2.2.2.2.2.2.1 rfl (lv_at hl 1 rfl) ?_
    refine lv_iconst (v := 0) hx hb aSf.2.2.2.2.2.2.2.2.2.2.2.2.2.2.1 aCi ?_
    have hin := hp.1
    have hp := hp.2
    refine va_iast hx hb hK hP hD hS 9 0 rfl rfl hin aSf.2.2.2.2.2.2.2.2.2.2.2.2.2.2.2 (fun H locs hP hD hS => ?_)
    have hPD := PDw (ws' := (aOg cI cC cZ cB cJ a_m nY sJ eG iY lY jR jW jZ jO oQ bR aY jQ gY iJ mQ lJ jA bG mK jB mW mJ eJ dG bT aG jC bL 0 jD mLn oF rP dQ aJ aB bW bZ aR aE bI aW bU fJ aDd bM bQ bO jY oX qG m_x gR qR nG oO pJ sW (upd aH4 p0.toNatClampNeg 0))) hP hD rfl
    have hP := hPD.1
    have hD := hPD.2
    refine lv_aload_n hx hb aPy.1 rfl (lv_at hl 0 rfl) ?_
    refine va_get (D := (dC, dI)) (ci := 10) (v := .int aDd) (C := zX) (T := aBe) (N := 51) hx hb hts aAt hown hK hP 0 rfl rfl 37 (lbz rfl) (hts _ q_878) (fun _ h9 => h9) rfl aPy.2.1 ?_
    refine lv_aload_n hx hb aPy.2.2.1 rfl (lv_at hl 0 rfl) ?_
    refine lv_aload_n hx hb aPy.2.2.2.1 rfl (lv_at hl 0 rfl) ?_
    have hm := mgk (wc := (aGj cI cC cZ cB cJ a_m nY sJ eG iY lY jR jW jZ jO oQ bR aY jQ gY iJ mQ lJ jA bG mK jB mW mJ eJ dG bT aG jC bL 0 jD mLn oF rP dQ aJ aB bW bZ aR aE bI aW bU fJ aDd bM bQ bO jY oX)) hP aRf 10 rfl rfl rfl
    refine yW hP hD hS hA (yS aRf) (aAi aRf) hm.1 hm.2 (aAk _) (zW _) (zF (As := []) (rest := [.ref a_m, .int aDd]) C0 hP hD hS (yS aRf) hm.1 (aAl _) 0 10 rfl rfl (aKY l dC dI cI cC cZ cB cJ a_m nY sJ eG iY lY jR jW jZ jO oQ bR aY jQ gY iJ mQ lJ jA bG mK jB mW mJ eJ dG H.size bT aG jC bL 0 jD mLn oF rP dQ aJ aB bW bZ aR aE bI aW bU fJ aDd bM bQ bO jY oX _ hp) q_870 q_873 q_871 q_872 aBL aKa rfl rfl ⟨lbz rfl, lbz rfl⟩ rfl rfl hl.1 rfl (lv_room (lbz rfl)) aPy.2.2.2.2.1 ⟨Nat.zero_le _, Nat.zero_le _⟩) (fun r_4 u H locs hp hP hD hS => ?_)
    have hPD := PDm (ws' := (aOg cI cC cZ cB cJ a_m nY sJ eG iY lY jR jW jZ jO oQ bR aY jQ gY iJ mQ lJ jA bG mK jB mW mJ eJ dG bT aG jC bL 0 jD mLn oF rP dQ aJ aB bW bZ aR aE bI aW bU fJ aDd bM bQ bO jY oX qG m_x gR qR nG oO pJ sW (upd aH4 p0.toNatClampNeg 0))) hP hD 10 rfl rfl rfl
    have hP := hPD.1
    have hD := hPD.2
    have hm := mgk (wc := (aH9 cI cC cZ cB cJ a_m nY sJ eG iY lY jR jW jZ jO oQ bR aY jQ gY iJ mQ lJ jA bG mK jB mW mJ eJ dG bT aG jC bL 0 jD mLn oF rP dQ aJ aB bW bZ aR aE bI aW bU fJ aDd bM bQ bO jY oX (upd aH4 p0.toNatClampNeg 0))) hP mk_284 10 rfl rfl rfl
    refine yW hP hD hS hA (yS mk_284) (aAi mk_284) hm.1 hm.2 (aAk _) (zW _) (zF (As := [.int r_4]) (rest := [.int aDd]) C0 hP hD hS (yS mk_284) hm.1 (aAl _) 0 10 rfl rfl (c_X10_handOf l dC dI cI cC cZ cB cJ a_m nY sJ eG iY lY jR jW jZ jO oQ bR aY jQ gY iJ mQ lJ jA bG mK jB mW mJ eJ dG H.size r_4 bT aG jC bL 0 jD mLn oF rP dQ aJ aB bW bZ aR aE bI aW bU fJ aDd bM bQ bO jY oX (upd aH4 p0.toNatClampNeg 0) _ hp) q_874 q_877 q_875 q_876 aBL h_X10_handOf rfl rfl ⟨lbz rfl, lbz rfl⟩ rfl rfl hl.1 rfl (lv_room (lbz rfl)) aPy.2.2.2.2.2.1 ⟨Nat.zero_le _, Nat.zero_le _⟩) (fun r_5 u H locs hp hP hD hS => ?_)
    have hPD := PDm (ws' := (aOg cI cC cZ cB cJ a_m nY sJ eG iY lY jR jW jZ jO oQ bR aY jQ gY iJ mQ lJ jA bG mK jB mW mJ eJ dG bT aG jC bL 0 jD mLn oF rP dQ aJ aB bW bZ aR aE bI aW bU fJ aDd bM bQ bO jY oX qG m_x gR qR nG oO pJ sW (upd aH4 p0.toNatClampNeg 0))) hP hD 10 rfl rfl rfl
    have hP := hPD.1
    have hD := hPD.2
    refine lv_iand hx hb aPy.2.2.2.2.2.2.1 ?_
    refine lv_topi (fun v_6 ev_6 => ?_)
    have hp := hp v_6 ev_6
    refine lv_istore_n (lv' := [(2, .int v_6), (0, .ref a_m), (1, .int p0)]) hx hb aPy.2.2.2.2.2.2.2.1 rfl hl (by decide) rfl (fun ls hl => ?_)
    refine lv_aload_n hx hb aPy.2.2.2.2.2.2.2.2.1 rfl (lv_at hl 1 rfl) ?_
    refine lv_iload_n hx hb aPy.2.2.2.2.2.2.2.2.2.1 rfl (lv_at hl 0 rfl) ?_
    have hm := mgk (wc := (aHF cI cC cZ cB cJ a_m nY sJ eG iY lY jR jW jZ jO oQ bR aY jQ gY iJ mQ lJ jA bG mK jB mW mJ eJ dG bT aG jC bL 0 jD mLn oF rP dQ aJ aB bW bZ aR aE bI aW bU fJ aDd bM bQ bO jY oX (upd aH4 p0.toNatClampNeg 0))) hP mk_284 10 rfl rfl rfl
    refine yW hP hD hS hA (yS mk_284) (aAi mk_284) hm.1 hm.2 (aAk _) (zW _) (zF (As := [.int v_6]) (rest := []) C0 hP hD hS (yS mk_284) hm.1 (aAl _) 0 10 rfl rfl (c_X10_cover l dC dI cI cC cZ cB cJ a_m nY sJ eG iY lY jR jW jZ jO oQ bR aY jQ gY iJ mQ lJ jA bG mK jB mW mJ eJ dG H.size v_6 bT aG jC bL 0 jD mLn oF rP dQ aJ aB bW bZ aR aE bI aW bU fJ aDd bM bQ bO jY oX (upd aH4 p0.toNatClampNeg 0) _ hp) q_898 q_901 q_899 q_900 aBL h_X10_cover rfl rfl ⟨lbz rfl, lbz rfl⟩ rfl rfl hl.1 rfl (lv_room (lbz rfl)) aPy.2.2.2.2.2.2.2.2.2.2.1 ⟨Nat.zero_le _, Nat.zero_le _⟩) (fun r_7 u H locs hp hP hD hS => ?_)
    have hPD := PDm (ws' := (aOg cI cC cZ cB cJ a_m nY sJ eG iY lY jR jW jZ jO oQ bR aY jQ gY iJ mQ lJ jA bG mK jB mW mJ eJ dG bT aG jC bL 0 jD mLn oF rP dQ aJ aB bW bZ aR aE bI aW bU fJ aDd bM bQ bO jY oX qG m_x gR qR nG oO pJ sW (upd aH4 p0.toNatClampNeg 0))) hP hD 10 rfl rfl rfl
    have hP := hPD.1
    have hD := hPD.2
    have hm := mgk (wc := (aBh cI cC cZ cB cJ)) hP aGk 10 rfl rfl rfl
    refine yW hP hD hS hA (yS aGk) (aAi aGk) hm.1 hm.2 (aAk _) (zW _) (aDn (As := [.int r_7]) (rest := []) C0 hP hD hS (yS aGk) hm.1 (aAl _) (aBv l dC dI cI cC cZ cB cJ H.size r_7 _ hp) q_320 q_803 q_322 q_321 aBw rfl rfl ⟨lbz rfl, lbz rfl⟩ rfl rfl hl.1 rfl (lv_room (lbz rfl)) aPy.2.2.2.2.2.2.2.2.2.2.2.1 ⟨Nat.zero_le _, Nat.zero_le _⟩) (fun r_8 u H locs hp hP hD hS => ?_)
    have hPD := PDm (ws' := (aOg cI cC cZ cB cJ a_m nY sJ eG iY lY jR jW jZ jO oQ bR aY jQ gY iJ mQ lJ jA bG mK jB mW mJ eJ dG bT aG jC bL 0 jD mLn oF rP dQ aJ aB bW bZ aR aE bI aW bU fJ aDd bM bQ bO jY oX qG m_x gR qR nG oO pJ sW (upd aH4 p0.toNatClampNeg 0))) hP hD 10 rfl rfl rfl
    have hP := hPD.1
    have hD := hPD.2
    refine lv_istore_n (lv' := [(3, .int r_8), (2, .int v_6), (0, .ref a_m), (1, .int p0)]) hx hb aPy.2.2.2.2.2.2.2.2.2.2.2.2.1 rfl hl (by decide) rfl (fun ls hl => ?_)
    refine lv_aload_n hx hb aPy.2.2.2.2.2.2.2.2.2.2.2.2.2.1 rfl (lv_at hl 2 rfl) ?_
    refine lv_iconst (v := 0) hx hb aPy.2.2.2.2.2.2.2.2.2.2.2.2.2.2.1 aCi ?_
    refine va_put (D := (dC, dI)) (ci := 10) (v := .int 0) (ty := .int) (C := zX) (T := aBe) (N := 51) hx hb hts aAt aD2 aAa aEC hown hK hP hD hS 0 rfl rfl 13 (lbz rfl) (hts _ q_847) (fun _ h9 => h9) rfl (aAa 13 (lbz rfl)) rfl rfl (lbz rfl) aPy.2.2.2.2.2.2.2.2.2.2.2.2.2.2.2 (fun H locs hP hD hS => ?_)
    have hPD := PDw (ws' := (aOg cI cC cZ cB cJ a_m nY sJ eG iY lY jR jW jZ jO oQ bR aY jQ gY iJ mQ lJ jA bG mK jB mW mJ eJ dG bT aG jC 0 0 jD mLn oF rP dQ aJ aB bW bZ aR aE bI aW bU fJ aDd bM bQ bO jY oX qG m_x gR qR nG oO pJ sW (upd aH4 p0.toNatClampNeg 0))) hP hD rfl
    have hP := hPD.1
    have hD := hPD.2
    refine lv_aload_n hx hb eX10_broken_54.1 rfl (lv_at hl 2 rfl) ?_
    refine lv_aload_n hx hb eX10_broken_54.2.1 rfl (lv_at hl 2 rfl) ?_
    refine va_get (D := (dC, dI)) (ci := 10) (v := .int aDd) (C := zX) (T := aBe) (N := 51) hx hb hts aAt hown hK hP 0 rfl rfl 37 (lbz rfl) (hts _ q_878) (fun _ h9 => h9) rfl eX10_broken_54.2.2.1 ?_
    refine lv_iload_n hx hb eX10_broken_54.2.2.2.1 rfl (lv_at hl 1 rfl) ?_
    refine lv_iconst (v := (-1)) hx hb eX10_broken_54.2.2.2.2.1 aEJ ?_
    refine lv_ixor hx hb eX10_broken_54.2.2.2.2.2.1 ?_
    refine lv_iand hx hb eX10_broken_54.2.2.2.2.2.2.1 ?_
    refine lv_topi (fun v_9 ev_9 => ?_)
    have hp := hp v_9 ev_9
    have hm := mgk (wc := (aD0 cI cC cZ cB cJ a_m nY sJ eG iY lY jR jW jZ jO oQ bR aY jQ gY iJ mQ lJ jA bG mK jB mW mJ eJ dG bT aG jC 0 0 jD mLn oF rP dQ aJ aB bW bZ aR aE bI aW bU fJ aDd bM bQ bO jY oX sW)) hP aOv 10 rfl rfl rfl
    refine aBn hP hD hS hA (yS aOv) (aAi aOv) hm.1 hm.2 (aAk _) (zW _) (zF (As := [.int v_9]) (rest := []) C0 hP hD hS (yS aOv) hm.1 (aAl _) 0 10 rfl rfl (aGE l dC dI cI cC cZ cB cJ a_m nY sJ eG iY lY jR jW jZ jO oQ bR aY jQ gY iJ mQ lJ jA bG mK jB mW mJ eJ dG H.size v_9 bT aG jC 0 0 jD mLn oF rP dQ aJ aB bW bZ aR aE bI aW bU fJ aDd bM bQ bO jY oX sW _ hp) q_849 q_852 q_850 q_851 aBL aGF rfl rfl ⟨lbz rfl, lbz rfl⟩ rfl rfl hl.1 rfl (lv_room (lbz rfl)) eX10_broken_54.2.2.2.2.2.2.2.1 ⟨Nat.zero_le _, Nat.zero_le _⟩) (fun u H locs hp hP hD hS => ?_)
    obtain ⟨aDZ, aHj⟩ := u
    have hPD := PDm (ws' := (aOg cI cC cZ cB cJ a_m nY sJ eG iY lY jR jW jZ jO oQ bR aY jQ gY iJ mQ lJ jA bG mK jB mW mJ eJ dG bT aG jC aDZ 0 jD mLn oF rP dQ aJ aB bW bZ aR aE bI aW bU fJ aDd bM bQ bO jY oX qG m_x gR qR nG oO pJ aHj (upd aH4 p0.toNatClampNeg 0))) hP hD 10 rfl rfl rfl
    have hP := hPD.1
    have hD := hPD.2
    refine lv_iload_n hx hb eX10_broken_54.2.2.2.2.2.2.2.2.1 rfl (lv_at hl 0 rfl) ?_
    exact W.iret (v := r_8) hx hb hr (fun t ht hW => ⟨⟨r_8, (aDZ, 0, aDd, aHj, (upd aH4 p0.toNatClampNeg 0)), rfl, hp, by rw [ht]; exact hP, va_K.moved hW.alike hK, hD⟩, hS.F ht⟩) hS.2.2 eX10_broken_54.2.2.2.2.2.2.2.2.2
  · have hp := hp.2 hc
    refine lv_iconst (v := (-1)) hx hb aSf.2.2.2.2.2.2.2.1 aEJ ?_
    exact W.iret (v := (-1)) hx hb hr (fun t ht hW => ⟨⟨(-1), (bL, 0, dO, sW, sH), rfl, hp, by rw [ht]; exact hP, va_K.moved hW.alike hK, hD⟩, hS.F ht⟩) hS.2.2 aSf.2.2.2.2.2.2.2.2.1
