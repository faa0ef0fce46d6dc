abbrev aPB (cI cC cZ cB cJ : ClassId) (a_m nY sJ eG iY lY jR jW jZ jO oQ bR aY jQ gY iJ mQ lJ jA bG mK jB mW mJ eJ dG : Nat) (bT aG jC bL bY : Int32) (jD : Nat) (mLn oF rP dQ aJ aB bW bZ aR aE bI aW bU fJ dO bM bQ bO jY oX : Int32) (qG m_x gR pW nG oO pJ sW : Nat -> Int32) : va_W := [(a_m, .inr (10, [.ref nY, .int bT, .ref sJ, .ref eG, .ref iY, .ref lY, .int aG, .ref jR, .ref jW, .ref jZ, .ref jO, .int jC, .ref oQ, .int bL, .int bY, rdv jO jQ jD, .int mLn, .int oF, .int rP, .int dQ, .ref bR, .ref aY, .int aJ, .int aB, .ref jQ, .int bW, .int bZ, .int aR, .int aE, .int bI, .int aW, .ref gY, .int bU, .ref iJ, .ref mQ, .int fJ, .ref lJ, .int dO, .ref jA, .ref bG, .int bM, .int bQ, .int bO, .ref mK, .ref jB, .ref mW, .int jY, .int oX, .ref mJ, .ref eJ, .ref dG])), (nY, .inl (cI, 21, .inl qG)), (sJ, .inl (cI, 16, .inl m_x)), (eG, .inl (cI, 16, .inl gR)), (iY, .inl (cI, 16, .inl pW)), (jR, .inl (cI, 8, .inl nG)), (jW, .inl (cI, 8, .inl oO)), (jZ, .inl (cI, 5, .inl pJ)), (oQ, .inl (cI, 32, .inl sW))]
abbrev q_X10_never (dC : Nat -> ClassId) (dI : Nat -> Nat -> Nat) (cI cC cZ cB cJ : ClassId) (A : Nat -> Prop) (a_m nY sJ eG iY lY jR jW jZ jO oQ bR aY jQ gY iJ mQ lJ jA bG mK jB mW mJ eJ dG : Nat) (bT aG jC : Int32) (jD : Nat) (mLn oF rP dQ aJ aB bW bZ aR aE bI aW bU fJ dO bM bQ bO jY oX : Int32) (qG m_x gR pW nG oO pJ : Nat -> Int32) (post : Int32 -> Int32 -> Int32 -> (Nat -> Int32) -> Prop) : Array Value -> State -> Outcome -> State -> Prop := va_Qi (fun (r : Int32) (u : Int32 × Int32 × (Nat -> Int32)) => post r u.1 u.2.1 u.2.2) (fun u t => gB (dC, dI) (tyl cI cC cZ cB cJ) A (aPB cI cC cZ cB cJ a_m nY sJ eG iY lY jR jW jZ jO oQ bR aY jQ gY iJ mQ lJ jA bG mK jB mW mJ eJ dG bT aG jC u.1 u.2.1 jD mLn oF rP dQ aJ aB bW bZ aR aE bI aW bU fJ dO bM bQ bO jY oX qG m_x gR pW nG oO pJ u.2.2) t) A
abbrev rm_X10_never : Room := { frames := 4, cells := 0, slots := 0, locals := 91 }
section S_X10_never
variable {p : Program} {l : Launch} {e : Env} {s : State} {m : MethodId} {args : Array Value} {below : List Frame} {meth : Method} {c : Code} {dC : Nat -> ClassId} {dI : Nat -> Nat -> Nat} {cI cC cZ cB cJ : ClassId} {A : Nat -> Prop} {a_m nY sJ eG iY lY jR jW jZ jO oQ bR aY jQ gY iJ mQ lJ jA bG mK jB mW mJ eJ dG : Nat} {bT aG jC : Int32} {jD : Nat} {mLn oF rP dQ aJ aB bW bZ aR aE bI aW bU fJ dO bM bQ bO jY oX : Int32} {qG m_x gR pW nG oO pJ : Nat -> Int32} {post : Int32 -> Int32 -> Int32 -> (Nat -> Int32) -> Prop}
def ws_X10_never_17 (post : Int32 -> Int32 -> Int32 -> (Nat -> Int32) -> Prop) (next : Int32 -> Int32 -> Int32 -> Int32 -> (Nat -> Int32) -> Prop) (bT aG : Int32) (qG m_x gR pW nG oO pJ : Nat -> Int32) (x1 x2 bL bY : Int32) (sW : Nat -> Int32) : Prop := (aG <= x2 -> ∀ v_2 : Int32, v_2 = qG (16 : Int32).toNatClampNeg -> aMp (fun r_3 => aDs (fun aMo m_row_5 => post x1 aMo bY m_row_5) r_3 0 sW) x1 v_2 bT pW) /\ (¬ aG <= x2 -> aJz (fun r_6 => ∀ v_7 : Int32, v_7 = x1 &&& (r_6 ^^^ (-1)) -> ∀ v_8 : Int32, v_8 = x2 + 1 -> next v_7 v_8 bL bY sW) x2 1 1 bT m_x gR nG oO pJ)
noncomputable def wb_X10_never_17 (post : Int32 -> Int32 -> Int32 -> (Nat -> Int32) -> Prop) (bT aG : Int32) (qG m_x gR pW nG oO pJ : Nat -> Int32) : Nat -> Int32 -> Int32 -> Int32 -> Int32 -> (Nat -> Int32) -> Prop := fun n => Nat.rec (motive := fun _ => Int32 -> Int32 -> Int32 -> Int32 -> (Nat -> Int32) -> Prop) (fun _ _ _ _ _ => False) (fun _ ih => ws_X10_never_17 post ih bT aG qG m_x gR pW nG oO pJ) n
set_option maxHeartbeats 4000000 in
set_option maxRecDepth 100000 in
theorem ks_X10_never_17 (C0 : gc aGU (some .int) 3 zX (dC, dI) (tyl cI cC cZ cB cJ) A p s m args meth c) {next : Int32 -> Int32 -> Int32 -> Int32 -> (Nat -> Int32) -> Prop} (hKn : ∀ (x1 : Int32) (x2 : Int32) (bL : Int32) (bY : Int32) (sW : Nat -> Int32) (H : Heap) (locs : List Loc) (ls : Array Slot), next x1 x2 bL bY sW -> va_P (dC, dI) classes (aPB cI cC cZ cB cJ a_m nY sJ eG iY lY jR jW jZ jO oQ bR aY jQ gY iJ mQ lJ jA bG mK jB mW mJ eJ dG bT aG jC bL bY jD mLn oF rP dQ aJ aB bW bZ aR aE bI aW bU fJ dO bM bQ bO jY oX qG m_x gR pW nG oO pJ sW) H -> va_D A (aPB cI cC cZ cB cJ a_m nY sJ eG iY lY jR jW jZ jO oQ bR aY jQ gY iJ mQ lJ jA bG mK jB mW mJ eJ dG bT aG jC bL bY jD mLn oF rP dQ aJ aB bW bZ aR aE bI aW bU fJ dO bM bQ bO jY oX qG m_x gR pW nG oO pJ sW) -> va_S A s.heap H locs -> lv_has ls 3 [(0, .ref a_m), (1, .int x1), (2, .int x2)] -> W p l e rm_X10_never s m args below meth c H locs 0 0 (MQ below (q_X10_never dC dI cI cC cZ cB cJ A a_m nY sJ eG iY lY jR jW jZ jO oQ bR aY jQ gY iJ mQ lJ jA bG mK jB mW mJ eJ dG bT aG jC jD mLn oF rP dQ aJ aB bW bZ aR aE bI aW bU fJ dO bM bQ bO jY oX qG m_x gR pW nG oO pJ post) args s 0 0 A) (F0 m 17 ls [])) : ∀ (x1 x2 bL bY : Int32) (sW : Nat -> Int32) (H : Heap) (locs : List Loc) (ls : Array Slot), (ws_X10_never_17 post next bT aG qG m_x gR pW nG oO pJ) x1 x2 bL bY sW -> va_P (dC, dI) classes (aPB cI cC cZ cB cJ a_m nY sJ eG iY lY jR jW jZ jO oQ bR aY jQ gY iJ mQ lJ jA bG mK jB mW mJ eJ dG bT aG jC bL bY jD mLn oF rP dQ aJ aB bW bZ aR aE bI aW bU fJ dO bM bQ bO jY oX qG m_x gR pW nG oO pJ sW) H -> va_D A (aPB cI cC cZ cB cJ a_m nY sJ eG iY lY jR jW jZ jO oQ bR aY jQ gY iJ mQ lJ jA bG mK jB mW mJ eJ dG bT aG jC bL bY jD mLn oF rP dQ aJ aB bW bZ aR aE bI aW bU fJ dO bM bQ bO jY oX qG m_x gR pW nG oO pJ sW) -> va_S A s.heap H locs -> lv_has ls 3 [(0, .ref a_m), (1, .int x1), (2, .int x2)] -> W p l e rm_X10_never s m args below meth c H locs 0 0 (MQ below (q_X10_never dC dI cI cC cZ cB cJ A a_m nY sJ eG iY lY jR jW jZ jO oQ bR aY jQ gY iJ mQ lJ jA bG mK jB mW mJ eJ dG bT aG jC jD mLn oF rP dQ aJ aB bW bZ aR aE bI aW bU fJ dO bM bQ bO jY oX qG m_x gR pW nG oO pJ post) args s 0 0 A) (F0 m 17 ls []) := by
  obtain ⟨hx, hb, hr, hml, hown, hts, hlocks, hA, hK, hN, tL, tM, hZL, hTL, hZM, hTM, hZX⟩ := id C0
  intro x1 x2 bL bY sW H locs ls hp hP hD hS hl
  unfold ws_X10_never_17 at hp
  refine lv_iload_n hx hb aWG.2.2.2.2.2.2.2.2.2.2.2.1 rfl (lv_at hl 2 rfl) ?_
  refine lv_aload_n hx hb aWG.2.2.2.2.2.2.2.2.2.2.2.2.1 rfl (lv_at hl 0 rfl) ?_
  refine va_get (D := (dC, dI)) (ci := 10) (v := .int aG) (C := zX) (T := aBe) (N := 51) hx hb hts aAt hown hK hP 0 rfl rfl 6 (lbz rfl) (hts _ q_666) (fun _ h9 => h9) rfl aWG.2.2.2.2.2.2.2.2.2.2.2.2.2.1 ?_
  refine lv_icmp_ge (tgt := 43) hx hb aWG.2.2.2.2.2.2.2.2.2.2.2.2.2.2.1 (by decide) (fun hc => ?_) (fun hc => ?_)
  · have hp := hp.1 hc
    refine lv_aload_n hx hb aS9.2.2.2.2.2.2.2.2.2.2.2.1 rfl (lv_at hl 0 rfl) ?_
    refine lv_iconst (v := 0) hx hb aS9.2.2.2.2.2.2.2.2.2.2.2.2.1 aCi ?_
    refine va_put (D := (dC, dI)) (ci := 10) (v := .int 0) (ty := .int) (C := zX) (T := aBe) (N := 51) hx hb hts aAt aD2 aAa aEC hown hK hP hD hS 0 rfl rfl 13 (lbz rfl) (hts _ q_847) (fun _ h9 => h9) rfl (aAa 13 (lbz rfl)) rfl rfl (lbz rfl) aS9.2.2.2.2.2.2.2.2.2.2.2.2.2.1 (fun H locs hP hD hS => ?_)
    have hPD := PDw (ws' := (aPB cI cC cZ cB cJ a_m nY sJ eG iY lY jR jW jZ jO oQ bR aY jQ gY iJ mQ lJ jA bG mK jB mW mJ eJ dG bT aG jC 0 bY jD mLn oF rP dQ aJ aB bW bZ aR aE bI aW bU fJ dO bM bQ bO jY oX qG m_x gR pW nG oO pJ sW)) hP hD rfl
    have hP := hPD.1
    have hD := hPD.2
    refine lv_aload_n hx hb aS9.2.2.2.2.2.2.2.2.2.2.2.2.2.2.1 rfl (lv_at hl 0 rfl) ?_
    refine lv_aload_n hx hb aS9.2.2.2.2.2.2.2.2.2.2.2.2.2.2.2 rfl (lv_at hl 0 rfl) ?_
    refine lv_iload_n hx hb eX10_never_50.1 rfl (lv_at hl 1 rfl) ?_
    refine lv_aload_n hx hb eX10_never_50.2.1 rfl (lv_at hl 0 rfl) ?_
    refine va_get (D := (dC, dI)) (ci := 10) (v := .ref nY) (C := zX) (T := aBe) (N := 51) hx hb hts aAt hown hK hP 0 rfl rfl 0 (lbz rfl) (hts _ aHO) (fun _ h9 => h9) rfl eX10_never_50.2.2.1 ?_
    refine lv_bipush (v := 16) hx hb eX10_never_50.2.2.2.1 bp_16 ?_
    refine va_iald hx hb hK hP 1 0 rfl rfl (g_in rfl) eX10_never_50.2.2.2.2.1 ?_
    refine lv_topi (fun v_2 aGO => ?_)
    have hp := hp v_2 aGO
    have hm := mgk (wc := (aFo cI cC cZ cB cJ a_m nY sJ eG iY lY jR jW jZ jO oQ bR aY jQ gY iJ mQ lJ jA bG mK jB mW mJ eJ dG bT aG jC 0 bY jD mLn oF rP dQ aJ aB bW bZ aR aE bI aW bU fJ dO bM bQ bO jY oX pW)) hP mk_245 9 rfl rfl rfl
    refine yW hP hD hS hA (yS mk_245) (aAi mk_245) hm.1 hm.2 (aAk _) (zW _) (zF (As := [.int x1, .int v_2]) (rest := [.ref a_m]) C0 hP hD hS (yS mk_245) hm.1 (aAl _) 0 10 rfl rfl (bCS l dC dI cI cC cZ cB cJ a_m nY sJ eG iY lY jR jW jZ jO oQ bR aY jQ gY iJ mQ lJ jA bG mK jB mW mJ eJ dG H.size x1 v_2 bT aG jC 0 bY jD mLn oF rP dQ aJ aB bW bZ aR aE bI aW bU fJ dO bM bQ bO jY oX pW _ hp) q_865 q_868 q_866 q_867 aBL bCV rfl rfl ⟨lbz rfl, lbz rfl⟩ rfl rfl hl.1 rfl (lv_room (lbz rfl)) eX10_never_50.2.2.2.2.2.1 ⟨Nat.zero_le _, Nat.zero_le _⟩) (fun r_3 u H locs hp hP hD hS => ?_)
    have hPD := PDm (ws' := (aPB cI cC cZ cB cJ a_m nY sJ eG iY lY jR jW jZ jO oQ bR aY jQ gY iJ mQ lJ jA bG mK jB mW mJ eJ dG bT aG jC 0 bY jD mLn oF rP dQ aJ aB bW bZ aR aE bI aW bU fJ dO bM bQ bO jY oX qG m_x gR pW nG oO pJ sW)) hP hD 9 rfl rfl rfl
    have hP := hPD.1
    have hD := hPD.2
    have hm := mgk (wc := (aD0 cI cC cZ cB cJ a_m nY sJ eG iY lY jR jW jZ jO oQ bR aY jQ gY iJ mQ lJ jA bG mK jB mW mJ eJ dG bT aG jC 0 bY jD mLn oF rP dQ aJ aB bW bZ aR aE bI aW bU fJ dO bM bQ bO jY oX sW)) hP mk_246 9 rfl rfl rfl
    refine aBn hP hD hS hA (yS mk_246) (aAi mk_246) hm.1 hm.2 (aAk _) (zW _) (zF (As := [.int r_3]) (rest := []) C0 hP hD hS (yS mk_246) hm.1 (aAl _) 0 10 rfl rfl (aGE l dC dI cI cC cZ cB cJ a_m nY sJ eG iY lY jR jW jZ jO oQ bR aY jQ gY iJ mQ lJ jA bG mK jB mW mJ eJ dG H.size r_3 bT aG jC 0 bY jD mLn oF rP dQ aJ aB bW bZ aR aE bI aW bU fJ dO bM bQ bO jY oX sW _ hp) q_849 q_852 q_850 q_851 aBL aGF rfl rfl ⟨lbz rfl, lbz rfl⟩ rfl rfl hl.1 rfl (lv_room (lbz rfl)) eX10_never_50.2.2.2.2.2.2.1 ⟨Nat.zero_le _, Nat.zero_le _⟩) (fun u H locs hp hP hD hS => ?_)
    obtain ⟨aMo, m_row_5⟩ := u
    have hPD := PDm (ws' := (aPB cI cC cZ cB cJ a_m nY sJ eG iY lY jR jW jZ jO oQ bR aY jQ gY iJ mQ lJ jA bG mK jB mW mJ eJ dG bT aG jC aMo bY jD mLn oF rP dQ aJ aB bW bZ aR aE bI aW bU fJ dO bM bQ bO jY oX qG m_x gR pW nG oO pJ m_row_5)) hP hD 9 rfl rfl rfl
    have hP := hPD.1
    have hD := hPD.2
    refine lv_iload_n hx hb eX10_never_50.2.2.2.2.2.2.2.1 rfl (lv_at hl 1 rfl) ?_
    exact W.iret (v := x1) hx hb hr (fun t ht hW => ⟨⟨x1, (aMo, bY, m_row_5), rfl, hp, by rw [ht]; exact hP, va_K.moved hW.alike hK, hD⟩, hS.F ht⟩) hS.2.2 eX10_never_50.2.2.2.2.2.2.2.2
  · have hp := hp.2 hc
    refine lv_iload_n hx hb aWG.2.2.2.2.2.2.2.2.2.2.2.2.2.2.2 rfl (lv_at hl 1 rfl) ?_
    refine lv_aload_n hx hb aS9.1 rfl (lv_at hl 0 rfl) ?_
    refine lv_iload_n hx hb aS9.2.1 rfl (lv_at hl 2 rfl) ?_
    refine lv_iconst (v := 1) hx hb aS9.2.2.1 aDx ?_
    refine lv_iconst (v := 1) hx hb aS9.2.2.2.1 aDx ?_
    have hm := mgk (wc := (aFy cI cC cZ cB cJ a_m nY sJ eG iY lY jR jW jZ jO oQ bR aY jQ gY iJ mQ lJ jA bG mK jB mW mJ eJ dG bT aG jC bL bY jD mLn oF rP dQ aJ aB bW bZ aR aE bI aW bU fJ dO bM bQ bO jY oX m_x gR nG oO pJ)) hP mk_247 9 rfl rfl rfl
    refine yW hP hD hS hA (yS mk_247) (aAi mk_247) hm.1 hm.2 (aAk _) (zW _) (zF (As := [.int x2, .int 1, .int 1]) (rest := [.int x1]) C0 hP hD hS (yS mk_247) hm.1 (aAl _) 0 10 rfl rfl (c_X10_reachedFrom l dC dI cI cC cZ cB cJ a_m nY sJ eG iY lY jR jW jZ jO oQ bR aY jQ gY iJ mQ lJ jA bG mK jB mW mJ eJ dG H.size x2 1 1 bT aG jC bL bY jD mLn oF rP dQ aJ aB bW bZ aR aE bI aW bU fJ dO bM bQ bO jY oX m_x gR nG oO pJ _ hp) q_824 q_827 q_825 q_826 aBL h_X10_reachedFrom rfl rfl ⟨lbz rfl, lbz rfl⟩ rfl rfl hl.1 rfl (lv_room (lbz rfl)) aS9.2.2.2.2.1 ⟨Nat.zero_le _, Nat.zero_le _⟩) (fun r_6 u H locs hp hP hD hS => ?_)
    have hPD := PDm (ws' := (aPB cI cC cZ cB cJ a_m nY sJ eG iY lY jR jW jZ jO oQ bR aY jQ gY iJ mQ lJ jA bG mK jB mW mJ eJ dG bT aG jC bL bY jD mLn oF rP dQ aJ aB bW bZ aR aE bI aW bU fJ dO bM bQ bO jY oX qG m_x gR pW nG oO pJ sW)) hP hD 9 rfl rfl rfl
    have hP := hPD.1
    have hD := hPD.2
    refine lv_iconst (v := (-1)) hx hb aS9.2.2.2.2.2.1 aEJ ?_
    refine lv_ixor hx hb aS9.2.2.2.2.2.2.1 ?_
    refine lv_iand hx hb aS9.2.2.2.2.2.2.2.1 ?_
    refine lv_topi (fun v_7 ev_7 => ?_)
    have hp := hp v_7 ev_7
    refine lv_istore_n (lv' := [(1, .int v_7), (0, .ref a_m), (2, .int x2)]) hx hb aS9.2.2.2.2.2.2.2.2.1 rfl hl (by decide) rfl (fun ls hl => ?_)
    obtain ⟨v_8, ev_8⟩ : ∃ y : Int32, y = x2 + 1 := ⟨_, rfl⟩
    refine lv_iinc (v := v_8) (lv' := [(2, .int v_8), (1, .int v_7), (0, .ref a_m)]) hx hb aS9.2.2.2.2.2.2.2.2.2.1 hl (k := 2) rfl (by rw [ev_8]; rfl) (by decide) rfl (fun ls hl => ?_)
    have hp := hp v_8 ev_8
    refine lv_goto (tgt := 17) hx hb aS9.2.2.2.2.2.2.2.2.2.2.1 (by decide) ?_
    exact hKn v_7 v_8 bL bY sW H locs ls hp hP hD hS (lv_sub hl [2, 1, 0] rfl)
set_option maxHeartbeats 4000000 in
set_option maxRecDepth 100000 in
theorem kb_X10_never_17 (C0 : gc aGU (some .int) 3 zX (dC, dI) (tyl cI cC cZ cB cJ) A p s m args meth c) : ∀ (n : Nat), ∀ (x1 x2 bL bY : Int32) (sW : Nat -> Int32) (H : Heap) (locs : List Loc) (ls : Array Slot), (wb_X10_never_17 post bT aG qG m_x gR pW nG oO pJ n) x1 x2 bL bY sW -> va_P (dC, dI) classes (aPB cI cC cZ cB cJ a_m nY sJ eG iY lY jR jW jZ jO oQ bR aY jQ gY iJ mQ lJ jA bG mK jB mW mJ eJ dG bT aG jC bL bY jD mLn oF rP dQ aJ aB bW bZ aR aE bI aW bU fJ dO bM bQ bO jY oX qG m_x gR pW nG oO pJ sW) H -> va_D A (aPB cI cC cZ cB cJ a_m nY sJ eG iY lY jR jW jZ jO oQ bR aY jQ gY iJ mQ lJ jA bG mK jB mW mJ eJ dG bT aG jC bL bY jD mLn oF rP dQ aJ aB bW bZ aR aE bI aW bU fJ dO bM bQ bO jY oX qG m_x gR pW nG oO pJ sW) -> va_S A s.heap H locs -> lv_has ls 3 [(0, .ref a_m), (1, .int x1), (2, .int x2)] -> W p l e rm_X10_never s m args below meth c H locs 0 0 (MQ below (q_X10_never dC dI cI cC cZ cB cJ A a_m nY sJ eG iY lY jR jW jZ jO oQ bR aY jQ gY iJ mQ lJ jA bG mK jB mW mJ eJ dG bT aG jC jD mLn oF rP dQ aJ aB bW bZ aR aE bI aW bU fJ dO bM bQ bO jY oX qG m_x gR pW nG oO pJ post) args s 0 0 A) (F0 m 17 ls []) := by
  intro n
  induction n with
  | zero =>
    intro x1 x2 bL bY sW H locs ls hp
    exact False.elim hp
  | succ n ih =>
    intro x1 x2 bL bY sW H locs ls hp
    exact ks_X10_never_17 C0 ih x1 x2 bL bY sW H locs ls hp
end S_X10_never
def wp_X10_never (post : Int32 -> Int32 -> Int32 -> (Nat -> Int32) -> Prop) (bT aG bL bY : Int32) (qG m_x gR pW nG oO pJ sW : Nat -> Int32) : Prop := aIB (fun r_1 => ∃ n : Nat, wb_X10_never_17 post bT aG qG m_x gR pW nG oO pJ n r_1 0 bL 0 sW) 0 bT qG
set_option maxHeartbeats 4000000 in
set_option maxRecDepth 100000 in
theorem c_X10_never (l : Launch) (dC : Nat -> ClassId) (dI : Nat -> Nat -> Nat) (cI cC cZ cB cJ : ClassId) (a_m nY sJ eG iY lY jR jW jZ jO oQ bR aY jQ gY iJ mQ lJ jA bG mK jB mW mJ eJ dG sz : Nat) (bT aG jC bL bY : Int32) (jD : Nat) (mLn oF rP dQ aJ aB bW bZ aR aE bI aW bU fJ dO bM bQ bO jY oX : Int32) (qG m_x gR pW nG oO pJ sW : Nat -> Int32) (post : Int32 -> Int32 -> Int32 -> (Nat -> Int32) -> Prop) (hw : wp_X10_never post bT aG bL bY qG m_x gR pW nG oO pJ sW) : Met l yX10_never (gw yX10_never aGU 3 (some .int)) rm_X10_never (va_Pc [.ref a_m] (gPre (dC, dI) (tyl cI cC cZ cB cJ) (aPB cI cC cZ cB cJ a_m nY sJ eG iY lY jR jW jZ jO oQ bR aY jQ gY iJ mQ lJ jA bG mK jB mW mJ eJ dG bT aG jC bL bY jD mLn oF rP dQ aJ aB bW bZ aR aE bI aW bU fJ dO bM bQ bO jY oX qG m_x gR pW nG oO pJ sW) sz)) (q_X10_never dC dI cI cC cZ cB cJ (va_A (aPB cI cC cZ cB cJ a_m nY sJ eG iY lY jR jW jZ jO oQ bR aY jQ gY iJ mQ lJ jA bG mK jB mW mJ eJ dG bT aG jC bL bY jD mLn oF rP dQ aJ aB bW bZ aR aE bI aW bU fJ dO bM bQ bO jY oX qG m_x gR pW nG oO pJ sW) sz) a_m nY sJ eG iY lY jR jW jZ jO oQ bR aY jQ gY iJ mQ lJ jA bG mK jB mW mJ eJ dG bT aG jC jD mLn oF rP dQ aJ aB bW bZ aR aE bI aW bU fJ dO bM bQ bO jY oX qG m_x gR pW nG oO pJ post) 0 0 (va_A (aPB cI cC cZ cB cJ a_m nY sJ eG iY lY jR jW jZ jO oQ bR aY jQ gY iJ mQ lJ jA bG mK jB mW mJ eJ dG bT aG jC bL bY jD mLn oF rP dQ aJ aB bW bZ aR aE bI aW bU fJ dO bM bQ bO jY oX qG m_x gR pW nG oO pJ sW) sz) := by
  refine aBJ (own := zX) (dC, dI) (tyl cI cC cZ cB cJ) (aPB cI cC cZ cB cJ a_m nY sJ eG iY lY jR jW jZ jO oQ bR aY jQ gY iJ mQ lJ jA bG mK jB mW mJ eJ dG bT aG jC bL bY jD mLn oF rP dQ aJ aB bW bZ aR aE bI aW bU fJ dO bM bQ bO jY oX qG m_x gR pW nG oO pJ sW) sz [.ref a_m] (fun A => q_X10_never dC dI cI cC cZ cB cJ A a_m nY sJ eG iY lY jR jW jZ jO oQ bR aY jQ gY iJ mQ lJ jA bG mK jB mW mJ eJ dG bT aG jC jD mLn oF rP dQ aJ aB bW bZ aR aE bI aW bU fJ dO bM bQ bO jY oX qG m_x gR pW nG oO pJ post) aFY rfl (lbz rfl) ?_
  intro p e s m args below meth c A H locs ls C0 hP hD hS hl
  have hl : lv_has ls 3 [(0, .ref a_m)] := hl
  obtain ⟨hx, hb, hr, hml, hown, hts, hlocks, hA, hK, hN, tL, tM, hZL, hTL, hZM, hTM, hZX⟩ := id C0
  have hp := hw
  unfold wp_X10_never at hp
  refine lv_aload_n hx hb aWG.1 rfl (lv_at hl 0 rfl) ?_
  refine lv_iconst (v := 0) hx hb aWG.2.1 aCi ?_
  refine va_put (D := (dC, dI)) (ci := 10) (v := .int 0) (ty := .int) (C := zX) (T := aBe) (N := 51) hx hb hts aAt aD2 aAa aEC hown hK hP hD hS 0 rfl rfl 14 (lbz rfl) (hts _ q_638) (fun _ h9 => h9) rfl (aAa 14 (lbz rfl)) rfl rfl (lbz rfl) aWG.2.2.1 (fun H locs hP hD hS => ?_)
  have hPD := PDw (ws' := (aPB cI cC cZ cB cJ a_m nY sJ eG iY lY jR jW jZ jO oQ bR aY jQ gY iJ mQ lJ jA bG mK jB mW mJ eJ dG bT aG jC bL 0 jD mLn oF rP dQ aJ aB bW bZ aR aE bI aW bU fJ dO bM bQ bO jY oX qG m_x gR pW nG oO pJ sW)) hP hD rfl
  have hP := hPD.1
  have hD := hPD.2
  refine lv_aload_n hx hb aWG.2.2.2.1 rfl (lv_at hl 0 rfl) ?_
  refine lv_aload_n hx hb aWG.2.2.2.2.1 rfl (lv_at hl 0 rfl) ?_
  refine va_get (D := (dC, dI)) (ci := 10) (v := .ref nY) (C := zX) (T := aBe) (N := 51) hx hb hts aAt hown hK hP 0 rfl rfl 0 (lbz rfl) (hts _ aHO) (fun _ h9 => h9) rfl aWG.2.2.2.2.2.1 ?_
  refine lv_iconst (v := 0) hx hb aWG.2.2.2.2.2.2.1 aCi ?_
  have hm := mgk (wc := (aGS cI cC cZ cB cJ a_m nY sJ eG iY lY jR jW jZ jO oQ bR aY jQ gY iJ mQ lJ jA bG mK jB mW mJ eJ dG bT aG jC bL 0 jD mLn oF rP dQ aJ aB bW bZ aR aE bI aW bU fJ dO bM bQ bO jY oX qG)) hP mk_5 9 rfl rfl rfl
  refine yW hP hD hS hA (yS mk_5) (aAi mk_5) hm.1 hm.2 (aAk _) (zW _) (zF (As := [.ref nY, .int 0]) (rest := []) C0 hP hD hS (yS mk_5) hm.1 (aAl _) 0 10 rfl rfl (aRP l dC dI cI cC cZ cB cJ a_m nY sJ eG iY lY jR jW jZ jO oQ bR aY jQ gY iJ mQ lJ jA bG mK jB mW mJ eJ dG H.size 0 bT aG jC bL 0 jD mLn oF rP dQ aJ aB bW bZ aR aE bI aW bU fJ dO bM bQ bO jY oX qG _ hp) q_749 q_752 q_750 q_751 aBL aRR rfl rfl ⟨lbz rfl, lbz rfl⟩ rfl rfl hl.1 rfl (lv_room (lbz rfl)) aWG.2.2.2.2.2.2.2.1 ⟨Nat.zero_le _, Nat.zero_le _⟩) (fun r_1 u H locs hp hP hD hS => ?_)
  have hPD := PDm (ws' := (aPB cI cC cZ cB cJ a_m nY sJ eG iY lY jR jW jZ jO oQ bR aY jQ gY iJ mQ lJ jA bG mK jB mW mJ eJ dG bT aG jC bL 0 jD mLn oF rP dQ aJ aB bW bZ aR aE bI aW bU fJ dO bM bQ bO jY oX qG m_x gR pW nG oO pJ sW)) hP hD 9 rfl rfl rfl
  have hP := hPD.1
  have hD := hPD.2
  refine lv_istore_n (lv' := [(1, .int r_1), (0, .ref a_m)]) hx hb aWG.2.2.2.2.2.2.2.2.1 rfl hl (by decide) rfl (fun ls hl => ?_)
  refine lv_iconst (v := 0) hx hb aWG.2.2.2.2.2.2.2.2.2.1 aCi ?_
  refine lv_istore_n (lv' := [(2, .int 0), (1, .int r_1), (0, .ref a_m)]) hx hb aWG.2.2.2.2.2.2.2.2.2.2.1 rfl hl (by decide) rfl (fun ls hl => ?_)
  obtain ⟨n9, hp⟩ := hp
  exact kb_X10_never_17 C0 n9 r_1 0 bL 0 sW H locs ls hp hP hD hS (lv_sub hl [2, 1, 0] rfl)
abbrev aU4 (cI cC cZ cB cJ : ClassId) (a_m nY sJ eG iY lY jR jW jZ jO oQ bR aY jQ gY iJ mQ lJ jA bG mK jB mW mJ eJ dG : Nat) (bT aG jC bL bY : Int32) (jD : Nat) (mLn oF rP dQ aJ aB bW bZ aR aE bI aW bU fJ dO bM bQ bO jY oX : Int32) (qG m_x gR pW nG oO pJ qO qQ : Nat -> Int32) : va_W := [(a_m, .inr (10, [.ref nY, .int bT, .ref sJ, .ref eG, .ref iY, .ref lY, .int aG, .ref jR, .ref jW, .ref jZ, .ref jO, .int jC, .ref oQ, .int bL, .int bY, rdv jO jQ jD, .int mLn, .int oF, .int rP, .int dQ, .ref bR, .ref aY, .int aJ, .int aB, .ref jQ, .int bW, .int bZ, .int aR, .int aE, .int bI, .int aW, .ref gY, .int bU, .ref iJ, .ref mQ, .int fJ, .ref lJ, .int dO, .ref jA, .ref bG, .int bM, .int bQ, .int bO, .ref mK, .ref jB, .ref mW, .int jY, .int oX, .ref mJ, .ref eJ, .ref dG])), (nY, .inl (cI, 21, .inl qG)), (sJ, .inl (cI, 16, .inl m_x)), (eG, .inl (cI, 16, .inl gR)), (iY, .inl (cI, 16, .inl pW)), (jR, .inl (cI, 8, .inl nG)), (jW, .inl (cI, 8, .inl oO)), (jZ, .inl (cI, 5, .inl pJ)), (jO, .inl (cB, 80, .inl qO)), (jQ, .inl (cB, 40, .inl qQ))]
abbrev q_X10_seconds (dC : Nat -> ClassId) (dI : Nat -> Nat -> Nat) (cI cC cZ cB cJ : ClassId) (A : Nat -> Prop) (a_m nY sJ eG iY lY jR jW jZ jO oQ bR aY jQ gY iJ mQ lJ jA bG mK jB mW mJ eJ dG : Nat) (bT aG jC bL aJ aB bW bU fJ dO bM bQ bO jY oX : Int32) (qG m_x gR pW nG oO pJ qO qQ : Nat -> Int32) (post : Int32 -> Int32 -> Nat -> Int32 -> Int32 -> Int32 -> Int32 -> Int32 -> Int32 -> Int32 -> Int32 -> Int32 -> Prop) : Array Value -> State -> Outcome -> State -> Prop := va_Qi (fun (r : Int32) (u : Int32 × Nat × Int32 × Int32 × Int32 × Int32 × Int32 × Int32 × Int32 × Int32 × Int32) => post r u.1 u.2.1 u.2.2.1 u.2.2.2.1 u.2.2.2.2.1 u.2.2.2.2.2.1 u.2.2.2.2.2.2.1 u.2.2.2.2.2.2.2.1 u.2.2.2.2.2.2.2.2.1 u.2.2.2.2.2.2.2.2.2.1 u.2.2.2.2.2.2.2.2.2.2) (fun u t => gB (dC, dI) (tyl cI cC cZ cB cJ) A (aU4 cI cC cZ cB cJ a_m nY sJ eG iY lY jR jW jZ jO oQ bR aY jQ gY iJ mQ lJ jA bG mK jB mW mJ eJ dG bT aG jC bL u.1 u.2.1 u.2.2.1 u.2.2.2.1 u.2.2.2.2.1 u.2.2.2.2.2.1 aJ aB bW u.2.2.2.2.2.2.1 u.2.2.2.2.2.2.2.1 u.2.2.2.2.2.2.2.2.1 u.2.2.2.2.2.2.2.2.2.1 u.2.2.2.2.2.2.2.2.2.2 bU fJ dO bM bQ bO jY oX qG m_x gR pW nG oO pJ qO qQ) t) A
abbrev rm_X10_seconds : Room := { frames := 266, cells := 0, slots := 0, locals := 8782 }
def wp_X10_seconds (post : Int32 -> Int32 -> Nat -> Int32 -> Int32 -> Int32 -> Int32 -> Int32 -> Int32 -> Int32 -> Int32 -> Int32 -> Prop) (p0 p1 p2 bT aG bY : Int32) (jD : Nat) (mLn oF rP dQ bW bZ aR aE bI aW : Int32) (qG m_x gR pW nG oO pJ qO qQ : Nat -> Int32) : Prop := aU8 (fun r_1 => (r_1 = 0 -> post (-1) 0 jD mLn oF rP dQ bZ aR aE bI aW) /\ (¬ r_1 = 0 -> aJI (fun r_2 => (r_2 = 0 -> post (-1) 0 jD mLn oF rP dQ bZ aR aE bI aW) /\ (¬ r_2 = 0 -> aJY (fun r_3 => (¬ r_3 = 0 -> ∀ v_4 : Int32, v_4 = qG (18 : Int32).toNatClampNeg -> aY7 (fun r_5 => aUZ (fun r_6 => (r_6 = 0 -> post (-2) 0 jD mLn oF rP dQ bZ aR aE bI aW) /\ (¬ r_6 = 0 -> aXm (fun r_7 m_read_8 m_length_9 m_top_10 m_at_11 aVJ m_isAsked_13 m_askedFruit_14 m_askedStanding_15 m_askedHook_16 m_askedApron_17 => post r_7 0 m_read_8 m_length_9 m_top_10 m_at_11 aVJ m_isAsked_13 m_askedFruit_14 m_askedStanding_15 m_askedHook_16 m_askedApron_17) p0 p1 p2 0 jD mLn oF rP dQ bW bZ aR aE bI aW m_x gR pW nG oO qO qQ)) p0 p1 r_5 m_x gR nG oO) v_4 p2 pJ) /\ (r_3 = 0 -> post (-1) 0 jD mLn oF rP dQ bZ aR aE bI aW)) p2 0 1)) p1 aG)) p0 bT
set_option maxHeartbeats 4000000 in
set_option maxRecDepth 100000 in
theorem c_X10_seconds (l : Launch) (dC : Nat -> ClassId) (dI : Nat -> Nat -> Nat) (cI cC cZ cB cJ : ClassId) (a_m nY sJ eG iY lY jR jW jZ jO oQ bR aY jQ gY iJ mQ lJ jA bG mK jB mW mJ eJ dG sz : Nat) (p0 p1 p2 bT aG jC bL bY : Int32) (jD : Nat) (mLn oF rP dQ aJ aB bW bZ aR aE bI aW bU fJ dO bM bQ bO jY oX : Int32) (qG m_x gR pW nG oO pJ qO qQ : Nat -> Int32) (post : Int32 -> Int32 -> Nat -> Int32 -> Int32 -> Int32 -> Int32 -> Int32 -> Int32 -> Int32 -> Int32 -> Int32 -> Prop) (hw : wp_X10_seconds post p0 p1 p2 bT aG bY jD mLn oF rP dQ bW bZ aR aE bI aW qG m_x gR pW nG oO pJ qO qQ) : Met l yX10_seconds (gw yX10_seconds aFL 4 (some .int)) rm_X10_seconds (va_Pc [.ref a_m, .int p0, .int p1, .int p2] (gPre (dC, dI) (tyl cI cC cZ cB cJ) (aU4 cI cC cZ cB cJ a_m nY sJ eG iY lY jR jW jZ jO oQ bR aY jQ gY iJ mQ lJ jA bG mK jB mW mJ eJ dG bT aG jC bL bY jD mLn oF rP dQ aJ aB bW bZ aR aE bI aW bU fJ dO bM bQ bO jY oX qG m_x gR pW nG oO pJ qO qQ) sz)) (q_X10_seconds dC dI cI cC cZ cB cJ (va_A (aU4 cI cC cZ cB cJ a_m nY sJ eG iY lY jR jW jZ jO oQ bR aY jQ gY iJ mQ lJ jA bG mK jB mW mJ eJ dG bT aG jC bL bY jD mLn oF rP dQ aJ aB bW bZ aR aE bI aW bU fJ dO bM bQ bO jY oX qG m_x gR pW nG oO pJ qO qQ) sz) a_m nY sJ eG iY lY jR jW jZ jO oQ bR aY jQ gY iJ mQ lJ jA bG mK jB mW mJ eJ dG bT aG jC bL aJ aB bW bU fJ dO bM bQ bO jY oX qG m_x gR pW nG oO pJ qO qQ post) 0 0 (va_A (aU4 cI cC cZ cB cJ a_m nY sJ eG iY lY jR jW jZ jO oQ bR aY jQ gY iJ mQ lJ jA bG mK jB mW mJ eJ dG bT aG jC bL bY jD mLn oF rP dQ aJ aB bW bZ aR aE bI aW bU fJ dO bM bQ bO jY oX qG m_x gR pW nG oO pJ qO qQ) sz) := by
  refine aBJ (own := zX) (dC, dI) (tyl cI cC cZ cB cJ) (aU4 cI cC cZ cB cJ a_m nY sJ eG iY lY jR jW jZ jO oQ bR aY jQ gY iJ mQ lJ jA bG mK jB mW mJ eJ dG bT aG jC bL bY jD mLn oF rP dQ aJ aB bW bZ aR aE bI aW bU fJ dO bM bQ bO jY oX qG m_x gR pW nG oO pJ qO qQ) sz [.ref a_m, .int p0, .int p1, .int p2] (fun A => q_X10_seconds dC dI cI cC cZ cB cJ A a_m nY sJ eG iY lY jR jW jZ jO oQ bR aY jQ gY iJ mQ lJ jA bG mK jB mW mJ eJ dG bT aG jC bL aJ aB bW bU fJ dO bM bQ bO jY oX qG m_x gR pW nG oO pJ qO qQ post) aFY rfl (lbz rfl) ?_
  intro p e s m args below meth c A H locs ls C0 hP hD hS hl
  have hl : lv_has ls 4 [(0, .ref a_m), (1, .int p0), (2, .int p1), (3, .int p2)] := hl
  obtain ⟨hx, hb, hr, hml, hown, hts, hlocks, hA, hK, hN, tL, tM, hZL, hTL, hZM, hTM, hZX⟩ := id C0
  have hp := hw
  unfold wp_X10_seconds at hp
  refine lv_aload_n hx hb aQX.1 rfl (lv_at hl 0 rfl) ?_
  refine lv_iconst (v := 0) hx hb aQX.2.1 aCi ?_
  refine va_put (D := (dC, dI)) (ci := 10) (v := .int 0) (ty := .int) (C := zX) (T := aBe) (N := 51) hx hb hts aAt aD2 aAa aEC hown hK hP hD hS 0 rfl rfl 14 (lbz rfl) (hts _ q_638) (fun _ h9 => h9) rfl (aAa 14 (lbz rfl)) rfl rfl (lbz rfl) aQX.2.2.1 (fun H locs hP hD hS => ?_)
  have hPD := PDw (ws' := (aU4 cI cC cZ cB cJ a_m nY sJ eG iY lY jR jW jZ jO oQ bR aY jQ gY iJ mQ lJ jA bG mK jB mW mJ eJ dG bT aG jC bL 0 jD mLn oF rP dQ aJ aB bW bZ aR aE bI aW bU fJ dO bM bQ bO jY oX qG m_x gR pW nG oO pJ qO qQ)) hP hD rfl
  have hP := hPD.1
  have hD := hPD.2
  refine lv_aload_n hx hb aQX.2.2.2.1 rfl (lv_at hl 0 rfl) ?_
  refine lv_iload_n hx hb aQX.2.2.2.2.1 rfl (lv_at hl 1 rfl) ?_
  have hm := mgk (wc := (aY2 cI cC cZ cB cJ a_m nY sJ eG iY lY jR jW jZ jO oQ bR aY jQ gY iJ mQ lJ jA bG mK jB mW mJ eJ dG bT aG jC bL 0 jD mLn oF rP dQ aJ aB bW bZ aR aE bI aW bU fJ dO bM bQ bO jY oX)) hP aRf 10 rfl rfl rfl
  refine yW hP hD hS hA (yS aRf) (aAi aRf) hm.1 hm.2 (aAk _) (zW _) (zF (As := [.int p0]) (rest := []) C0 hP hD hS (yS aRf) hm.1 (aAl _) 0 10 rfl rfl (c_X10_isFruit l dC dI cI cC cZ cB cJ a_m nY sJ eG iY lY jR jW jZ jO oQ bR aY jQ gY iJ mQ lJ jA bG mK jB mW mJ eJ dG H.size p0 bT aG jC bL 0 jD mLn oF rP dQ aJ aB bW bZ aR aE bI aW bU fJ dO bM bQ bO jY oX _ hp) q_741 q_744 q_742 q_743 aBL h_X10_isFruit rfl rfl ⟨lbz rfl, lbz rfl⟩ rfl rfl hl.1 rfl (lv_room (lbz rfl)) aQX.2.2.2.2.2.1 ⟨Nat.zero_le _, Nat.zero_le _⟩) (fun r_1 u H locs hp hP hD hS => ?_)
  have hPD := PDm (ws' := (aU4 cI cC cZ cB cJ a_m nY sJ eG iY lY jR jW jZ jO oQ bR aY jQ gY iJ mQ lJ jA bG mK jB mW mJ eJ dG bT aG jC bL 0 jD mLn oF rP dQ aJ aB bW bZ aR aE bI aW bU fJ dO bM bQ bO jY oX qG m_x gR pW nG oO pJ qO qQ)) hP hD 10 rfl rfl rfl
  have hP := hPD.1
  have hD := hPD.2
  refine lv_if_eq (tgt := 30) hx hb aQX.2.2.2.2.2.2.1 (by decide) (fun hc => ?_) (fun hc => ?_)
  · have hp := hp.1 hc
    refine lv_iconst (v := (-1)) hx hb aJh.1 aEJ ?_
    exact W.iret (v := (-1)) hx hb hr (fun t ht hW => ⟨⟨(-1), (0, jD, mLn, oF, rP, dQ, bZ, aR, aE, bI, aW), rfl, hp, by rw [ht]; exact hP, va_K.moved hW.alike hK, hD⟩, hS.F ht⟩) hS.2.2 aJh.2.1
  · have hp := hp.2 hc
    refine lv_aload_n hx hb aQX.2.2.2.2.2.2.2.1 rfl (lv_at hl 0 rfl) ?_
    refine lv_iload_n hx hb aQX.2.2.2.2.2.2.2.2.1 rfl (lv_at hl 2 rfl) ?_
    have hm := mgk (wc := (aK5 cI cC cZ cB cJ a_m nY sJ eG iY lY jR jW jZ jO oQ bR aY jQ gY iJ mQ lJ jA bG mK jB mW mJ eJ dG bT aG jC bL 0 jD mLn oF rP dQ aJ aB bW bZ aR aE bI aW bU fJ dO bM bQ bO jY oX)) hP aRf 10 rfl rfl rfl
    refine yW hP hD hS hA (yS aRf) (aAi aRf) hm.1 hm.2 (aAk _) (zW _) (zF (As := [.int p1]) (rest := []) C0 hP hD hS (yS aRf) hm.1 (aAl _) 0 10 rfl rfl (aZR l dC dI cI cC cZ cB cJ a_m nY sJ eG iY lY jR jW jZ jO oQ bR aY jQ gY iJ mQ lJ jA bG mK jB mW mJ eJ dG H.size p1 bT aG jC bL 0 jD mLn oF rP dQ aJ aB bW bZ aR aE bI aW bU fJ dO bM bQ bO jY oX _ hp) q_757 q_760 q_758 q_759 aBL aZY rfl rfl ⟨lbz rfl, lbz rfl⟩ rfl rfl hl.1 rfl (lv_room (lbz rfl)) aQX.2.2.2.2.2.2.2.2.2.1 ⟨Nat.zero_le _, Nat.zero_le _⟩) (fun r_2 u H locs hp hP hD hS => ?_)
    have hPD := PDm (ws' := (aU4 cI cC cZ cB cJ a_m nY sJ eG iY lY jR jW jZ jO oQ bR aY jQ gY iJ mQ lJ jA bG mK jB mW mJ eJ dG bT aG jC bL 0 jD mLn oF rP dQ aJ aB bW bZ aR aE bI aW bU fJ dO bM bQ bO jY oX qG m_x gR pW nG oO pJ qO qQ)) hP hD 10 rfl rfl rfl
    have hP := hPD.1
    have hD := hPD.2
    refine lv_if_eq (tgt := 30) hx hb aQX.2.2.2.2.2.2.2.2.2.2.1 (by decide) (fun hc => ?_) (fun hc => ?_)
    · have hp := hp.1 hc
      refine lv_iconst (v := (-1)) hx hb aJh.1 aEJ ?_
      exact W.iret (v := (-1)) hx hb hr (fun t ht hW => ⟨⟨(-1), (0, jD, mLn, oF, rP, dQ, bZ, aR, aE, bI, aW), rfl, hp, by rw [ht]; exact hP, va_K.moved hW.alike hK, hD⟩, hS.F ht⟩) hS.2.2 aJh.2.1
    · have hp := hp.2 hc
      refine lv_iload_n hx hb aQX.2.2.2.2.2.2.2.2.2.2.2.1 rfl (lv_at hl 3 rfl) ?_
      refine lv_iconst (v := 0) hx hb aQX.2.2.2.2.2.2.2.2.2.2.2.2.1 aCi ?_
      refine lv_iconst (v := 1) hx hb aQX.2.2.2.2.2.2.2.2.2.2.2.2.2.1 aDx ?_
      have hm := mgk (wc := (aKW cI cC cZ cB cJ)) hP aGk 10 rfl rfl rfl
      refine yW hP hD hS hA (yS aGk) (aAi aGk) hm.1 hm.2 (aAk _) (zW _) (aDn (As := [.int p2, .int 0, .int 1]) (rest := []) C0 hP hD hS (yS aGk) hm.1 (aAl _) (aRu l dC dI cI cC cZ cB cJ H.size p2 0 1 _ hp) q_641 q_644 q_643 aBL aRx rfl rfl ⟨lbz rfl, lbz rfl⟩ rfl rfl hl.1 rfl (lv_room (lbz rfl)) aQX.2.2.2.2.2.2.2.2.2.2.2.2.2.2.1 ⟨Nat.zero_le _, Nat.zero_le _⟩) (fun r_3 u H locs hp hP hD hS => ?_)
      have hPD := PDm (ws' := (aU4 cI cC cZ cB cJ a_m nY sJ eG iY lY jR jW jZ jO oQ bR aY jQ gY iJ mQ lJ jA bG mK jB mW mJ eJ dG bT aG jC bL 0 jD mLn oF rP dQ aJ aB bW bZ aR aE bI aW bU fJ dO bM bQ bO jY oX qG m_x gR pW nG oO pJ qO qQ)) hP hD 10 rfl rfl rfl
      have hP := hPD.1
      have hD := hPD.2
      refine lv_if_ne (tgt := 32) hx hb aQX.2.2.2.2.2.2.2.2.2.2.2.2.2.2.2 (by decide) (fun hc => ?_) (fun hc => ?_)
      · have hp := hp.1 hc
        refine lv_aload_n hx hb aJh.2.2.1 rfl (lv_at hl 0 rfl) ?_
        refine lv_iload_n hx hb aJh.2.2.2.1 rfl (lv_at hl 1 rfl) ?_
        refine lv_iload_n hx hb aJh.2.2.2.2.1 rfl (lv_at hl 2 rfl) ?_
        refine lv_aload_n hx hb aJh.2.2.2.2.2.1 rfl (lv_at hl 0 rfl) ?_
        refine lv_aload_n hx hb aJh.2.2.2.2.2.2.1 rfl (lv_at hl 0 rfl) ?_
        refine va_get (D := (dC, dI)) (ci := 10) (v := .ref nY) (C := zX) (T := aBe) (N := 51) hx hb hts aAt hown hK hP 0 rfl rfl 0 (lbz rfl) (hts _ aHO) (fun _ h9 => h9) rfl aJh.2.2.2.2.2.2.2.1 ?_
        refine lv_bipush (v := 18) hx hb aJh.2.2.2.2.2.2.2.2.1 bp_18 ?_
        refine va_iald hx hb hK hP 1 0 rfl rfl (g_in rfl) aJh.2.2.2.2.2.2.2.2.2.1 ?_
        refine lv_topi (fun v_4 aHM => ?_)
        have hp := hp v_4 aHM
        refine lv_iload_n hx hb aJh.2.2.2.2.2.2.2.2.2.2.1 rfl (lv_at hl 3 rfl) ?_
        have hm := mgk (wc := (wd_X10_reachBy cI cC cZ cB cJ a_m nY sJ eG iY lY jR jW jZ jO oQ bR aY jQ gY iJ mQ lJ jA bG mK jB mW mJ eJ dG bT aG jC bL 0 jD mLn oF rP dQ aJ aB bW bZ aR aE bI aW bU fJ dO bM bQ bO jY oX pJ)) hP mk_250 10 rfl rfl rfl
        refine yW hP hD hS hA (yS mk_250) (aAi mk_250) hm.1 hm.2 (aAk _) (zW _) (zF (As := [.int v_4, .int p2]) (rest := [.int p1, .int p0, .ref a_m]) C0 hP hD hS (yS mk_250) hm.1 (aAl _) 0 10 rfl rfl (c_X10_reachBy l dC dI cI cC cZ cB cJ a_m nY sJ eG iY lY jR jW jZ jO oQ bR aY jQ gY iJ mQ lJ jA bG mK jB mW mJ eJ dG H.size v_4 p2 bT aG jC bL 0 jD mLn oF rP dQ aJ aB bW bZ aR aE bI aW bU fJ dO bM bQ bO jY oX pJ _ hp) q_795 q_798 q_796 q_797 aBL h_X10_reachBy rfl rfl ⟨lbz rfl, lbz rfl⟩ rfl rfl hl.1 rfl (lv_room (lbz rfl)) aJh.2.2.2.2.2.2.2.2.2.2.2.1 ⟨Nat.zero_le _, Nat.zero_le _⟩) (fun r_5 u H locs hp hP hD hS => ?_)
        have hPD := PDm (ws' := (aU4 cI cC cZ cB cJ a_m nY sJ eG iY lY jR jW jZ jO oQ bR aY jQ gY iJ mQ lJ jA bG mK jB mW mJ eJ dG bT aG jC bL 0 jD mLn oF rP dQ aJ aB bW bZ aR aE bI aW bU fJ dO bM bQ bO jY oX qG m_x gR pW nG oO pJ qO qQ)) hP hD 10 rfl rfl rfl
        have hP := hPD.1
        have hD := hPD.2
        have hm := mgk (wc := (aRp cI cC cZ cB cJ a_m nY sJ eG iY lY jR jW jZ jO oQ bR aY jQ gY iJ mQ lJ jA bG mK jB mW mJ eJ dG bT aG jC bL 0 jD mLn oF rP dQ aJ aB bW bZ aR aE bI aW bU fJ dO bM bQ bO jY oX m_x gR nG oO)) hP mk_251 10 rfl rfl rfl
        refine yW hP hD hS hA (yS mk_251) (aAi mk_251) hm.1 hm.2 (aAk _) (zW _) (zF (As := [.int p0, .int p1, .int r_5]) (rest := []) C0 hP hD hS (yS mk_251) hm.1 (aAl _) 0 10 rfl rfl (c_X10_isWithin l dC dI cI cC cZ cB cJ a_m nY sJ eG iY lY jR jW jZ jO oQ bR aY jQ gY iJ mQ lJ jA bG mK jB mW mJ eJ dG H.size p0 p1 r_5 bT aG jC bL 0 jD mLn oF rP dQ aJ aB bW bZ aR aE bI aW bU fJ dO bM bQ bO jY oX m_x gR nG oO _ hp) q_799 q_802 q_800 q_801 aBL h_X10_isWithin rfl rfl ⟨lbz rfl, lbz rfl⟩ rfl rfl hl.1 rfl (lv_room (lbz rfl)) aJh.2.2.2.2.2.2.2.2.2.2.2.2.1 ⟨Nat.zero_le _, Nat.zero_le _⟩) (fun r_6 u H locs hp hP hD hS => ?_)
        have hPD := PDm (ws' := (aU4 cI cC cZ cB cJ a_m nY sJ eG iY lY jR jW jZ jO oQ bR aY jQ gY iJ mQ lJ jA bG mK jB mW mJ eJ dG bT aG jC bL 0 jD mLn oF rP dQ aJ aB bW bZ aR aE bI aW bU fJ dO bM bQ bO jY oX qG m_x gR pW nG oO pJ qO qQ)) hP hD 10 rfl rfl rfl
        have hP := hPD.1
        have hD := hPD.2
        refine lv_if_eq (tgt := 64) hx hb aJh.2.2.2.2.2.2.2.2.2.2.2.2.2.1 (by decide) (fun hc => ?_) (fun hc => ?_)
        · have hp := hp.1 hc
          refine lv_bipush (v := (-2)) hx hb eX10_seconds_55.2.2.2.2.2.1 bp_m2 ?_
          exact W.iret (v := (-2)) hx hb hr (fun t ht hW => ⟨⟨(-2), (0, jD, mLn, oF, rP, dQ, bZ, aR, aE, bI, aW), rfl, hp, by rw [ht]; exact hP, va_K.moved hW.alike hK, hD⟩, hS.F ht⟩) hS.2.2 eX10_seconds_55.2.2.2.2.2.2
        · have hp := hp.2 hc
          refine lv_aload_n hx hb aJh.2.2.2.2.2.2.2.2.2.2.2.2.2.2.1 rfl (lv_at hl 0 rfl) ?_
          refine lv_iload_n hx hb aJh.2.2.2.2.2.2.2.2.2.2.2.2.2.2.2 rfl (lv_at hl 1 rfl) ?_
          refine lv_iload_n hx hb eX10_seconds_55.1 rfl (lv_at hl 2 rfl) ?_
          refine lv_iload_n hx hb eX10_seconds_55.2.1 rfl (lv_at hl 3 rfl) ?_
          refine lv_iconst (v := 0) hx hb eX10_seconds_55.2.2.1 aCi ?_
          have hm := mgk (wc := (aFV cI cC cZ cB cJ a_m nY sJ eG iY lY jR jW jZ jO oQ bR aY jQ gY iJ mQ lJ jA bG mK jB mW mJ eJ dG bT aG jC bL 0 jD mLn oF rP dQ aJ aB bW bZ aR aE bI aW bU fJ dO bM bQ bO jY oX m_x gR pW nG oO qO qQ)) hP mk_252 10 rfl rfl rfl
          refine yW hP hD hS hA (yS mk_252) (aAi mk_252) hm.1 hm.2 (aAk _) (zW _) (zF (As := [.int p0, .int p1, .int p2, .int 0]) (rest := []) C0 hP hD hS (yS mk_252) hm.1 (aAl _) 0 10 rfl rfl (c_X10_secondsOf l dC dI cI cC cZ cB cJ a_m nY sJ eG iY lY jR jW jZ jO oQ bR aY jQ gY iJ mQ lJ jA bG mK jB mW mJ eJ dG H.size p0 p1 p2 0 bT aG jC bL 0 jD mLn oF rP dQ aJ aB bW bZ aR aE bI aW bU fJ dO bM bQ bO jY oX m_x gR pW nG oO qO qQ _ hp) q_804 q_807 q_805 q_806 aBL h_X10_secondsOf rfl rfl ⟨lbz rfl, lbz rfl⟩ rfl rfl hl.1 rfl (lv_room (lbz rfl)) eX10_seconds_55.2.2.2.1 ⟨Nat.zero_le _, Nat.zero_le _⟩) (fun r_7 u H locs hp hP hD hS => ?_)
          obtain ⟨m_read_8, m_length_9, m_top_10, m_at_11, aVJ, m_isAsked_13, m_askedFruit_14, m_askedStanding_15, m_askedHook_16, m_askedApron_17⟩ := u
          have hPD := PDm (ws' := (aU4 cI cC cZ cB cJ a_m nY sJ eG iY lY jR jW jZ jO oQ bR aY jQ gY iJ mQ lJ jA bG mK jB mW mJ eJ dG bT aG jC bL 0 m_read_8 m_length_9 m_top_10 m_at_11 aVJ aJ aB bW m_isAsked_13 m_askedFruit_14 m_askedStanding_15 m_askedHook_16 m_askedApron_17 bU fJ dO bM bQ bO jY oX qG m_x gR pW nG oO pJ qO qQ)) hP hD 10 rfl rfl rfl
          have hP := hPD.1
          have hD := hPD.2
          refine lv_goto (tgt := 66) hx hb eX10_seconds_55.2.2.2.2.1 (by decide) ?_
          exact W.iret (v := r_7) hx hb hr (fun t ht hW => ⟨⟨r_7, (0, m_read_8, m_length_9, m_top_10, m_at_11, aVJ, m_isAsked_13, m_askedFruit_14, m_askedStanding_15, m_askedHook_16, m_askedApron_17), rfl, hp, by rw [ht]; exact hP, va_K.moved hW.alike hK, hD⟩, hS.F ht⟩) hS.2.2 eX10_seconds_55.2.2.2.2.2.2
      · have hp := hp.2 hc
        refine lv_iconst (v := (-1)) hx hb aJh.1 aEJ ?_
        exact W.iret (v := (-1)) hx hb hr (fun t ht hW => ⟨⟨(-1), (0, jD, mLn, oF, rP, dQ, bZ, aR, aE, bI, aW), rfl, hp, by rw [ht]; exact hP, va_K.moved hW.alike hK, hD⟩, hS.F ht⟩) hS.2.2 aJh.2.1
abbrev aGj (cI cC cZ cB cJ : ClassId) (a_m nY sJ eG iY lY jR jW jZ jO oQ bR aY jQ gY iJ mQ lJ jA bG mK jB mW mJ eJ dG : Nat) (bT aG jC bL bY : Int32) (jD : Nat) (mLn oF rP dQ aJ aB bW bZ aR aE bI aW bU fJ dO bM bQ bO jY oX : Int32) : va_W := [(a_m, .inr (10, [.ref nY, .int bT, .ref sJ, .ref eG, .ref iY, .ref lY, .int aG, .ref jR, .ref jW, .ref jZ, .ref jO, .int jC, .ref oQ, .int bL, .int bY, rdv jO jQ jD, .int mLn, .int oF, .int rP, .int dQ, .ref bR, .ref aY, .int aJ, .int aB, .ref jQ, .int bW, .int bZ, .int aR, .int aE, .int bI, .int aW, .ref gY, .int bU, .ref iJ, .ref mQ, .int fJ, .ref lJ, .int dO, .ref jA, .ref bG, .int bM, .int bQ, .int bO, .ref mK, .ref jB, .ref mW, .int jY, .int oX, .ref mJ, .ref eJ, .ref dG]))]
abbrev q_X10_allStandings (dC : Nat -> ClassId) (dI : Nat -> Nat -> Nat) (cI cC cZ cB cJ : ClassId) (A : Nat -> Prop) (a_m nY sJ eG iY lY jR jW jZ jO oQ bR aY jQ gY iJ mQ lJ jA bG mK jB mW mJ eJ dG : Nat) (bT aG jC bL bY : Int32) (jD : Nat) (mLn oF rP dQ aJ aB bW bZ aR aE bI aW bU fJ dO bM bQ bO jY oX : Int32) (post : Int32 -> Prop) : Array Value -> State -> Outcome -> State -> Prop := va_Qi (fun (r : Int32) (u : Unit) => post r) (fun u t => gB (dC, dI) (tyl cI cC cZ cB cJ) A (aGj cI cC cZ cB cJ a_m nY sJ eG iY lY jR jW jZ jO oQ bR aY jQ gY iJ mQ lJ jA bG mK jB mW mJ eJ dG bT aG jC bL bY jD mLn oF rP dQ aJ aB bW bZ aR aE bI aW bU fJ dO bM bQ bO jY oX) t) A
abbrev rm_X10_allStandings : Room := { frames := 0, cells := 0, slots := 0, locals := 0 }
def aGu (post : Int32 -> Prop) (aG : Int32) : Prop := ∀ v_1 : Int32, v_1 = 1 <<< (aG &&& 31) -> post (v_1 - 1)
set_option maxHeartbeats 4000000 in
set_option maxRecDepth 100000 in
theorem aKY (l : Launch) (dC : Nat -> ClassId) (dI : Nat -> Nat -> Nat) (cI cC cZ cB cJ : ClassId) (a_m nY sJ eG iY lY jR jW jZ jO oQ bR aY jQ gY iJ mQ lJ jA bG mK jB mW mJ eJ dG sz : Nat) (bT aG jC bL bY : Int32) (jD : Nat) (mLn oF rP dQ aJ aB bW bZ aR aE bI aW bU fJ dO bM bQ bO jY oX : Int32) (post : Int32 -> Prop) (hw : aGu post aG) : Met l aVB (gw aVB bA7 1 (some .int)) rm_X10_allStandings (va_Pc [.ref a_m] (gPre (dC, dI) (tyl cI cC cZ cB cJ) (aGj cI cC cZ cB cJ a_m nY sJ eG iY lY jR jW jZ jO oQ bR aY jQ gY iJ mQ lJ jA bG mK jB mW mJ eJ dG bT aG jC bL bY jD mLn oF rP dQ aJ aB bW bZ aR aE bI aW bU fJ dO bM bQ bO jY oX) sz)) (q_X10_allStandings dC dI cI cC cZ cB cJ (va_A (aGj cI cC cZ cB cJ a_m nY sJ eG iY lY jR jW jZ jO oQ bR aY jQ gY iJ mQ lJ jA bG mK jB mW mJ eJ dG bT aG jC bL bY jD mLn oF rP dQ aJ aB bW bZ aR aE bI aW bU fJ dO bM bQ bO jY oX) sz) a_m nY sJ eG iY lY jR jW jZ jO oQ bR aY jQ gY iJ mQ lJ jA bG mK jB mW mJ eJ dG bT aG jC bL bY jD mLn oF rP dQ aJ aB bW bZ aR aE bI aW bU fJ dO bM bQ bO jY oX post) 0 0 (va_A (aGj cI cC cZ cB cJ a_m nY sJ eG iY lY jR jW jZ jO oQ bR aY jQ gY iJ mQ lJ jA bG mK jB mW mJ eJ dG bT aG jC bL bY jD mLn oF rP dQ aJ aB bW bZ aR aE bI aW bU fJ dO bM bQ bO jY oX) sz) := by
  refine aBJ (own := zX) (dC, dI) (tyl cI cC cZ cB cJ) (aGj cI cC cZ cB cJ a_m nY sJ eG iY lY jR jW jZ jO oQ bR aY jQ gY iJ mQ lJ jA bG mK jB mW mJ eJ dG bT aG jC bL bY jD mLn oF rP dQ aJ aB bW bZ aR aE bI aW bU fJ dO bM bQ bO jY oX) sz [.ref a_m] (fun A => q_X10_allStandings dC dI cI cC cZ cB cJ A a_m nY sJ eG iY lY jR jW jZ jO oQ bR aY jQ gY iJ mQ lJ jA bG mK jB mW mJ eJ dG bT aG jC bL bY jD mLn oF rP dQ aJ aB bW bZ aR aE bI aW bU fJ dO bM bQ bO jY oX post) aFY rfl (lbz rfl) ?_
  intro p e s m args below meth c A H locs ls C0 hP hD hS hl
  have hl : lv_has ls 1 [(0, .ref a_m)] := hl
  obtain ⟨hx, hb, hr, hml, hown, hts, hlocks, hA, hK, hN, tL, tM, hZL, hTL, hZM, hTM, hZX⟩ := id C0
  have hp := hw
  unfold aGu at hp
  refine lv_iconst (v := 1) hx hb eX10_allStandings_0.1 aDx ?_
  refine lv_aload_n hx hb eX10_allStandings_0.2.1 rfl (lv_at hl 0 rfl) ?_
  refine va_get (D := (dC, dI)) (ci := 10) (v := .int aG) (C := zX) (T := aBe) (N := 51) hx hb hts aAt hown hK hP 0 rfl rfl 6 (lbz rfl) (hts _ q_666) (fun _ h9 => h9) rfl eX10_allStandings_0.2.2.1 ?_
  refine lv_ishl hx hb eX10_allStandings_0.2.2.2.1 ?_
  refine lv_topi (fun v_1 aFJ => ?_)
  have hp := hp v_1 aFJ
  refine lv_iconst (v := 1) hx hb eX10_allStandings_0.2.2.2.2.1 aDx ?_
  refine lv_isub hx hb eX10_allStandings_0.2.2.2.2.2.1 ?_
  exact W.iret (v := v_1 - 1) hx hb hr (fun t ht hW => ⟨⟨v_1 - 1, (), rfl, hp, by rw [ht]; exact hP, va_K.moved hW.alike hK, hD⟩, hS.F ht⟩) hS.2.2 eX10_allStandings_0.2.2.2.2.2.2
abbrev aH9 (cI cC cZ cB cJ : ClassId) (a_m nY sJ eG iY lY jR jW jZ jO oQ bR aY jQ gY iJ mQ lJ jA bG mK jB mW mJ eJ dG : Nat) (bT aG jC bL bY : Int32) (jD : Nat) (mLn oF rP dQ aJ aB bW bZ aR aE bI aW bU fJ dO bM bQ bO jY oX : Int32) (sH : Nat -> Int32) : va_W := [(a_m, .inr (10, [.ref nY, .int bT, .ref sJ, .ref eG, .ref iY, .ref lY, .int aG, .ref jR, .ref jW, .ref jZ, .ref jO, .int jC, .ref oQ, .int bL, .int bY, rdv jO jQ jD, .int mLn, .int oF, .int rP, .int dQ, .ref bR, .ref aY, .int aJ, .int aB, .ref jQ, .int bW, .int bZ, .int aR, .int aE, .int bI, .int aW, .ref gY, .int bU, .ref iJ, .ref mQ, .int fJ, .ref lJ, .int dO, .ref jA, .ref bG, .int bM, .int bQ, .int bO, .ref mK, .ref jB, .ref mW, .int jY, .int oX, .ref mJ, .ref eJ, .ref dG])), (lJ, .inl (cI, 8, .inl sH))]
abbrev q_X10_handOf (dC : Nat -> ClassId) (dI : Nat -> Nat -> Nat) (cI cC cZ cB cJ : ClassId) (A : Nat -> Prop) (a_m nY sJ eG iY lY jR jW jZ jO oQ bR aY jQ gY iJ mQ lJ jA bG mK jB mW mJ eJ dG : Nat) (bT aG jC bL bY : Int32) (jD : Nat) (mLn oF rP dQ aJ aB bW bZ aR aE bI aW bU fJ dO bM bQ bO jY oX : Int32) (sH : Nat -> Int32) (post : Int32 -> Prop) : Array Value -> State -> Outcome -> State -> Prop := va_Qi (fun (r : Int32) (u : Unit) => post r) (fun u t => gB (dC, dI) (tyl cI cC cZ cB cJ) A (aH9 cI cC cZ cB cJ a_m nY sJ eG iY lY jR jW jZ jO oQ bR aY jQ gY iJ mQ lJ jA bG mK jB mW mJ eJ dG bT aG jC bL bY jD mLn oF rP dQ aJ aB bW bZ aR aE bI aW bU fJ dO bM bQ bO jY oX sH) t) A
abbrev rm_X10_handOf : Room := { frames := 1, cells := 0, slots := 0, locals := 21 }
section S_X10_handOf
variable {p : Program} {l : Launch} {e : Env} {s : State} {m : MethodId} {args : Array Value} {below : List Frame} {meth : Method} {c : Code} {dC : Nat -> ClassId} {dI : Nat -> Nat -> Nat} {cI cC cZ cB cJ : ClassId} {A : Nat -> Prop} {a_m nY sJ eG iY lY jR jW jZ jO oQ bR aY jQ gY iJ mQ lJ jA bG mK jB mW mJ eJ dG : Nat} {bT aG jC bL bY : Int32} {jD : Nat} {mLn oF rP dQ aJ aB bW bZ aR aE bI aW bU fJ dO bM bQ bO jY oX : Int32} {sH : Nat -> Int32} {post : Int32 -> Prop}
def ws_X10_handOf_31 (post : Int32 -> Prop) (K4 : Int32 -> Int32 -> Int32 -> Prop) (aG : Int32) (sH : Nat -> Int32) (x1 x3 k0 k1 : Int32) : Prop := ∀ v_2 : Int32, v_2 = k0 ||| k1 -> ∀ v_3 : Int32, v_3 = x3 + 1 -> K4 x1 v_2 v_3
set_option maxHeartbeats 4000000 in
set_option maxRecDepth 100000 in
theorem ks_X10_handOf_31 (C0 : gc aJZ (some .int) 4 zX (dC, dI) (tyl cI cC cZ cB cJ) A p s m args meth c) {K4 : Int32 -> Int32 -> Int32 -> Prop} (hK4 : ∀ (x1 : Int32) (x2 : Int32) (x3 : Int32) (H : Heap) (locs : List Loc) (ls : Array Slot), K4 x1 x2 x3 -> va_P (dC, dI) classes (aH9 cI cC cZ cB cJ a_m nY sJ eG iY lY jR jW jZ jO oQ bR aY jQ gY iJ mQ lJ jA bG mK jB mW mJ eJ dG bT aG jC bL bY jD mLn oF rP dQ aJ aB bW bZ aR aE bI aW bU fJ dO bM bQ bO jY oX sH) H -> va_D A (aH9 cI cC cZ cB cJ a_m nY sJ eG iY lY jR jW jZ jO oQ bR aY jQ gY iJ mQ lJ jA bG mK jB mW mJ eJ dG bT aG jC bL bY jD mLn oF rP dQ aJ aB bW bZ aR aE bI aW bU fJ dO bM bQ bO jY oX sH) -> va_S A s.heap H locs -> lv_has ls 4 [(0, .ref a_m), (1, .int x1), (2, .int x2), (3, .int x3)] -> W p l e rm_X10_handOf s m args below meth c H locs 0 0 (MQ below (q_X10_handOf dC dI cI cC cZ cB cJ A a_m nY sJ eG iY lY jR jW jZ jO oQ bR aY jQ gY iJ mQ lJ jA bG mK jB mW mJ eJ dG bT aG jC bL bY jD mLn oF rP dQ aJ aB bW bZ aR aE bI aW bU fJ dO bM bQ bO jY oX sH post) args s 0 0 A) (F0 m 4 ls [])) : ∀ (x1 x3 k0 k1 : Int32) (H : Heap) (locs : List Loc) (ls : Array Slot), (ws_X10_handOf_31 post K4 aG sH) x1 x3 k0 k1 -> va_P (dC, dI) classes (aH9 cI cC cZ cB cJ a_m nY sJ eG iY lY jR jW jZ jO oQ bR aY jQ gY iJ mQ lJ jA bG mK jB mW mJ eJ dG bT aG jC bL bY jD mLn oF rP dQ aJ aB bW bZ aR aE bI aW bU fJ dO bM bQ bO jY oX sH) H -> va_D A (aH9 cI cC cZ cB cJ a_m nY sJ eG iY lY jR jW jZ jO oQ bR aY jQ gY iJ mQ lJ jA bG mK jB mW mJ eJ dG bT aG jC bL bY jD mLn oF rP dQ aJ aB bW bZ aR aE bI aW bU fJ dO bM bQ bO jY oX sH) -> va_S A s.heap H locs -> lv_has ls 4 [(0, .ref a_m), (1, .int x1), (3, .int x3)] -> W p l e rm_X10_handOf s m args below meth c H locs 0 0 (MQ below (q_X10_handOf dC dI cI cC cZ cB cJ A a_m nY sJ eG iY lY jR jW jZ jO oQ bR aY jQ gY iJ mQ lJ jA bG mK jB mW mJ eJ dG bT aG jC bL bY jD mLn oF rP dQ aJ aB bW bZ aR aE bI aW bU fJ dO bM bQ bO jY oX sH post) args s 0 0 A) (F0 m 31 ls [.int k1, .int k0]) := by
  obtain ⟨hx, hb, hr, hml, hown, hts, hlocks, hA, hK, hN, tL, tM, hZL, hTL, hZM, hTM, hZX⟩ := id C0
  intro x1 x3 k0 k1 H locs ls hp hP hD hS hl
  unfold ws_X10_handOf_31 at hp
  refine lv_ior hx hb eX10_handOf_26.2.2.2.1 ?_
  refine lv_topi (fun v_2 aGO => ?_)
  have hp := hp v_2 aGO
  refine lv_istore_n (lv' := [(2, .int v_2), (0, .ref a_m), (1, .int x1), (3, .int x3)]) hx hb eX10_handOf_26.2.2.2.2.1 rfl hl (by decide) rfl (fun ls hl => ?_)
  obtain ⟨v_3, aGW⟩ : ∃ y : Int32, y = x3 + 1 := ⟨_, rfl⟩
  refine lv_iinc (v := v_3) (lv' := [(3, .int v_3), (2, .int v_2), (0, .ref a_m), (1, .int x1)]) hx hb eX10_handOf_26.2.2.2.2.2.1 hl (k := 3) rfl (by rw [aGW]; rfl) (by decide) rfl (fun ls hl => ?_)
  have hp := hp v_3 aGW
  refine lv_goto (tgt := 4) hx hb eX10_handOf_26.2.2.2.2.2.2.1 (by decide) ?_
  exact hK4 x1 v_2 v_3 H locs ls hp hP hD hS (lv_sub hl [2, 3, 1, 0] rfl)
def ws_X10_handOf_4 (post : Int32 -> Prop) (next : Int32 -> Int32 -> Int32 -> Prop) (aG : Int32) (sH : Nat -> Int32) (x1 x2 x3 : Int32) : Prop := (aG <= x3 -> post x2) /\ (¬ aG <= x3 -> aKc (fun r_1 => (r_1 = 0 -> ws_X10_handOf_31 post next aG sH x1 x3 x2 0) /\ (¬ r_1 = 0 -> vp_in x3 8 /\ (∀ v_4 : Int32, v_4 = sH x3.toNatClampNeg -> ws_X10_handOf_31 post next aG sH x1 x3 x2 v_4))) x1 x3)
noncomputable def wb_X10_handOf_4 (post : Int32 -> Prop) (aG : Int32) (sH : Nat -> Int32) : Nat -> Int32 -> Int32 -> Int32 -> Prop := fun n => Nat.rec (motive := fun _ => Int32 -> Int32 -> Int32 -> Prop) (fun _ _ _ => False) (fun _ ih => ws_X10_handOf_4 post ih aG sH) n
set_option maxHeartbeats 4000000 in
set_option maxRecDepth 100000 in
theorem ks_X10_handOf_4 (C0 : gc aJZ (some .int) 4 zX (dC, dI) (tyl cI cC cZ cB cJ) A p s m args meth c) {next : Int32 -> Int32 -> Int32 -> Prop} (hKn : ∀ (x1 : Int32) (x2 : Int32) (x3 : Int32) (H : Heap) (locs : List Loc) (ls : Array Slot), next x1 x2 x3 -> va_P (dC, dI) classes (aH9 cI cC cZ cB cJ a_m nY sJ eG iY lY jR jW jZ jO oQ bR aY jQ gY iJ mQ lJ jA bG mK jB mW mJ eJ dG bT aG jC bL bY jD mLn oF rP dQ aJ aB bW bZ aR aE bI aW bU fJ dO bM bQ bO jY oX sH) H -> va_D A (aH9 cI cC cZ cB cJ a_m nY sJ eG iY lY jR jW jZ jO oQ bR aY jQ gY iJ mQ lJ jA bG mK jB mW mJ eJ dG bT aG jC bL bY jD mLn oF rP dQ aJ aB bW bZ aR aE bI aW bU fJ dO bM bQ bO jY oX sH) -> va_S A s.heap H locs -> lv_has ls 4 [(0, .ref a_m), (1, .int x1), (2, .int x2), (3, .int x3)] -> W p l e rm_X10_handOf s m args below meth c H locs 0 0 (MQ below (q_X10_handOf dC dI cI cC cZ cB cJ A a_m nY sJ eG iY lY jR jW jZ jO oQ bR aY jQ gY iJ mQ lJ jA bG mK jB mW mJ eJ dG bT aG jC bL bY jD mLn oF rP dQ aJ aB bW bZ aR aE bI aW bU fJ dO bM bQ bO jY oX sH post) args s 0 0 A) (F0 m 4 ls [])) : ∀ (x1 x2 x3 : Int32) (H : Heap) (locs : List Loc) (ls : Array Slot), (ws_X10_handOf_4 post next aG sH) x1 x2 x3 -> va_P (dC, dI) classes (aH9 cI cC cZ cB cJ a_m nY sJ eG iY lY jR jW jZ jO oQ bR aY jQ gY iJ mQ lJ jA bG mK jB mW mJ eJ dG bT aG jC bL bY jD mLn oF rP dQ aJ aB bW bZ aR aE bI aW bU fJ dO bM bQ bO jY oX sH) H -> va_D A (aH9 cI cC cZ cB cJ a_m nY sJ eG iY lY jR jW jZ jO oQ bR aY jQ gY iJ mQ lJ jA bG mK jB mW mJ eJ dG bT aG jC bL bY jD mLn oF rP dQ aJ aB bW bZ aR aE bI aW bU fJ dO bM bQ bO jY oX sH) -> va_S A s.heap H locs -> lv_has ls 4 [(0, .ref a_m), (1, .int x1), (2, .int x2), (3, .int x3)] -> W p l e rm_X10_handOf s m args below meth c H locs 0 0 (MQ below (q_X10_handOf dC dI cI cC cZ cB cJ A a_m nY sJ eG iY lY jR jW jZ jO oQ bR aY jQ gY iJ mQ lJ jA bG mK jB mW mJ eJ dG bT aG jC bL bY jD mLn oF rP dQ aJ aB bW bZ aR aE bI aW bU fJ dO bM bQ bO jY oX sH post) args s 0 0 A) (F0 m 4 ls []) := by
  obtain ⟨hx, hb, hr, hml, hown, hts, hlocks, hA, hK, hN, tL, tM, hZL, hTL, hZM, hTM, hZX⟩ := id C0
  intro x1 x2 x3 H locs ls hp hP hD hS hl
  unfold ws_X10_handOf_4 at hp
  refine lv_iload_n hx hb aSv.2.2.2.2.1 rfl (lv_at hl 3 rfl) ?_
  refine lv_aload_n hx hb aSv.2.2.2.2.2.1 rfl (lv_at hl 0 rfl) ?_
  refine va_get (D := (dC, dI)) (ci := 10) (v := .int aG) (C := zX) (T := aBe) (N := 51) hx hb hts aAt hown hK hP 0 rfl rfl 6 (lbz rfl) (hts _ q_666) (fun _ h9 => h9) rfl aSv.2.2.2.2.2.2.1 ?_
  refine lv_icmp_ge (tgt := 39) hx hb aSv.2.2.2.2.2.2.2.1 (by decide) (fun hc => ?_) (fun hc => ?_)
  · have hp := hp.1 hc
    refine lv_iload_n hx hb eX10_handOf_26.2.2.2.2.2.2.2.1 rfl (lv_at hl 2 rfl) ?_
    exact W.iret (v := x2) hx hb hr (fun t ht hW => ⟨⟨x2, (), rfl, hp, by rw [ht]; exact hP, va_K.moved hW.alike hK, hD⟩, hS.F ht⟩) hS.2.2 eX10_handOf_26.2.2.2.2.2.2.2.2
  · have hp := hp.2 hc
    refine lv_iload_n hx hb aSv.2.2.2.2.2.2.2.2.1 rfl (lv_at hl 2 rfl) ?_
    refine lv_iload_n hx hb aSv.2.2.2.2.2.2.2.2.2.1 rfl (lv_at hl 1 rfl) ?_
    refine lv_iload_n hx hb aSv.2.2.2.2.2.2.2.2.2.2.1 rfl (lv_at hl 3 rfl) ?_
    refine yW (wc := (aLW cI cC cZ cB cJ)) hP hD hS hA [] [0, 1] rfl rfl rfl rfl (aDn (As := [.int x1, .int x3]) (rest := [.int x2]) C0 hP hD hS [] rfl rfl (aUP l dC dI cI cC cZ cB cJ H.size x1 x3 _ hp) q_734 q_736 q_735 aBL aUT rfl rfl ⟨lbz rfl, lbz rfl⟩ rfl rfl hl.1 rfl (lv_room (lbz rfl)) aSv.2.2.2.2.2.2.2.2.2.2.2.1 ⟨Nat.zero_le _, Nat.zero_le _⟩) (fun r_1 u H locs hp hP hD hS => ?_)
    have hPD := PDs (ws' := (aH9 cI cC cZ cB cJ a_m nY sJ eG iY lY jR jW jZ jO oQ bR aY jQ gY iJ mQ lJ jA bG mK jB mW mJ eJ dG bT aG jC bL bY jD mLn oF rP dQ aJ aB bW bZ aR aE bI aW bU fJ dO bM bQ bO jY oX sH)) hP hD [0, 1] (by decide) rfl
    have hP := hPD.1
    have hD := hPD.2
    refine lv_if_eq (tgt := 30) hx hb aSv.2.2.2.2.2.2.2.2.2.2.2.2.1 (by decide) (fun hc => ?_) (fun hc => ?_)
    · have hp := hp.1 hc
      refine lv_iconst (v := 0) hx hb eX10_handOf_26.2.2.1 aCi ?_
      exact ks_X10_handOf_31 C0 hKn x1 x3 x2 0 H locs ls hp hP hD hS (lv_sub hl [0, 1, 3] rfl)
    · have hp := hp.2 hc
      refine lv_aload_n hx hb aSv.2.2.2.2.2.2.2.2.2.2.2.2.2.1 rfl (lv_at hl 0 rfl) ?_
      refine va_get (D := (dC, dI)) (ci := 10) (v := .ref lJ) (C := zX) (T := aBe) (N := 51) hx hb hts aAt hown hK hP 0 rfl rfl 36 (lbz rfl) (hts _ q_869) (fun _ h9 => h9) rfl aSv.2.2.2.2.2.2.2.2.2.2.2.2.2.2.1 ?_
      refine lv_iload_n hx hb aSv.2.2.2.2.2.2.2.2.2.2.2.2.2.2.2 rfl (lv_at hl 3 rfl) ?_
      have hin := hp.1
      have hp := hp.2
      refine va_iald hx hb hK hP 1 0 rfl rfl hin eX10_handOf_26.1 ?_
      refine lv_topi (fun v_4 aHM => ?_)
      have hp := hp v_4 aHM
      refine lv_goto (tgt := 31) hx hb eX10_handOf_26.2.1 (by decide) ?_
      exact ks_X10_handOf_31 C0 hKn x1 x3 x2 v_4 H locs ls hp hP hD hS (lv_sub hl [0, 1, 3] rfl)
set_option maxHeartbeats 4000000 in
set_option maxRecDepth 100000 in
theorem kb_X10_handOf_4 (C0 : gc aJZ (some .int) 4 zX (dC, dI) (tyl cI cC cZ cB cJ) A p s m args meth c) : ∀ (n : Nat), ∀ (x1 x2 x3 : Int32) (H : Heap) (locs : List Loc) (ls : Array Slot), (wb_X10_handOf_4 post aG sH n) x1 x2 x3 -> va_P (dC, dI) classes (aH9 cI cC cZ cB cJ a_m nY sJ eG iY lY jR jW jZ jO oQ bR aY jQ gY iJ mQ lJ jA bG mK jB mW mJ eJ dG bT aG jC bL bY jD mLn oF rP dQ aJ aB bW bZ aR aE bI aW bU fJ dO bM bQ bO jY oX sH) H -> va_D A (aH9 cI cC cZ cB cJ a_m nY sJ eG iY lY jR jW jZ jO oQ bR aY jQ gY iJ mQ lJ jA bG mK jB mW mJ eJ dG bT aG jC bL bY jD mLn oF rP dQ aJ aB bW bZ aR aE bI aW bU fJ dO bM bQ bO jY oX sH) -> va_S A s.heap H locs -> lv_has ls 4 [(0, .ref a_m), (1, .int x1), (2, .int x2), (3, .int x3)] -> W p l e rm_X10_handOf s m args below meth c H locs 0 0 (MQ below (q_X10_handOf dC dI cI cC cZ cB cJ A a_m nY sJ eG iY lY jR jW jZ jO oQ bR aY jQ gY iJ mQ lJ jA bG mK jB mW mJ eJ dG bT aG jC bL bY jD mLn oF rP dQ aJ aB bW bZ aR aE bI aW bU fJ dO bM bQ bO jY oX sH post) args s 0 0 A) (F0 m 4 ls []) := by
  intro n
  induction n with
  | zero =>
    intro x1 x2 x3 H locs ls hp
    exact False.elim hp
  | succ n ih =>
    intro x1 x2 x3 H locs ls hp
    exact ks_X10_handOf_4 C0 ih x1 x2 x3 H locs ls hp
end S_X10_handOf
def aRt (post : Int32 -> Prop) (p0 aG : Int32) (sH : Nat -> Int32) : Prop := ∃ n : Nat, wb_X10_handOf_4 post aG sH n p0 0 0
set_option maxHeartbeats 4000000 in
set_option maxRecDepth 100000 in
theorem c_X10_handOf (l : Launch) (dC : Nat -> ClassId) (dI : Nat -> Nat -> Nat) (cI cC cZ cB cJ : ClassId) (a_m nY sJ eG iY lY jR jW jZ jO oQ bR aY jQ gY iJ mQ lJ jA bG mK jB mW mJ eJ dG sz : Nat) (p0 bT aG jC bL bY : Int32) (jD : Nat) (mLn oF rP dQ aJ aB bW bZ aR aE bI aW bU fJ dO bM bQ bO jY oX : Int32) (sH : Nat -> Int32) (post : Int32 -> Prop) (hw : aRt post p0 aG sH) : Met l yX10_handOf (gw yX10_handOf aJZ 4 (some .int)) rm_X10_handOf (va_Pc [.ref a_m, .int p0] (gPre (dC, dI) (tyl cI cC cZ cB cJ) (aH9 cI cC cZ cB cJ a_m nY sJ eG iY lY jR jW jZ jO oQ bR aY jQ gY iJ mQ lJ jA bG mK jB mW mJ eJ dG bT aG jC bL bY jD mLn oF rP dQ aJ aB bW bZ aR aE bI aW bU fJ dO bM bQ bO jY oX sH) sz)) (q_X10_handOf dC dI cI cC cZ cB cJ (va_A (aH9 cI cC cZ cB cJ a_m nY sJ eG iY lY jR jW jZ jO oQ bR aY jQ gY iJ mQ lJ jA bG mK jB mW mJ eJ dG bT aG jC bL bY jD mLn oF rP dQ aJ aB bW bZ aR aE bI aW bU fJ dO bM bQ bO jY oX sH) sz) a_m nY sJ eG iY lY jR jW jZ jO oQ bR aY jQ gY iJ mQ lJ jA bG mK jB mW mJ eJ dG bT aG jC bL bY jD mLn oF rP dQ aJ aB bW bZ aR aE bI aW bU fJ dO bM bQ bO jY oX sH post) 0 0 (va_A (aH9 cI cC cZ cB cJ a_m nY sJ eG iY lY jR jW jZ jO oQ bR aY jQ gY iJ mQ lJ jA bG mK jB mW mJ eJ dG bT aG jC bL bY jD mLn oF rP dQ aJ aB bW bZ aR aE bI aW bU fJ dO bM bQ bO jY oX sH) sz) := by
  refine aBJ (own := zX) (dC, dI) (tyl cI cC cZ cB cJ) (aH9 cI cC cZ cB cJ a_m nY sJ eG iY lY jR jW jZ jO oQ bR aY jQ gY iJ mQ lJ jA bG mK jB mW mJ eJ dG bT aG jC bL bY jD mLn oF rP dQ aJ aB bW bZ aR aE bI aW bU fJ dO bM bQ bO jY oX sH) sz [.ref a_m, .int p0] (fun A => q_X10_handOf dC dI cI cC cZ cB cJ A a_m nY sJ eG iY lY jR jW jZ jO oQ bR aY jQ gY iJ mQ lJ jA bG mK jB mW mJ eJ dG bT aG jC bL bY jD mLn oF rP dQ aJ aB bW bZ aR aE bI aW bU fJ dO bM bQ bO jY oX sH post) aFY rfl (lbz rfl) ?_
  intro p e s m args below meth c A H locs ls C0 hP hD hS hl
  have hl : lv_has ls 4 [(0, .ref a_m), (1, .int p0)] := hl
  obtain ⟨hx, hb, hr, hml, hown, hts, hlocks, hA, hK, hN, tL, tM, hZL, hTL, hZM, hTM, hZX⟩ := id C0
  have hp := hw
  unfold aRt at hp
  refine lv_iconst (v := 0) hx hb aSv.1 aCi ?_
  refine lv_istore_n (lv' := [(2, .int 0), (0, .ref a_m), (1, .int p0)]) hx hb aSv.2.1 rfl hl (by decide) rfl (fun ls hl => ?_)
  refine lv_iconst (v := 0) hx hb aSv.2.2.1 aCi ?_
  refine lv_istore_n (lv' := [(3, .int 0), (2, .int 0), (0, .ref a_m), (1, .int p0)]) hx hb aSv.2.2.2.1 rfl hl (by decide) rfl (fun ls hl => ?_)
  obtain ⟨n9, hp⟩ := hp
  exact kb_X10_handOf_4 C0 n9 p0 0 0 H locs ls hp hP hD hS (lv_sub hl [2, 3, 1, 0] rfl)
abbrev aHP (cI cC cZ cB cJ : ClassId) (a_m nY sJ eG iY lY jR jW jZ jO oQ bR aY jQ gY iJ mQ lJ jA bG mK jB mW mJ eJ dG : Nat) (bT aG jC bL bY : Int32) (jD : Nat) (mLn oF rP dQ aJ aB bW bZ aR aE bI aW bU fJ dO bM bQ bO jY oX : Int32) (qG m_x gR qR nG oO pJ sH : Nat -> Int32) : va_W := [(a_m, .inr (10, [.ref nY, .int bT, .ref sJ, .ref eG, .ref iY, .ref lY, .int aG, .ref jR, .ref jW, .ref jZ, .ref jO, .int jC, .ref oQ, .int bL, .int bY, rdv jO jQ jD, .int mLn, .int oF, .int rP, .int dQ, .ref bR, .ref aY, .int aJ, .int aB, .ref jQ, .int bW, .int bZ, .int aR, .int aE, .int bI, .int aW, .ref gY, .int bU, .ref iJ, .ref mQ, .int fJ, .ref lJ, .int dO, .ref jA, .ref bG, .int bM, .int bQ, .int bO, .ref mK, .ref jB, .ref mW, .int jY, .int oX, .ref mJ, .ref eJ, .ref dG])), (nY, .inl (cI, 21, .inl qG)), (sJ, .inl (cI, 16, .inl m_x)), (eG, .inl (cI, 16, .inl gR)), (lY, .inl (cI, 16, .inl qR)), (jR, .inl (cI, 8, .inl nG)), (jW, .inl (cI, 8, .inl oO)), (jZ, .inl (cI, 5, .inl pJ)), (lJ, .inl (cI, 8, .inl sH))]
abbrev q_X10_layHands_ (dC : Nat -> ClassId) (dI : Nat -> Nat -> Nat) (cI cC cZ cB cJ : ClassId) (A : Nat -> Prop) (a_m nY sJ eG iY lY jR jW jZ jO oQ bR aY jQ gY iJ mQ lJ jA bG mK jB mW mJ eJ dG : Nat) (bT aG jC bL bY : Int32) (jD : Nat) (mLn oF rP dQ aJ aB bW bZ aR aE bI aW bU fJ bM bQ bO jY oX : Int32) (qG m_x gR qR nG oO pJ : Nat -> Int32) (post : Int32 -> (Nat -> Int32) -> Prop) : Array Value -> State -> Outcome -> State -> Prop := va_Qv (fun (u : Int32 × (Nat -> Int32)) => post u.1 u.2) (fun u t => gB (dC, dI) (tyl cI cC cZ cB cJ) A (aHP cI cC cZ cB cJ a_m nY sJ eG iY lY jR jW jZ jO oQ bR aY jQ gY iJ mQ lJ jA bG mK jB mW mJ eJ dG bT aG jC bL bY jD mLn oF rP dQ aJ aB bW bZ aR aE bI aW bU fJ u.1 bM bQ bO jY oX qG m_x gR qR nG oO pJ u.2) t) A
abbrev rm_X10_layHands_ : Room := { frames := 4, cells := 0, slots := 0, locals := 91 }
section S_X10_layHands_
variable {p : Program} {l : Launch} {e : Env} {s : State} {m : MethodId} {args : Array Value} {below : List Frame} {meth : Method} {c : Code} {dC : Nat -> ClassId} {dI : Nat -> Nat -> Nat} {cI cC cZ cB cJ : ClassId} {A : Nat -> Prop} {a_m nY sJ eG iY lY jR jW jZ jO oQ bR aY jQ gY iJ mQ lJ jA bG mK jB mW mJ eJ dG : Nat} {bT aG jC bL bY : Int32} {jD : Nat} {mLn oF rP dQ aJ aB bW bZ aR aE bI aW bU fJ bM bQ bO jY oX : Int32} {qG m_x gR qR nG oO pJ : Nat -> Int32} {post : Int32 -> (Nat -> Int32) -> Prop}
def ws_X10_layHands__2 (post : Int32 -> (Nat -> Int32) -> Prop) (next : Int32 -> Int32 -> Int32 -> (Nat -> Int32) -> Prop) (bT aG : Int32) (qG m_x gR qR nG oO pJ : Nat -> Int32) (x1 x2 dO : Int32) (sH : Nat -> Int32) : Prop := (aG <= x2 -> aIB (fun r_1 => ∀ v_2 : Int32, v_2 = qG (19 : Int32).toNatClampNeg -> aLg (fun r_3 => ∀ v_4 : Int32, v_4 = r_1 &&& r_3 -> aGu (fun r_5 => aRt (fun r_6 => ∀ v_7 : Int32, v_7 = v_4 &&& r_6 -> post v_7 sH) r_5 aG sH) aG) v_2 bT qR) 0 bT qG) /\ (¬ aG <= x2 -> aJz (fun r_8 => vp_in x2 8 /\ (∀ v_9 : Int32, v_9 = x2 + 1 -> next x1 v_9 dO (upd sH x2.toNatClampNeg r_8))) x2 x1 0 bT m_x gR nG oO pJ)
noncomputable def wb_X10_layHands__2 (post : Int32 -> (Nat -> Int32) -> Prop) (bT aG : Int32) (qG m_x gR qR nG oO pJ : Nat -> Int32) : Nat -> Int32 -> Int32 -> Int32 -> (Nat -> Int32) -> Prop := fun n => Nat.rec (motive := fun _ => Int32 -> Int32 -> Int32 -> (Nat -> Int32) -> Prop) (fun _ _ _ _ => False) (fun _ ih => ws_X10_layHands__2 post ih bT aG qG m_x gR qR nG oO pJ) n
set_option maxHeartbeats 4000000 in
set_option maxRecDepth 100000 in
theorem ks_X10_layHands__2 (C0 : gc aDw none 3 zX (dC, dI) (tyl cI cC cZ cB cJ) A p s m args meth c) {next : Int32 -> Int32 -> Int32 -> (Nat -> Int32) -> Prop} (hKn : ∀ (x1 : Int32) (x2 : Int32) (dO : Int32) (sH : Nat -> Int32) (H : Heap) (locs : List Loc) (ls : Array Slot), next x1 x2 dO sH -> va_P (dC, dI) classes (aHP cI cC cZ cB cJ a_m nY sJ eG iY lY jR jW jZ jO oQ bR aY jQ gY iJ mQ lJ jA bG mK jB mW mJ eJ dG bT aG jC bL bY jD mLn oF rP dQ aJ aB bW bZ aR aE bI aW bU fJ dO bM bQ bO jY oX qG m_x gR qR nG oO pJ sH) H -> va_D A (aHP cI cC cZ cB cJ a_m nY sJ eG iY lY jR jW jZ jO oQ bR aY jQ gY iJ mQ lJ jA bG mK jB mW mJ eJ dG bT aG jC bL bY jD mLn oF rP dQ aJ aB bW bZ aR aE bI aW bU fJ dO bM bQ bO jY oX qG m_x gR qR nG oO pJ sH) -> va_S A s.heap H locs -> lv_has ls 3 [(0, .ref a_m), (1, .int x1), (2, .int x2)] -> W p l e rm_X10_layHands_ s m args below meth c H locs 0 0 (MQ below (q_X10_layHands_ dC dI cI cC cZ cB cJ A a_m nY sJ eG iY lY jR jW jZ jO oQ bR aY jQ gY iJ mQ lJ jA bG mK jB mW mJ eJ dG bT aG jC bL bY jD mLn oF rP dQ aJ aB bW bZ aR aE bI aW bU fJ bM bQ bO jY oX qG m_x gR qR nG oO pJ post) args s 0 0 A) (F0 m 2 ls [])) : ∀ (x1 x2 dO : Int32) (sH : Nat -> Int32) (H : Heap) (locs : List Loc) (ls : Array Slot), (ws_X10_layHands__2 post next bT aG qG m_x gR qR nG oO pJ) x1 x2 dO sH -> va_P (dC, dI) classes (aHP cI cC cZ cB cJ a_m nY sJ eG iY lY jR jW jZ jO oQ bR aY jQ gY iJ mQ lJ jA bG mK jB mW mJ eJ dG bT aG jC bL bY jD mLn oF rP dQ aJ aB bW bZ aR aE bI aW bU fJ dO bM bQ bO jY oX qG m_x gR qR nG oO pJ sH) H -> va_D A (aHP cI cC cZ cB cJ a_m nY sJ eG iY lY jR jW jZ jO oQ bR aY jQ gY iJ mQ lJ jA bG mK jB mW mJ eJ dG bT aG jC bL bY jD mLn oF rP dQ aJ aB bW bZ aR aE bI aW bU fJ dO bM bQ bO jY oX qG m_x gR qR nG oO pJ sH) -> va_S A s.heap H locs -> lv_has ls 3 [(0, .ref a_m), (1, .int x1), (2, .int x2)] -> W p l e rm_X10_layHands_ s m args below meth c H locs 0 0 (MQ below (q_X10_layHands_ dC dI cI cC cZ cB cJ A a_m nY sJ eG iY lY jR jW jZ jO oQ bR aY jQ gY iJ mQ lJ jA bG mK jB mW mJ eJ dG bT aG jC bL bY jD mLn oF rP dQ aJ aB bW bZ aR aE bI aW bU fJ bM bQ bO jY oX qG m_x gR qR nG oO pJ post) args s 0 0 A) (F0 m 2 ls []) := by
  obtain ⟨hx, hb, hr, hml, hown, hts, hlocks, hA, hK, hN, tL, tM, hZL, hTL, hZM, hTM, hZX⟩ := id C0
  intro x1 x2 dO sH H locs ls hp hP hD hS hl
  unfold ws_X10_layHands__2 at hp
  refine lv_iload_n hx hb aMA.2.2.1 rfl (lv_at hl 2 rfl) ?_
  refine lv_aload_n hx hb aMA.2.2.2.1 rfl (lv_at hl 0 rfl) ?_
  refine va_get (D := (dC, dI)) (ci := 10) (v := .int aG) (C := zX) (T := aBe) (N := 51) hx hb hts aAt hown hK hP 0 rfl rfl 6 (lbz rfl) (hts _ q_666) (fun _ h9 => h9) rfl aMA.2.2.2.2.1 ?_
  refine lv_icmp_ge (tgt := 29) hx hb aMA.2.2.2.2.2.1 (by decide) (fun hc => ?_) (fun hc => ?_)
  · have hp := hp.1 hc
    refine lv_aload_n hx hb aKi.2.1 rfl (lv_at hl 0 rfl) ?_
    refine lv_aload_n hx hb aKi.2.2.1 rfl (lv_at hl 0 rfl) ?_
    refine lv_aload_n hx hb aKi.2.2.2.1 rfl (lv_at hl 0 rfl) ?_
    refine va_get (D := (dC, dI)) (ci := 10) (v := .ref nY) (C := zX) (T := aBe) (N := 51) hx hb hts aAt hown hK hP 0 rfl rfl 0 (lbz rfl) (hts _ aHO) (fun _ h9 => h9) rfl aKi.2.2.2.2.1 ?_
    refine lv_iconst (v := 0) hx hb aKi.2.2.2.2.2.1 aCi ?_
    have hm := mgk (wc := (aGS cI cC cZ cB cJ a_m nY sJ eG iY lY jR jW jZ jO oQ bR aY jQ gY iJ mQ lJ jA bG mK jB mW mJ eJ dG bT aG jC bL bY jD mLn oF rP dQ aJ aB bW bZ aR aE bI aW bU fJ dO bM bQ bO jY oX qG)) hP mk_5 9 rfl rfl rfl
    refine yW hP hD hS hA (yS mk_5) (aAi mk_5) hm.1 hm.2 (aAk _) (zW _) (zF (As := [.ref nY, .int 0]) (rest := [.ref a_m]) C0 hP hD hS (yS mk_5) hm.1 (aAl _) 0 10 rfl rfl (aRP l dC dI cI cC cZ cB cJ a_m nY sJ eG iY lY jR jW jZ jO oQ bR aY jQ gY iJ mQ lJ jA bG mK jB mW mJ eJ dG H.size 0 bT aG jC bL bY jD mLn oF rP dQ aJ aB bW bZ aR aE bI aW bU fJ dO bM bQ bO jY oX qG _ hp) q_749 q_752 q_750 q_751 aBL aRR rfl rfl ⟨lbz rfl, lbz rfl⟩ rfl rfl hl.1 rfl (lv_room (lbz rfl)) aKi.2.2.2.2.2.2.1 ⟨Nat.zero_le _, Nat.zero_le _⟩) (fun r_1 u H locs hp hP hD hS => ?_)
    have hPD := PDm (ws' := (aHP cI cC cZ cB cJ a_m nY sJ eG iY lY jR jW jZ jO oQ bR aY jQ gY iJ mQ lJ jA bG mK jB mW mJ eJ dG bT aG jC bL bY jD mLn oF rP dQ aJ aB bW bZ aR aE bI aW bU fJ dO bM bQ bO jY oX qG m_x gR qR nG oO pJ sH)) hP hD 9 rfl rfl rfl
    have hP := hPD.1
    have hD := hPD.2
    refine lv_aload_n hx hb aKi.2.2.2.2.2.2.2.1 rfl (lv_at hl 0 rfl) ?_
    refine lv_aload_n hx hb aKi.2.2.2.2.2.2.2.2.1 rfl (lv_at hl 0 rfl) ?_
    refine va_get (D := (dC, dI)) (ci := 10) (v := .ref nY) (C := zX) (T := aBe) (N := 51) hx hb hts aAt hown hK hP 0 rfl rfl 0 (lbz rfl) (hts _ aHO) (fun _ h9 => h9) rfl aKi.2.2.2.2.2.2.2.2.2.1 ?_
    refine lv_bipush (v := 19) hx hb aKi.2.2.2.2.2.2.2.2.2.2.1 bp_19 ?_
    refine va_iald hx hb hK hP 1 0 rfl rfl (g_in rfl) aKi.2.2.2.2.2.2.2.2.2.2.2.1 ?_
    refine lv_topi (fun v_2 aGO => ?_)
    have hp := hp v_2 aGO
    have hm := mgk (wc := (aHf cI cC cZ cB cJ a_m nY sJ eG iY lY jR jW jZ jO oQ bR aY jQ gY iJ mQ lJ jA bG mK jB mW mJ eJ dG bT aG jC bL bY jD mLn oF rP dQ aJ aB bW bZ aR aE bI aW bU fJ dO bM bQ bO jY oX qR)) hP mk_245 9 rfl rfl rfl
    refine yW hP hD hS hA (yS mk_245) (aAi mk_245) hm.1 hm.2 (aAk _) (zW _) (zF (As := [.int v_2]) (rest := [.int r_1, .ref a_m]) C0 hP hD hS (yS mk_245) hm.1 (aAl _) 0 10 rfl rfl (c_X10_ripeOnes l dC dI cI cC cZ cB cJ a_m nY sJ eG iY lY jR jW jZ jO oQ bR aY jQ gY iJ mQ lJ jA bG mK jB mW mJ eJ dG H.size v_2 bT aG jC bL bY jD mLn oF rP dQ aJ aB bW bZ aR aE bI aW bU fJ dO bM bQ bO jY oX qR _ hp) q_828 q_831 q_829 q_830 aBL h_X10_ripeOnes rfl rfl ⟨lbz rfl, lbz rfl⟩ rfl rfl hl.1 rfl (lv_room (lbz rfl)) aKi.2.2.2.2.2.2.2.2.2.2.2.2.1 ⟨Nat.zero_le _, Nat.zero_le _⟩) (fun r_3 u H locs hp hP hD hS => ?_)
    have hPD := PDm (ws' := (aHP cI cC cZ cB cJ a_m nY sJ eG iY lY jR jW jZ jO oQ bR aY jQ gY iJ mQ lJ jA bG mK jB mW mJ eJ dG bT aG jC bL bY jD mLn oF rP dQ aJ aB bW bZ aR aE bI aW bU fJ dO bM bQ bO jY oX qG m_x gR qR nG oO pJ sH)) hP hD 9 rfl rfl rfl
    have hP := hPD.1
    have hD := hPD.2
    refine lv_iand hx hb aKi.2.2.2.2.2.2.2.2.2.2.2.2.2.1 ?_
    refine lv_topi (fun v_4 aHM => ?_)
    have hp := hp v_4 aHM
    refine lv_aload_n hx hb aKi.2.2.2.2.2.2.2.2.2.2.2.2.2.2.1 rfl (lv_at hl 0 rfl) ?_
    refine lv_aload_n hx hb aKi.2.2.2.2.2.2.2.2.2.2.2.2.2.2.2 rfl (lv_at hl 0 rfl) ?_
    have hm := mgk (wc := (aGj cI cC cZ cB cJ a_m nY sJ eG iY lY jR jW jZ jO oQ bR aY jQ gY iJ mQ lJ jA bG mK jB mW mJ eJ dG bT aG jC bL bY jD mLn oF rP dQ aJ aB bW bZ aR aE bI aW bU fJ dO bM bQ bO jY oX)) hP mk_6 9 rfl rfl rfl
    refine yW hP hD hS hA (yS mk_6) (aAi mk_6) hm.1 hm.2 (aAk _) (zW _) (zF (As := []) (rest := [.ref a_m, .int v_4, .ref a_m]) C0 hP hD hS (yS mk_6) hm.1 (aAl _) 0 10 rfl rfl (aKY l dC dI cI cC cZ cB cJ a_m nY sJ eG iY lY jR jW jZ jO oQ bR aY jQ gY iJ mQ lJ jA bG mK jB mW mJ eJ dG H.size bT aG jC bL bY jD mLn oF rP dQ aJ aB bW bZ aR aE bI aW bU fJ dO bM bQ bO jY oX _ hp) q_870 q_873 q_871 q_872 aBL aKa rfl rfl ⟨lbz rfl, lbz rfl⟩ rfl rfl hl.1 rfl (lv_room (lbz rfl)) eX10_layHands__53.1 ⟨Nat.zero_le _, Nat.zero_le _⟩) (fun r_5 u H locs hp hP hD hS => ?_)
    have hPD := PDm (ws' := (aHP cI cC cZ cB cJ a_m nY sJ eG iY lY jR jW jZ jO oQ bR aY jQ gY iJ mQ lJ jA bG mK jB mW mJ eJ dG bT aG jC bL bY jD mLn oF rP dQ aJ aB bW bZ aR aE bI aW bU fJ dO bM bQ bO jY oX qG m_x gR qR nG oO pJ sH)) hP hD 9 rfl rfl rfl
    have hP := hPD.1
    have hD := hPD.2
    have hm := mgk (wc := (aH9 cI cC cZ cB cJ a_m nY sJ eG iY lY jR jW jZ jO oQ bR aY jQ gY iJ mQ lJ jA bG mK jB mW mJ eJ dG bT aG jC bL bY jD mLn oF rP dQ aJ aB bW bZ aR aE bI aW bU fJ dO bM bQ bO jY oX sH)) hP mk_246 9 rfl rfl rfl
    refine yW hP hD hS hA (yS mk_246) (aAi mk_246) hm.1 hm.2 (aAk _) (zW _) (zF (As := [.int r_5]) (rest := [.int v_4, .ref a_m]) C0 hP hD hS (yS mk_246) hm.1 (aAl _) 0 10 rfl rfl (c_X10_handOf l dC dI cI cC cZ cB cJ a_m nY sJ eG iY lY jR jW jZ jO oQ bR aY jQ gY iJ mQ lJ jA bG mK jB mW mJ eJ dG H.size r_5 bT aG jC bL bY jD mLn oF rP dQ aJ aB bW bZ aR aE bI aW bU fJ dO bM bQ bO jY oX sH _ hp) q_874 q_877 q_875 q_876 aBL h_X10_handOf rfl rfl ⟨lbz rfl, lbz rfl⟩ rfl rfl hl.1 rfl (lv_room (lbz rfl)) eX10_layHands__53.2.1 ⟨Nat.zero_le _, Nat.zero_le _⟩) (fun r_6 u H locs hp hP hD hS => ?_)
    have hPD := PDm (ws' := (aHP cI cC cZ cB cJ a_m nY sJ eG iY lY jR jW jZ jO oQ bR aY jQ gY iJ mQ lJ jA bG mK jB mW mJ eJ dG bT aG jC bL bY jD mLn oF rP dQ aJ aB bW bZ aR aE bI aW bU fJ dO bM bQ bO jY oX qG m_x gR qR nG oO pJ sH)) hP hD 9 rfl rfl rfl
    have hP := hPD.1
    have hD := hPD.2
    refine lv_iand hx hb eX10_layHands__53.2.2.1 ?_
    refine lv_topi (fun v_7 ev_7 => ?_)
    have hp := hp v_7 ev_7
    refine va_put (D := (dC, dI)) (ci := 10) (v := .int v_7) (ty := .int) (C := zX) (T := aBe) (N := 51) hx hb hts aAt aD2 aAa aEC hown hK hP hD hS 0 rfl rfl 37 (lbz rfl) (hts _ q_878) (fun _ h9 => h9) rfl (aAa 37 (lbz rfl)) rfl rfl (lbz rfl) eX10_layHands__53.2.2.2.1 (fun H locs hP hD hS => ?_)
    have hPD := PDw (ws' := (aHP cI cC cZ cB cJ a_m nY sJ eG iY lY jR jW jZ jO oQ bR aY jQ gY iJ mQ lJ jA bG mK jB mW mJ eJ dG bT aG jC bL bY jD mLn oF rP dQ aJ aB bW bZ aR aE bI aW bU fJ v_7 bM bQ bO jY oX qG m_x gR qR nG oO pJ sH)) hP hD rfl
    have hP := hPD.1
    have hD := hPD.2
    exact W.vret hx hb hr (fun t ht hW => ⟨⟨(v_7, sH), rfl, hp, by rw [ht]; exact hP, va_K.moved hW.alike hK, hD⟩, hS.F ht⟩) hS.2.2 eX10_layHands__53.2.2.2.2
  · have hp := hp.2 hc
    refine lv_aload_n hx hb aMA.2.2.2.2.2.2.1 rfl (lv_at hl 0 rfl) ?_
    refine va_get (D := (dC, dI)) (ci := 10) (v := .ref lJ) (C := zX) (T := aBe) (N := 51) hx hb hts aAt hown hK hP 0 rfl rfl 36 (lbz rfl) (hts _ q_869) (fun _ h9 => h9) rfl aMA.2.2.2.2.2.2.2.1 ?_
    refine lv_iload_n hx hb aMA.2.2.2.2.2.2.2.2.1 rfl (lv_at hl 2 rfl) ?_
    refine lv_aload_n hx hb aMA.2.2.2.2.2.2.2.2.2.1 rfl (lv_at hl 0 rfl) ?_
    refine lv_iload_n hx hb aMA.2.2.2.2.2.2.2.2.2.2.1 rfl (lv_at hl 2 rfl) ?_
    refine lv_iload_n hx hb aMA.2.2.2.2.2.2.2.2.2.2.2.1 rfl (lv_at hl 1 rfl) ?_
    refine lv_iconst (v := 0) hx hb aMA.2.2.2.2.2.2.2.2.2.2.2.2.1 aCi ?_
    have hm := mgk (wc := (aFy cI cC cZ cB cJ a_m nY sJ eG iY lY jR jW jZ jO oQ bR aY jQ gY iJ mQ lJ jA bG mK jB mW mJ eJ dG bT aG jC bL bY jD mLn oF rP dQ aJ aB bW bZ aR aE bI aW bU fJ dO bM bQ bO jY oX m_x gR nG oO pJ)) hP mk_247 9 rfl rfl rfl
    refine yW hP hD hS hA (yS mk_247) (aAi mk_247) hm.1 hm.2 (aAk _) (zW _) (zF (As := [.int x2, .int x1, .int 0]) (rest := [.int x2, .ref lJ]) C0 hP hD hS (yS mk_247) hm.1 (aAl _) 0 10 rfl rfl (c_X10_reachedFrom l dC dI cI cC cZ cB cJ a_m nY sJ eG iY lY jR jW jZ jO oQ bR aY jQ gY iJ mQ lJ jA bG mK jB mW mJ eJ dG H.size x2 x1 0 bT aG jC bL bY jD mLn oF rP dQ aJ aB bW bZ aR aE bI aW bU fJ dO bM bQ bO jY oX m_x gR nG oO pJ _ hp) q_824 q_827 q_825 q_826 aBL h_X10_reachedFrom rfl rfl ⟨lbz rfl, lbz rfl⟩ rfl rfl hl.1 rfl (lv_room (lbz rfl)) aMA.2.2.2.2.2.2.2.2.2.2.2.2.2.1 ⟨Nat.zero_le _, Nat.zero_le _⟩) (fun r_8 u H locs hp hP hD hS => ?_)
    have hPD := PDm (ws' := (aHP cI cC cZ cB cJ a_m nY sJ eG iY lY jR jW jZ jO oQ bR aY jQ gY iJ mQ lJ jA bG mK jB mW mJ eJ dG bT aG jC bL bY jD mLn oF rP dQ aJ aB bW bZ aR aE bI aW bU fJ dO bM bQ bO jY oX qG m_x gR qR nG oO pJ sH)) hP hD 9 rfl rfl rfl
    have hP := hPD.1
    have hD := hPD.2
    have hin := hp.1
    have hp := hp.2
    refine va_iast hx hb hK hP hD hS 8 0 rfl rfl hin aMA.2.2.2.2.2.2.2.2.2.2.2.2.2.2.1 (fun H locs hP hD hS => ?_)
    have hPD := PDw (ws' := (aHP cI cC cZ cB cJ a_m nY sJ eG iY lY jR jW jZ jO oQ bR aY jQ gY iJ mQ lJ jA bG mK jB mW mJ eJ dG bT aG jC bL bY jD mLn oF rP dQ aJ aB bW bZ aR aE bI aW bU fJ dO bM bQ bO jY oX qG m_x gR qR nG oO pJ (upd sH x2.toNatClampNeg r_8))) hP hD rfl
    have hP := hPD.1
    have hD := hPD.2
    obtain ⟨v_9, ev_9⟩ : ∃ y : Int32, y = x2 + 1 := ⟨_, rfl⟩
    refine lv_iinc (v := v_9) (lv' := [(2, .int v_9), (0, .ref a_m), (1, .int x1)]) hx hb aMA.2.2.2.2.2.2.2.2.2.2.2.2.2.2.2 hl (k := 2) rfl (by rw [ev_9]; rfl) (by decide) rfl (fun ls hl => ?_)
    have hp := hp v_9 ev_9
    refine lv_goto (tgt := 2) hx hb aKi.1 (by decide) ?_
    exact hKn x1 v_9 dO (upd sH x2.toNatClampNeg r_8) H locs ls hp hP hD hS (lv_sub hl [1, 2, 0] rfl)
set_option maxHeartbeats 4000000 in
set_option maxRecDepth 100000 in
theorem kb_X10_layHands__2 (C0 : gc aDw none 3 zX (dC, dI) (tyl cI cC cZ cB cJ) A p s m args meth c) : ∀ (n : Nat), ∀ (x1 x2 dO : Int32) (sH : Nat -> Int32) (H : Heap) (locs : List Loc) (ls : Array Slot), (wb_X10_layHands__2 post bT aG qG m_x gR qR nG oO pJ n) x1 x2 dO sH -> va_P (dC, dI) classes (aHP cI cC cZ cB cJ a_m nY sJ eG iY lY jR jW jZ jO oQ bR aY jQ gY iJ mQ lJ jA bG mK jB mW mJ eJ dG bT aG jC bL bY jD mLn oF rP dQ aJ aB bW bZ aR aE bI aW bU fJ dO bM bQ bO jY oX qG m_x gR qR nG oO pJ sH) H -> va_D A (aHP cI cC cZ cB cJ a_m nY sJ eG iY lY jR jW jZ jO oQ bR aY jQ gY iJ mQ lJ jA bG mK jB mW mJ eJ dG bT aG jC bL bY jD mLn oF rP dQ aJ aB bW bZ aR aE bI aW bU fJ dO bM bQ bO jY oX qG m_x gR qR nG oO pJ sH) -> va_S A s.heap H locs -> lv_has ls 3 [(0, .ref a_m), (1, .int x1), (2, .int x2)] -> W p l e rm_X10_layHands_ s m args below meth c H locs 0 0 (MQ below (q_X10_layHands_ dC dI cI cC cZ cB cJ A a_m nY sJ eG iY lY jR jW jZ jO oQ bR aY jQ gY iJ mQ lJ jA bG mK jB mW mJ eJ dG bT aG jC bL bY jD mLn oF rP dQ aJ aB bW bZ aR aE bI aW bU fJ bM bQ bO jY oX qG m_x gR qR nG oO pJ post) args s 0 0 A) (F0 m 2 ls []) := by
  intro n
  induction n with
  | zero =>
    intro x1 x2 dO sH H locs ls hp
    exact False.elim hp
  | succ n ih =>
    intro x1 x2 dO sH H locs ls hp
    exact ks_X10_layHands__2 C0 ih x1 x2 dO sH H locs ls hp
end S_X10_layHands_
def wp_X10_layHands_ (post : Int32 -> (Nat -> Int32) -> Prop) (p0 bT aG dO : Int32) (qG m_x gR qR nG oO pJ sH : Nat -> Int32) : Prop := ∃ n : Nat, wb_X10_layHands__2 post bT aG qG m_x gR qR nG oO pJ n p0 0 dO sH
set_option maxHeartbeats 4000000 in
set_option maxRecDepth 100000 in
theorem c_X10_layHands_ (l : Launch) (dC : Nat -> ClassId) (dI : Nat -> Nat -> Nat) (cI cC cZ cB cJ : ClassId) (a_m nY sJ eG iY lY jR jW jZ jO oQ bR aY jQ gY iJ mQ lJ jA bG mK jB mW mJ eJ dG sz : Nat) (p0 bT aG jC bL bY : Int32) (jD : Nat) (mLn oF rP dQ aJ aB bW bZ aR aE bI aW bU fJ dO bM bQ bO jY oX : Int32) (qG m_x gR qR nG oO pJ sH : Nat -> Int32) (post : Int32 -> (Nat -> Int32) -> Prop) (hw : wp_X10_layHands_ post p0 bT aG dO qG m_x gR qR nG oO pJ sH) : Met l bB0 (gw bB0 aDw 3 none) rm_X10_layHands_ (va_Pc [.ref a_m, .int p0] (gPre (dC, dI) (tyl cI cC cZ cB cJ) (aHP cI cC cZ cB cJ a_m nY sJ eG iY lY jR jW jZ jO oQ bR aY jQ gY iJ mQ lJ jA bG mK jB mW mJ eJ dG bT aG jC bL bY jD mLn oF rP dQ aJ aB bW bZ aR aE bI aW bU fJ dO bM bQ bO jY oX qG m_x gR qR nG oO pJ sH) sz)) (q_X10_layHands_ dC dI cI cC cZ cB cJ (va_A (aHP cI cC cZ cB cJ a_m nY sJ eG iY lY jR jW jZ jO oQ bR aY jQ gY iJ mQ lJ jA bG mK jB mW mJ eJ dG bT aG jC bL bY jD mLn oF rP dQ aJ aB bW bZ aR aE bI aW bU fJ dO bM bQ bO jY oX qG m_x gR qR nG oO pJ sH) sz) a_m nY sJ eG iY lY jR jW jZ jO oQ bR aY jQ gY iJ mQ lJ jA bG mK jB mW mJ eJ dG bT aG jC bL bY jD mLn oF rP dQ aJ aB bW bZ aR aE bI aW bU fJ bM bQ bO jY oX qG m_x gR qR nG oO pJ post) 0 0 (va_A (aHP cI cC cZ cB cJ a_m nY sJ eG iY lY jR jW jZ jO oQ bR aY jQ gY iJ mQ lJ jA bG mK jB mW mJ eJ dG bT aG jC bL bY jD mLn oF rP dQ aJ aB bW bZ aR aE bI aW bU fJ dO bM bQ bO jY oX qG m_x gR qR nG oO pJ sH) sz) := by
  refine aBJ (own := zX) (dC, dI) (tyl cI cC cZ cB cJ) (aHP cI cC cZ cB cJ a_m nY sJ eG iY lY jR jW jZ jO oQ bR aY jQ gY iJ mQ lJ jA bG mK jB mW mJ eJ dG bT aG jC bL bY jD mLn oF rP dQ aJ aB bW bZ aR aE bI aW bU fJ dO bM bQ bO jY oX qG m_x gR qR nG oO pJ sH) sz [.ref a_m, .int p0] (fun A => q_X10_layHands_ dC dI cI cC cZ cB cJ A a_m nY sJ eG iY lY jR jW jZ jO oQ bR aY jQ gY iJ mQ lJ jA bG mK jB mW mJ eJ dG bT aG jC bL bY jD mLn oF rP dQ aJ aB bW bZ aR aE bI aW bU fJ bM bQ bO jY oX qG m_x gR qR nG oO pJ post) aFY rfl (lbz rfl) ?_
  intro p e s m args below meth c A H locs ls C0 hP hD hS hl
  have hl : lv_has ls 3 [(0, .ref a_m), (1, .int p0)] := hl
  obtain ⟨hx, hb, hr, hml, hown, hts, hlocks, hA, hK, hN, tL, tM, hZL, hTL, hZM, hTM, hZX⟩ := id C0
  have hp := hw
  unfold wp_X10_layHands_ at hp
  refine lv_iconst (v := 0) hx hb aMA.1 aCi ?_
  refine lv_istore_n (lv' := [(2, .int 0), (0, .ref a_m), (1, .int p0)]) hx hb aMA.2.1 rfl hl (by decide) rfl (fun ls hl => ?_)
  obtain ⟨n9, hp⟩ := hp
  exact kb_X10_layHands__2 C0 n9 p0 0 dO sH H locs ls hp hP hD hS (lv_sub hl [1, 2, 0] rfl)
abbrev aIe (cI cC cZ cB cJ : ClassId) (a_m nY sJ eG iY lY jR jW jZ jO oQ bR aY jQ gY iJ mQ lJ jA bG mK jB mW mJ eJ dG : Nat) (bT aG jC bL bY : Int32) (jD : Nat) (mLn oF rP dQ aJ aB bW bZ aR aE bI aW bU fJ dO bM bQ bO jY oX : Int32) (qG m_x gR qR nG oO pJ sH : Nat -> Int32) : va_W := [(a_m, .inr (10, [.ref nY, .int bT, .ref sJ, .ref eG, .ref iY, .ref lY, .int aG, .ref jR, .ref jW, .ref jZ, .ref jO, .int jC, .ref oQ, .int bL, .int bY, rdv jO jQ jD, .int mLn, .int oF, .int rP, .int dQ, .ref bR, .ref aY, .int aJ, .int aB, .ref jQ, .int bW, .int bZ, .int aR, .int aE, .int bI, .int aW, .ref gY, .int bU, .ref iJ, .ref mQ, .int fJ, .ref lJ, .int dO, .ref jA, .ref bG, .int bM, .int bQ, .int bO, .ref mK, .ref jB, .ref mW, .int jY, .int oX, .ref mJ, .ref eJ, .ref dG])), (nY, .inl (cI, 21, .inl qG)), (sJ, .inl (cI, 16, .inl m_x)), (eG, .inl (cI, 16, .inl gR)), (lY, .inl (cI, 16, .inl qR)), (jR, .inl (cI, 8, .inl nG)), (jW, .inl (cI, 8, .inl oO)), (jZ, .inl (cI, 5, .inl pJ)), (lJ, .inl (cI, 8, .inl sH))]
abbrev q_X10_layHands (dC : Nat -> ClassId) (dI : Nat -> Nat -> Nat) (cI cC cZ cB cJ : ClassId) (A : Nat -> Prop) (a_m nY sJ eG iY lY jR jW jZ jO oQ bR aY jQ gY iJ mQ lJ jA bG mK jB mW mJ eJ dG : Nat) (bT aG jC bL bY : Int32) (jD : Nat) (mLn oF rP dQ aJ aB bW bZ aR aE bI aW bU fJ bM bQ bO jY oX : Int32) (qG m_x gR qR nG oO pJ : Nat -> Int32) (post : Int32 -> (Nat -> Int32) -> Prop) : Array Value -> State -> Outcome -> State -> Prop := va_Qv (fun (u : Int32 × (Nat -> Int32)) => post u.1 u.2) (fun u t => gB (dC, dI) (tyl cI cC cZ cB cJ) A (aIe cI cC cZ cB cJ a_m nY sJ eG iY lY jR jW jZ jO oQ bR aY jQ gY iJ mQ lJ jA bG mK jB mW mJ eJ dG bT aG jC bL bY jD mLn oF rP dQ aJ aB bW bZ aR aE bI aW bU fJ u.1 bM bQ bO jY oX qG m_x gR qR nG oO pJ u.2) t) A
abbrev rm_X10_layHands : Room := { frames := 5, cells := 0, slots := 0, locals := 113 }
def aJm (post : Int32 -> (Nat -> Int32) -> Prop) (bT aG dO : Int32) (qG m_x gR qR nG oO pJ sH : Nat -> Int32) : Prop := ∀ v_1 : Int32, v_1 = qG (18 : Int32).toNatClampNeg -> wp_X10_layHands_ (fun aDd aH4 => post aDd aH4) v_1 bT aG dO qG m_x gR qR nG oO pJ sH
set_option maxHeartbeats 4000000 in
set_option maxRecDepth 100000 in
theorem aPr (l : Launch) (dC : Nat -> ClassId) (dI : Nat -> Nat -> Nat) (cI cC cZ cB cJ : ClassId) (a_m nY sJ eG iY lY jR jW jZ jO oQ bR aY jQ gY iJ mQ lJ jA bG mK jB mW mJ eJ dG sz : Nat) (bT aG jC bL bY : Int32) (jD : Nat) (mLn oF rP dQ aJ aB bW bZ aR aE bI aW bU fJ dO bM bQ bO jY oX : Int32) (qG m_x gR qR nG oO pJ sH : Nat -> Int32) (post : Int32 -> (Nat -> Int32) -> Prop) (hw : aJm post bT aG dO qG m_x gR qR nG oO pJ sH) : Met l yX10_layHands (gw yX10_layHands cX10_layHands 1 none) rm_X10_layHands (va_Pc [.ref a_m] (gPre (dC, dI) (tyl cI cC cZ cB cJ) (aIe cI cC cZ cB cJ a_m nY sJ eG iY lY jR jW jZ jO oQ bR aY jQ gY iJ mQ lJ jA bG mK jB mW mJ eJ dG bT aG jC bL bY jD mLn oF rP dQ aJ aB bW bZ aR aE bI aW bU fJ dO bM bQ bO jY oX qG m_x gR qR nG oO pJ sH) sz)) (q_X10_layHands dC dI cI cC cZ cB cJ (va_A (aIe cI cC cZ cB cJ a_m nY sJ eG iY lY jR jW jZ jO oQ bR aY jQ gY iJ mQ lJ jA bG mK jB mW mJ eJ dG bT aG jC bL bY jD mLn oF rP dQ aJ aB bW bZ aR aE bI aW bU fJ dO bM bQ bO jY oX qG m_x gR qR nG oO pJ sH) sz) a_m nY sJ eG iY lY jR jW jZ jO oQ bR aY jQ gY iJ mQ lJ jA bG mK jB mW mJ eJ dG bT aG jC bL bY jD mLn oF rP dQ aJ aB bW bZ aR aE bI aW bU fJ bM bQ bO jY oX qG m_x gR qR nG oO pJ post) 0 0 (va_A (aIe cI cC cZ cB cJ a_m nY sJ eG iY lY jR jW jZ jO oQ bR aY jQ gY iJ mQ lJ jA bG mK jB mW mJ eJ dG bT aG jC bL bY jD mLn oF rP dQ aJ aB bW bZ aR aE bI aW bU fJ dO bM bQ bO jY oX qG m_x gR qR nG oO pJ sH) sz) := by
  refine aBJ (own := zX) (dC, dI) (tyl cI cC cZ cB cJ) (aIe cI cC cZ cB cJ a_m nY sJ eG iY lY jR jW jZ jO oQ bR aY jQ gY iJ mQ lJ jA bG mK jB mW mJ eJ dG bT aG jC bL bY jD mLn oF rP dQ aJ aB bW bZ aR aE bI aW bU fJ dO bM bQ bO jY oX qG m_x gR qR nG oO pJ sH) sz [.ref a_m] (fun A => q_X10_layHands dC dI cI cC cZ cB cJ A a_m nY sJ eG iY lY jR jW jZ jO oQ bR aY jQ gY iJ mQ lJ jA bG mK jB mW mJ eJ dG bT aG jC bL bY jD mLn oF rP dQ aJ aB bW bZ aR aE bI aW bU fJ bM bQ bO jY oX qG m_x gR qR nG oO pJ post) aFY rfl (lbz rfl) ?_
  intro p e s m args below meth c A H locs ls C0 hP hD hS hl
  have hl : lv_has ls 1 [(0, .ref a_m)] := hl
  obtain ⟨hx, hb, hr, hml, hown, hts, hlocks, hA, hK, hN, tL, tM, hZL, hTL, hZM, hTM, hZX⟩ := id C0
  have hp := hw
  unfold aJm at hp
  refine lv_aload_n hx hb eX10_layHands_0.1 rfl (lv_at hl 0 rfl) ?_
  refine lv_aload_n hx hb eX10_layHands_0.2.1 rfl (lv_at hl 0 rfl) ?_
  refine va_get (D := (dC, dI)) (ci := 10) (v := .ref nY) (C := zX) (T := aBe) (N := 51) hx hb hts aAt hown hK hP 0 rfl rfl 0 (lbz rfl) (hts _ aHO) (fun _ h9 => h9) rfl eX10_layHands_0.2.2.1 ?_
  refine lv_bipush (v := 18) hx hb eX10_layHands_0.2.2.2.1 bp_18 ?_
  refine va_iald hx hb hK hP 1 0 rfl rfl (g_in rfl) eX10_layHands_0.2.2.2.2.1 ?_
  refine lv_topi (fun v_1 aFJ => ?_)
  have hp := hp v_1 aFJ
  have hm := mgk (wc := (aHP cI cC cZ cB cJ a_m nY sJ eG iY lY jR jW jZ jO oQ bR aY jQ gY iJ mQ lJ jA bG mK jB mW mJ eJ dG bT aG jC bL bY jD mLn oF rP dQ aJ aB bW bZ aR aE bI aW bU fJ dO bM bQ bO jY oX qG m_x gR qR nG oO pJ sH)) hP mk_9 9 rfl rfl rfl
  refine aBn hP hD hS hA (yS mk_9) (aAi mk_9) hm.1 hm.2 (aAk _) (zW _) (zF (As := [.int v_1]) (rest := []) C0 hP hD hS (yS mk_9) hm.1 (aAl _) 0 10 rfl rfl (c_X10_layHands_ l dC dI cI cC cZ cB cJ a_m nY sJ eG iY lY jR jW jZ jO oQ bR aY jQ gY iJ mQ lJ jA bG mK jB mW mJ eJ dG H.size v_1 bT aG jC bL bY jD mLn oF rP dQ aJ aB bW bZ aR aE bI aW bU fJ dO bM bQ bO jY oX qG m_x gR qR nG oO pJ sH _ hp) q_879 q_882 q_880 q_881 aBL h_X10_layHands_ rfl rfl ⟨lbz rfl, lbz rfl⟩ rfl rfl hl.1 rfl (lv_room (lbz rfl)) eX10_layHands_0.2.2.2.2.2.1 ⟨Nat.zero_le _, Nat.zero_le _⟩) (fun u H locs hp hP hD hS => ?_)
  obtain ⟨aDd, aH4⟩ := u
  have hPD := PDm (ws' := (aIe cI cC cZ cB cJ a_m nY sJ eG iY lY jR jW jZ jO oQ bR aY jQ gY iJ mQ lJ jA bG mK jB mW mJ eJ dG bT aG jC bL bY jD mLn oF rP dQ aJ aB bW bZ aR aE bI aW bU fJ aDd bM bQ bO jY oX qG m_x gR qR nG oO pJ aH4)) hP hD 9 rfl rfl rfl
  have hP := hPD.1
  have hD := hPD.2
  exact W.vret hx hb hr (fun t ht hW => ⟨⟨(aDd, aH4), rfl, hp, by rw [ht]; exact hP, va_K.moved hW.alike hK, hD⟩, hS.F ht⟩) hS.2.2 eX10_layHands_0.2.2.2.2.2.2
abbrev wd_X10_both (cI cC cZ cB cJ : ClassId) (a_m nY sJ eG iY lY jR jW jZ jO oQ bR aY jQ gY iJ mQ lJ jA bG mK jB mW mJ eJ dG : Nat) (bT aG jC bL bY : Int32) (jD : Nat) (mLn oF rP dQ aJ aB bW bZ aR aE bI aW bU fJ dO bM bQ bO jY oX : Int32) (qG m_x gR qR nG oO pJ sW sH : Nat -> Int32) : va_W := [(a_m, .inr (10, [.ref nY, .int bT, .ref sJ, .ref eG, .ref iY, .ref lY, .int aG, .ref jR, .ref jW, .ref jZ, .ref jO, .int jC, .ref oQ, .int bL, .int bY, rdv jO jQ jD, .int mLn, .int oF, .int rP, .int dQ, .ref bR, .ref aY, .int aJ, .int aB, .ref jQ, .int bW, .int bZ, .int aR, .int aE, .int bI, .int aW, .ref gY, .int bU, .ref iJ, .ref mQ, .int fJ, .ref lJ, .int dO, .ref jA, .ref bG, .int bM, .int bQ, .int bO, .ref mK, .ref jB, .ref mW, .int jY, .int oX, .ref mJ, .ref eJ, .ref dG])), (nY, .inl (cI, 21, .inl qG)), (sJ, .inl (cI, 16, .inl m_x)), (eG, .inl (cI, 16, .inl gR)), (lY, .inl (cI, 16, .inl qR)), (jR, .inl (cI, 8, .inl nG)), (jW, .inl (cI, 8, .inl oO)), (jZ, .inl (cI, 5, .inl pJ)), (oQ, .inl (cI, 32, .inl sW)), (lJ, .inl (cI, 8, .inl sH))]
abbrev q_X10_both (dC : Nat -> ClassId) (dI : Nat -> Nat -> Nat) (cI cC cZ cB cJ : ClassId) (A : Nat -> Prop) (a_m nY sJ eG iY lY jR jW jZ jO oQ bR aY jQ gY iJ mQ lJ jA bG mK jB mW mJ eJ dG : Nat) (bT aG jC : Int32) (jD : Nat) (mLn oF rP dQ aJ aB bW bZ aR aE bI aW bU fJ bM bQ bO jY oX : Int32) (qG m_x gR qR nG oO pJ : Nat -> Int32) (post : Int32 -> Int32 -> Int32 -> Int32 -> (Nat -> Int32) -> (Nat -> Int32) -> Prop) : Array Value -> State -> Outcome -> State -> Prop := va_Qi (fun (r : Int32) (u : Int32 × Int32 × Int32 × (Nat -> Int32) × (Nat -> Int32)) => post r u.1 u.2.1 u.2.2.1 u.2.2.2.1 u.2.2.2.2) (fun u t => gB (dC, dI) (tyl cI cC cZ cB cJ) A (wd_X10_both cI cC cZ cB cJ a_m nY sJ eG iY lY jR jW jZ jO oQ bR aY jQ gY iJ mQ lJ jA bG mK jB mW mJ eJ dG bT aG jC u.1 u.2.1 jD mLn oF rP dQ aJ aB bW bZ aR aE bI aW bU fJ u.2.2.1 bM bQ bO jY oX qG m_x gR qR nG oO pJ u.2.2.2.1 u.2.2.2.2) t) A
abbrev rm_X10_both : Room := { frames := 6, cells := 0, slots := 0, locals := 133 }
def wp_X10_both (post : Int32 -> Int32 -> Int32 -> Int32 -> (Nat -> Int32) -> (Nat -> Int32) -> Prop) (p0 p1 bT aG bL bY dO : Int32) (qG m_x gR qR nG oO pJ sW sH : Nat -> Int32) : Prop := aJI (fun r_1 => (r_1 = 0 -> post (-1) bL 0 dO sW sH) /\ (¬ r_1 = 0 -> aJI (fun r_2 => (r_2 = 0 -> post (-1) bL 0 dO sW sH) /\ (¬ r_2 = 0 -> (¬ p0 = p1 -> aJm (fun aC5 aF5 => vp_in p0 8 /\ (∀ v_5 : Int32, v_5 = aC5 &&& (aF5 p0.toNatClampNeg) -> vp_in p1 8 /\ (∀ v_6 : Int32, v_6 = aF5 p1.toNatClampNeg -> ∀ v_7 : Int32, v_7 = v_5 &&& (v_6 ^^^ (-1)) -> aDs (fun aG6 aUs => vp_in p1 8 /\ (∀ aEr : Int32, aEr = aC5 &&& (aF5 p1.toNatClampNeg) -> vp_in p0 8 /\ (∀ aGH : Int32, aGH = aF5 p0.toNatClampNeg -> ∀ aEp : Int32, aEp = aEr &&& (aGH ^^^ (-1)) -> aDs (fun bBI m_row_14 => vp_in p0 8 /\ (∀ aHe : Int32, aHe = aC5 &&& (aF5 p0.toNatClampNeg) -> vp_in p1 8 /\ (post (aHe &&& (aF5 p1.toNatClampNeg)) bBI 0 aC5 m_row_14 aF5))) aEp aG6 aUs))) v_7 0 sW))) bT aG dO qG m_x gR qR nG oO pJ sH) /\ (p0 = p1 -> post (-1) bL 0 dO sW sH))) p1 aG)) p0 aG
set_option maxHeartbeats 4000000 in
set_option maxRecDepth 100000 in
theorem c_X10_both (l : Launch) (dC : Nat -> ClassId) (dI : Nat -> Nat -> Nat) (cI cC cZ cB cJ : ClassId) (a_m nY sJ eG iY lY jR jW jZ jO oQ bR aY jQ gY iJ mQ lJ jA bG mK jB mW mJ eJ dG sz : Nat) (p0 p1 bT aG jC bL bY : Int32) (jD : Nat) (mLn oF rP dQ aJ aB bW bZ aR aE bI aW bU fJ dO bM bQ bO jY oX : Int32) (qG m_x gR qR nG oO pJ sW sH : Nat -> Int32) (post : Int32 -> Int32 -> Int32 -> Int32 -> (Nat -> Int32) -> (Nat -> Int32) -> Prop) (hw : wp_X10_both post p0 p1 bT aG bL bY dO qG m_x gR qR nG oO pJ sW sH) : Met l yX10_both (gw yX10_both aEK 3 (some .int)) rm_X10_both (va_Pc [.ref a_m, .int p0, .int p1] (gPre (dC, dI) (tyl cI cC cZ cB cJ) (wd_X10_both cI cC cZ cB cJ a_m nY sJ eG iY lY jR jW jZ jO oQ bR aY jQ gY iJ mQ lJ jA bG mK jB mW mJ eJ dG bT aG jC bL bY jD mLn oF rP dQ aJ aB bW bZ aR aE bI aW bU fJ dO bM bQ bO jY oX qG m_x gR qR nG oO pJ sW sH) sz)) (q_X10_both dC dI cI cC cZ cB cJ (va_A (wd_X10_both cI cC cZ cB cJ a_m nY sJ eG iY lY jR jW jZ jO oQ bR aY jQ gY iJ mQ lJ jA bG mK jB mW mJ eJ dG bT aG jC bL bY jD mLn oF rP dQ aJ aB bW bZ aR aE bI aW bU fJ dO bM bQ bO jY oX qG m_x gR qR nG oO pJ sW sH) sz) a_m nY sJ eG iY lY jR jW jZ jO oQ bR aY jQ gY iJ mQ lJ jA bG mK jB mW mJ eJ dG bT aG jC jD mLn oF rP dQ aJ aB bW bZ aR aE bI aW bU fJ bM bQ bO jY oX qG m_x gR qR nG oO pJ post) 0 0 (va_A (wd_X10_both cI cC cZ cB cJ a_m nY sJ eG iY lY jR jW jZ jO oQ bR aY jQ gY iJ mQ lJ jA bG mK jB mW mJ eJ dG bT aG jC bL bY jD mLn oF rP dQ aJ aB bW bZ aR aE bI aW bU fJ dO bM bQ bO jY oX qG m_x gR qR nG oO pJ sW sH) sz) := by
  refine aBJ (own := zX) (dC, dI) (tyl cI cC cZ cB cJ) (wd_X10_both cI cC cZ cB cJ a_m nY sJ eG iY lY jR jW jZ jO oQ bR aY jQ gY iJ mQ lJ jA bG mK jB mW mJ eJ dG bT aG jC bL bY jD mLn oF rP dQ aJ aB bW bZ aR aE bI aW bU fJ dO bM bQ bO jY oX qG m_x gR qR nG oO pJ sW sH) sz [.ref a_m, .int p0, .int p1] (fun A => q_X10_both dC dI cI cC cZ cB cJ A a_m nY sJ eG iY lY jR jW jZ jO oQ bR aY jQ gY iJ mQ lJ jA bG mK jB mW mJ eJ dG bT aG jC jD mLn oF rP dQ aJ aB bW bZ aR aE bI aW bU fJ bM bQ bO jY oX qG m_x gR qR nG oO pJ post) aFY rfl (lbz rfl) ?_
  intro p e s m args below meth c A H locs ls C0 hP hD hS hl
  have hl : lv_has ls 3 [(0, .ref a_m), (1, .int p0), (2, .int p1)] := hl
  obtain ⟨hx, hb, hr, hml, hown, hts, hlocks, hA, hK, hN, tL, tM, hZL, hTL, hZM, hTM, hZX⟩ := id C0
  have hp := hw
  unfold wp_X10_both at hp
  refine lv_aload_n hx hb aSV.1 rfl (lv_at hl 0 rfl) ?_
  refine lv_iconst (v := 0) hx hb aSV.2.1 aCi ?_
  refine va_put (D := (dC, dI)) (ci := 10) (v := .int 0) (ty := .int) (C := zX) (T := aBe) (N := 51) hx hb hts aAt aD2 aAa aEC hown hK hP hD hS 0 rfl rfl 14 (lbz rfl) (hts _ q_638) (fun _ h9 => h9) rfl (aAa 14 (lbz rfl)) rfl rfl (lbz rfl) aSV.2.2.1 (fun H locs hP hD hS => ?_)
  have hPD := PDw (ws' := (wd_X10_both cI cC cZ cB cJ a_m nY sJ eG iY lY jR jW jZ jO oQ bR aY jQ gY iJ mQ lJ jA bG mK jB mW mJ eJ dG bT aG jC bL 0 jD mLn oF rP dQ aJ aB bW bZ aR aE bI aW bU fJ dO bM bQ bO jY oX qG m_x gR qR nG oO pJ sW sH)) hP hD rfl
  have hP := hPD.1
  have hD := hPD.2
  refine lv_aload_n hx hb aSV.2.2.2.1 rfl (lv_at hl 0 rfl) ?_
  refine lv_iload_n hx hb aSV.2.2.2.2.1 rfl (lv_at hl 1 rfl) ?_
  have hm := mgk (wc := (aK5 cI cC cZ cB cJ a_m nY sJ eG iY lY jR jW jZ jO oQ bR aY jQ gY iJ mQ lJ jA bG mK jB mW mJ eJ dG bT aG jC bL 0 jD mLn oF rP dQ aJ aB bW bZ aR aE bI aW bU fJ dO bM bQ bO jY oX)) hP aRf 10 rfl rfl rfl
  refine yW hP hD hS hA (yS aRf) (aAi aRf) hm.1 hm.2 (aAk _) (zW _) (zF (As := [.int p0]) (rest := []) C0 hP hD hS (yS aRf) hm.1 (aAl _) 0 10 rfl rfl (aZR l dC dI cI cC cZ cB cJ a_m nY sJ eG iY lY jR jW jZ jO oQ bR aY jQ gY iJ mQ lJ jA bG mK jB mW mJ eJ dG H.size p0 bT aG jC bL 0 jD mLn oF rP dQ aJ aB bW bZ aR aE bI aW bU fJ dO bM bQ bO jY oX _ hp) q_757 q_760 q_758 q_759 aBL aZY rfl rfl ⟨lbz rfl, lbz rfl⟩ rfl rfl hl.1 rfl (lv_room (lbz rfl)) aSV.2.2.2.2.2.1 ⟨Nat.zero_le _, Nat.zero_le _⟩) (fun r_1 u H locs hp hP hD hS => ?_)
  have hPD := PDm (ws' := (wd_X10_both cI cC cZ cB cJ a_m nY sJ eG iY lY jR jW jZ jO oQ bR aY jQ gY iJ mQ lJ jA bG mK jB mW mJ eJ dG bT aG jC bL 0 jD mLn oF rP dQ aJ aB bW bZ aR aE bI aW bU fJ dO bM bQ bO jY oX qG m_x gR qR nG oO pJ sW sH)) hP hD 10 rfl rfl rfl
  have hP := hPD.1
  have hD := hPD.2
  refine lv_if_eq (tgt := 26) hx hb aSV.2.2.2.2.2.2.1 (by decide) (fun hc => ?_) (fun hc => ?_)
  · have hp := hp.1 hc
    refine lv_iconst (v := (-1)) hx hb aSV.2.2.2.2.2.2.2.2.2.2.2.2.2.2.1 aEJ ?_
    exact W.iret (v := (-1)) hx hb hr (fun t ht hW => ⟨⟨(-1), (bL, 0, dO, sW, sH), rfl, hp, by rw [ht]; exact hP, va_K.moved hW.alike hK, hD⟩, hS.F ht⟩) hS.2.2 aSV.2.2.2.2.2.2.2.2.2.2.2.2.2.2.2
  · have hp := hp.2 hc
    refine lv_aload_n hx hb aSV.2.2.2.2.2.2.2.1 rfl (lv_at hl 0 rfl) ?_
    refine lv_iload_n hx hb aSV.2.2.2.2.2.2.2.2.1 rfl (lv_at hl 2 rfl) ?_
    have hm := mgk (wc := (aK5 cI cC cZ cB cJ a_m nY sJ eG iY lY jR jW jZ jO oQ bR aY jQ gY iJ mQ lJ jA bG mK jB mW mJ eJ dG bT aG jC bL 0 jD mLn oF rP dQ aJ aB bW bZ aR aE bI aW bU fJ dO bM bQ bO jY oX)) hP aRf 10 rfl rfl rfl
    refine yW hP hD hS hA (yS aRf) (aAi aRf) hm.1 hm.2 (aAk _) (zW _) (zF (As := [.int p1]) (rest := []) C0 hP hD hS (yS aRf) hm.1 (aAl _) 0 10 rfl rfl (aZR l dC dI cI cC cZ cB cJ a_m nY sJ eG iY lY jR jW jZ jO oQ bR aY jQ gY iJ mQ lJ jA bG mK jB mW mJ eJ dG H.size p1 bT aG jC bL 0 jD mLn oF rP dQ aJ aB bW bZ aR aE bI aW bU fJ dO bM bQ bO jY oX _ hp) q_757 q_760 q_758 q_759 aBL aZY rfl rfl ⟨lbz rfl, lbz rfl⟩ rfl rfl hl.1 rfl (lv_room (lbz rfl)) aSV.2.2.2.2.2.2.2.2.2.1 ⟨Nat.zero_le _, Nat.zero_le _⟩) (fun r_2 u H locs hp hP hD hS => ?_)
    have hPD := PDm (ws' := (wd_X10_both cI cC cZ cB cJ a_m nY sJ eG iY lY jR jW jZ jO oQ bR aY jQ gY iJ mQ lJ jA bG mK jB mW mJ eJ dG bT aG jC bL 0 jD mLn oF rP dQ aJ aB bW bZ aR aE bI aW bU fJ dO bM bQ bO jY oX qG m_x gR qR nG oO pJ sW sH)) hP hD 10 rfl rfl rfl
    have hP := hPD.1
    have hD := hPD.2
    refine lv_if_eq (tgt := 26) hx hb aSV.2.2.2.2.2.2.2.2.2.2.1 (by decide) (fun hc => ?_) (fun hc => ?_)
    · have hp := hp.1 hc
      refine lv_iconst (v := (-1)) hx hb aSV.2.2.2.2.2.2.2.2.2.2.2.2.2.2.1 aEJ ?_
      exact W.iret (v := (-1)) hx hb hr (fun t ht hW => ⟨⟨(-1), (bL, 0, dO, sW, sH), rfl, hp, by rw [ht]; exact hP, va_K.moved hW.alike hK, hD⟩, hS.F ht⟩) hS.2.2 aSV.2.2.2.2.2.2.2.2.2.2.2.2.2.2.2
    · have hp := hp.2 hc
      refine lv_iload_n hx hb aSV.2.2.2.2.2.2.2.2.2.2.2.1 rfl (lv_at hl 1 rfl) ?_
      refine lv_iload_n hx hb aSV.2.2.2.2.2.2.2.2.2.2.2.2.1 rfl (lv_at hl 2 rfl) ?_
      refine lv_icmp_ne (tgt := 28) hx hb aSV.2.2.2.2.2.2.2.2.2.2.2.2.2.1 (by decide) (fun hc => ?_) (fun hc => ?_)
      · have hp := hp.1 hc
        refine lv_aload_n hx hb aVr.1 rfl (lv_at hl 0 rfl) ?_
        have hm := mgk (wc := (aIe cI cC cZ cB cJ a_m nY sJ eG iY lY jR jW jZ jO oQ bR aY jQ gY iJ mQ lJ jA bG mK jB mW mJ eJ dG bT aG jC bL 0 jD mLn oF rP dQ aJ aB bW bZ aR aE bI aW bU fJ dO bM bQ bO jY oX qG m_x gR qR nG oO pJ sH)) hP aUv 10 rfl rfl rfl
        refine aBn hP hD hS hA (yS aUv) (aAi aUv) hm.1 hm.2 (aAk _) (zW _) (zF (As := []) (rest := []) C0 hP hD hS (yS aUv) hm.1 (aAl _) 0 10 rfl rfl (aPr l dC dI cI cC cZ cB cJ a_m nY sJ eG iY lY jR jW jZ jO oQ bR aY jQ gY iJ mQ lJ jA bG mK jB mW mJ eJ dG H.size bT aG jC bL 0 jD mLn oF rP dQ aJ aB bW bZ aR aE bI aW bU fJ dO bM bQ bO jY oX qG m_x gR qR nG oO pJ sH _ hp) q_883 q_886 q_884 q_885 aBL aQ3 rfl rfl ⟨lbz rfl, lbz rfl⟩ rfl rfl hl.1 rfl (lv_room (lbz rfl)) aVr.2.1 ⟨Nat.zero_le _, Nat.zero_le _⟩) (fun u H locs hp hP hD hS => ?_)
        obtain ⟨aC5, aF5⟩ := u
        have hPD := PDm (ws' := (wd_X10_both cI cC cZ cB cJ a_m nY sJ eG iY lY jR jW jZ jO oQ bR aY jQ gY iJ mQ lJ jA bG mK jB mW mJ eJ dG bT aG jC bL 0 jD mLn oF rP dQ aJ aB bW bZ aR aE bI aW bU fJ aC5 bM bQ bO jY oX qG m_x gR qR nG oO pJ sW aF5)) hP hD 10 rfl rfl rfl
        have hP := hPD.1
        have hD := hPD.2
        refine lv_aload_n hx hb aVr.2.2.1 rfl (lv_at hl 0 rfl) ?_
        refine lv_iconst (v := 0) hx hb aVr.2.2.2.1 aCi ?_
        refine va_put (D := (dC, dI)) (ci := 10) (v := .int 0) (ty := .int) (C := zX) (T := aBe) (N := 51) hx hb hts aAt aD2 aAa aEC hown hK hP hD hS 0 rfl rfl 13 (lbz rfl) (hts _ q_847) (fun _ h9 => h9) rfl (aAa 13 (lbz rfl)) rfl rfl (lbz rfl) aVr.2.2.2.2.1 (fun H locs hP hD hS => ?_)
        have hPD := PDw (ws' := (wd_X10_both cI cC cZ cB cJ a_m nY sJ eG iY lY jR jW jZ jO oQ bR aY jQ gY iJ mQ lJ jA bG mK jB mW mJ eJ dG bT aG jC 0 0 jD mLn oF rP dQ aJ aB bW bZ aR aE bI aW bU fJ aC5 bM bQ bO jY oX qG m_x gR qR nG oO pJ sW aF5)) hP hD rfl
        have hP := hPD.1
        have hD := hPD.2
        refine lv_aload_n hx hb aVr.2.2.2.2.2.1 rfl (lv_at hl 0 rfl) ?_
        refine lv_aload_n hx hb aVr.2.2.2.2.2.2.1 rfl (lv_at hl 0 rfl) ?_
        refine va_get (D := (dC, dI)) (ci := 10) (v := .int aC5) (C := zX) (T := aBe) (N := 51) hx hb hts aAt hown hK hP 0 rfl rfl 37 (lbz rfl) (hts _ q_878) (fun _ h9 => h9) rfl aVr.2.2.2.2.2.2.2.1 ?_
        refine lv_aload_n hx hb aVr.2.2.2.2.2.2.2.2.1 rfl (lv_at hl 0 rfl) ?_
        refine va_get (D := (dC, dI)) (ci := 10) (v := .ref lJ) (C := zX) (T := aBe) (N := 51) hx hb hts aAt hown hK hP 0 rfl rfl 36 (lbz rfl) (hts _ q_869) (fun _ h9 => h9) rfl aVr.2.2.2.2.2.2.2.2.2.1 ?_
        refine lv_iload_n hx hb aVr.2.2.2.2.2.2.2.2.2.2.1 rfl (lv_at hl 1 rfl) ?_
        have hin := hp.1
        have hp := hp.2
        refine va_iald hx hb hK hP 9 0 rfl rfl hin aVr.2.2.2.2.2.2.2.2.2.2.2.1 ?_
        refine lv_iand hx hb aVr.2.2.2.2.2.2.2.2.2.2.2.2.1 ?_
        refine lv_topi (fun v_5 aJD => ?_)
        have hp := hp v_5 aJD
        refine lv_aload_n hx hb aVr.2.2.2.2.2.2.2.2.2.2.2.2.2.1 rfl (lv_at hl 0 rfl) ?_
        refine va_get (D := (dC, dI)) (ci := 10) (v := .ref lJ) (C := zX) (T := aBe) (N := 51) hx hb hts aAt hown hK hP 0 rfl rfl 36 (lbz rfl) (hts _ q_869) (fun _ h9 => h9) rfl aVr.2.2.2.2.2.2.2.2.2.2.2.2.2.2.1 ?_
        refine lv_iload_n hx hb aVr.2.2.2.2.2.2.2.2.2.2.2.2.2.2.2 rfl (lv_at hl 2 rfl) ?_
        have hin := hp.1
        have hp := hp.2
        refine va_iald hx hb hK hP 9 0 rfl rfl hin aVs.1 ?_
        refine lv_topi (fun v_6 ev_6 => ?_)
        have hp := hp v_6 ev_6
        refine lv_iconst (v := (-1)) hx hb aVs.2.1 aEJ ?_
        refine lv_ixor hx hb aVs.2.2.1 ?_
        refine lv_iand hx hb aVs.2.2.2.1 ?_
        refine lv_topi (fun v_7 ev_7 => ?_)
        have hp := hp v_7 ev_7
        have hm := mgk (wc := (aD0 cI cC cZ cB cJ a_m nY sJ eG iY lY jR jW jZ jO oQ bR aY jQ gY iJ mQ lJ jA bG mK jB mW mJ eJ dG bT aG jC 0 0 jD mLn oF rP dQ aJ aB bW bZ aR aE bI aW bU fJ aC5 bM bQ bO jY oX sW)) hP aOv 10 rfl rfl rfl
        refine aBn hP hD hS hA (yS aOv) (aAi aOv) hm.1 hm.2 (aAk _) (zW _) (zF (As := [.int v_7]) (rest := []) C0 hP hD hS (yS aOv) hm.1 (aAl _) 0 10 rfl rfl (aGE l dC dI cI cC cZ cB cJ a_m nY sJ eG iY lY jR jW jZ jO oQ bR aY jQ gY iJ mQ lJ jA bG mK jB mW mJ eJ dG H.size v_7 bT aG jC 0 0 jD mLn oF rP dQ aJ aB bW bZ aR aE bI aW bU fJ aC5 bM bQ bO jY oX sW _ hp) q_849 q_852 q_850 q_851 aBL aGF rfl rfl ⟨lbz rfl, lbz rfl⟩ rfl rfl hl.1 rfl (lv_room (lbz rfl)) aVs.2.2.2.2.1 ⟨Nat.zero_le _, Nat.zero_le _⟩) (fun u H locs hp hP hD hS => ?_)
        obtain ⟨aG6, aUs⟩ := u
        have hPD := PDm (ws' := (wd_X10_both cI cC cZ cB cJ a_m nY sJ eG iY lY jR jW jZ jO oQ bR aY jQ gY iJ mQ lJ jA bG mK jB mW mJ eJ dG bT aG jC aG6 0 jD mLn oF rP dQ aJ aB bW bZ aR aE bI aW bU fJ aC5 bM bQ bO jY oX qG m_x gR qR nG oO pJ aUs aF5)) hP hD 10 rfl rfl rfl
        have hP := hPD.1
        have hD := hPD.2
        refine lv_aload_n hx hb aVs.2.2.2.2.2.1 rfl (lv_at hl 0 rfl) ?_
        refine lv_aload_n hx hb aVs.2.2.2.2.2.2.1 rfl (lv_at hl 0 rfl) ?_
        refine va_get (D := (dC, dI)) (ci := 10) (v := .int aC5) (C := zX) (T := aBe) (N := 51) hx hb hts aAt hown hK hP 0 rfl rfl 37 (lbz rfl) (hts _ q_878) (fun _ h9 => h9) rfl aVs.2.2.2.2.2.2.2.1 ?_
        refine lv_aload_n hx hb aVs.2.2.2.2.2.2.2.2.1 rfl (lv_at hl 0 rfl) ?_
        refine va_get (D := (dC, dI)) (ci := 10) (v := .ref lJ) (C := zX) (T := aBe) (N := 51) hx hb hts aAt hown hK hP 0 rfl rfl 36 (lbz rfl) (hts _ q_869) (fun _ h9 => h9) rfl aVs.2.2.2.2.2.2.2.2.2.1 ?_
        refine lv_iload_n hx hb aVs.2.2.2.2.2.2.2.2.2.2.1 rfl (lv_at hl 2 rfl) ?_
        have hin := hp.1
        have hp := hp.2
        refine va_iald hx hb hK hP 9 0 rfl rfl hin aVs.2.2.2.2.2.2.2.2.2.2.2.1 ?_
        refine lv_iand hx hb aVs.2.2.2.2.2.2.2.2.2.2.2.2.1 ?_
        refine lv_topi (fun aEr aNB => ?_)
        have hp := hp aEr aNB
        refine lv_aload_n hx hb aVs.2.2.2.2.2.2.2.2.2.2.2.2.2.1 rfl (lv_at hl 0 rfl) ?_
        refine va_get (D := (dC, dI)) (ci := 10) (v := .ref lJ) (C := zX) (T := aBe) (N := 51) hx hb hts aAt hown hK hP 0 rfl rfl 36 (lbz rfl) (hts _ q_869) (fun _ h9 => h9) rfl aVs.2.2.2.2.2.2.2.2.2.2.2.2.2.2.1 ?_
        refine lv_iload_n hx hb aVs.2.2.2.2.2.2.2.2.2.2.2.2.2.2.2 rfl (lv_at hl 1 rfl) ?_
        have hin := hp.1
        have hp := hp.2
        refine va_iald hx hb hK hP 9 0 rfl rfl hin aVt.1 ?_
        refine lv_topi (fun aGH ev_11 => ?_)
        have hp := hp aGH ev_11
        refine lv_iconst (v := (-1)) hx hb aVt.2.1 aEJ ?_
        refine lv_ixor hx hb aVt.2.2.1 ?_
        refine lv_iand hx hb aVt.2.2.2.1 ?_
        refine lv_topi (fun aEp ev_12 => ?_)
        have hp := hp aEp ev_12
        have hm := mgk (wc := (aD0 cI cC cZ cB cJ a_m nY sJ eG iY lY jR jW jZ jO oQ bR aY jQ gY iJ mQ lJ jA bG mK jB mW mJ eJ dG bT aG jC aG6 0 jD mLn oF rP dQ aJ aB bW bZ aR aE bI aW bU fJ aC5 bM bQ bO jY oX aUs)) hP aOv 10 rfl rfl rfl
        refine aBn hP hD hS hA (yS aOv) (aAi aOv) hm.1 hm.2 (aAk _) (zW _) (zF (As := [.int aEp]) (rest := []) C0 hP hD hS (yS aOv) hm.1 (aAl _) 0 10 rfl rfl (aGE l dC dI cI cC cZ cB cJ a_m nY sJ eG iY lY jR jW jZ jO oQ bR aY jQ gY iJ mQ lJ jA bG mK jB mW mJ eJ dG H.size aEp bT aG jC aG6 0 jD mLn oF rP dQ aJ aB bW bZ aR aE bI aW bU fJ aC5 bM bQ bO jY oX aUs _ hp) q_849 q_852 q_850 q_851 aBL aGF rfl rfl ⟨lbz rfl, lbz rfl⟩ rfl rfl hl.1 rfl (lv_room (lbz rfl)) aVt.2.2.2.2.1 ⟨Nat.zero_le _, Nat.zero_le _⟩) (fun u H locs hp hP hD hS => ?_)
        obtain ⟨bBI, m_row_14⟩ := u
        have hPD := PDm (ws' := (wd_X10_both cI cC cZ cB cJ a_m nY sJ eG iY lY jR jW jZ jO oQ bR aY jQ gY iJ mQ lJ jA bG mK jB mW mJ eJ dG bT aG jC bBI 0 jD mLn oF rP dQ aJ aB bW bZ aR aE bI aW bU fJ aC5 bM bQ bO jY oX qG m_x gR qR nG oO pJ m_row_14 aF5)) hP hD 10 rfl rfl rfl
        have hP := hPD.1
        have hD := hPD.2
        refine lv_aload_n hx hb aVt.2.2.2.2.2.1 rfl (lv_at hl 0 rfl) ?_
        refine va_get (D := (dC, dI)) (ci := 10) (v := .int aC5) (C := zX) (T := aBe) (N := 51) hx hb hts aAt hown hK hP 0 rfl rfl 37 (lbz rfl) (hts _ q_878) (fun _ h9 => h9) rfl aVt.2.2.2.2.2.2.1 ?_
        refine lv_aload_n hx hb aVt.2.2.2.2.2.2.2.1 rfl (lv_at hl 0 rfl) ?_
        refine va_get (D := (dC, dI)) (ci := 10) (v := .ref lJ) (C := zX) (T := aBe) (N := 51) hx hb hts aAt hown hK hP 0 rfl rfl 36 (lbz rfl) (hts _ q_869) (fun _ h9 => h9) rfl aVt.2.2.2.2.2.2.2.2.1 ?_
        refine lv_iload_n hx hb aVt.2.2.2.2.2.2.2.2.2.1 rfl (lv_at hl 1 rfl) ?_
        have hin := hp.1
        have hp := hp.2
        refine va_iald hx hb hK hP 9 0 rfl rfl hin aVt.2.2.2.2.2.2.2.2.2.2.1 ?_
        refine lv_iand hx hb aVt.2.2.2.2.2.2.2.2.2.2.2.1 ?_
        refine lv_topi (fun aHe ev_15 => ?_)
        have hp := hp aHe ev_15
        refine lv_aload_n hx hb aVt.2.2.2.2.2.2.2.2.2.2.2.2.1 rfl (lv_at hl 0 rfl) ?_
        refine va_get (D := (dC, dI)) (ci := 10) (v := .ref lJ) (C := zX) (T := aBe) (N := 51) hx hb hts aAt hown hK hP 0 rfl rfl 36 (lbz rfl) (hts _ q_869) (fun _ h9 => h9) rfl aVt.2.2.2.2.2.2.2.2.2.2.2.2.2.1 ?_
        refine lv_iload_n hx hb aVt.2.2.2.2.2.2.2.2.2.2.2.2.2.2.1 rfl (lv_at hl 2 rfl) ?_
        have hin := hp.1
        have hp := hp.2
        refine va_iald hx hb hK hP 9 0 rfl rfl hin aVt.2.2.2.2.2.2.2.2.2.2.2.2.2.2.2 ?_
        refine lv_iand hx hb eX10_both_102.1 ?_
        exact W.iret (v := aHe &&& (aF5 p1.toNatClampNeg)) hx hb hr (fun t ht hW => ⟨⟨aHe &&& (aF5 p1.toNatClampNeg), (bBI, 0, aC5, m_row_14, aF5), rfl, hp, by rw [ht]; exact hP, va_K.moved hW.alike hK, hD⟩, hS.F ht⟩) hS.2.2 eX10_both_102.2
      · have hp := hp.2 hc
        refine lv_iconst (v := (-1)) hx hb aSV.2.2.2.2.2.2.2.2.2.2.2.2.2.2.1 aEJ ?_
        exact W.iret (v := (-1)) hx hb hr (fun t ht hW => ⟨⟨(-1), (bL, 0, dO, sW, sH), rfl, hp, by rw [ht]; exact hP, va_K.moved hW.alike hK, hD⟩, hS.F ht⟩) hS.2.2 aSV.2.2.2.2.2.2.2.2.2.2.2.2.2.2.2
abbrev aRV (cI cC cZ cB cJ : ClassId) (a_m nY sJ eG iY lY jR jW jZ jO oQ bR aY jQ gY iJ mQ lJ jA bG mK jB mW mJ eJ dG : Nat) (bT aG jC bL bY : Int32) (jD : Nat) (mLn oF rP dQ aJ aB bW bZ aR aE bI aW bU fJ dO bM bQ bO jY oX : Int32) (m_x gR nG oO pJ : Nat -> Int32) : va_W := [(a_m, .inr (10, [.ref nY, .int bT, .ref sJ, .ref eG, .ref iY, .ref lY, .int aG, .ref jR, .ref jW, .ref jZ, .ref jO, .int jC, .ref oQ, .int bL, .int bY, rdv jO jQ jD, .int mLn, .int oF, .int rP, .int dQ, .ref bR, .ref aY, .int aJ, .int aB, .ref jQ, .int bW, .int bZ, .int aR, .int aE, .int bI, .int aW, .ref gY, .int bU, .ref iJ, .ref mQ, .int fJ, .ref lJ, .int dO, .ref jA, .ref bG, .int bM, .int bQ, .int bO, .ref mK, .ref jB, .ref mW, .int jY, .int oX, .ref mJ, .ref eJ, .ref dG])), (sJ, .inl (cI, 16, .inl m_x)), (eG, .inl (cI, 16, .inl gR)), (jR, .inl (cI, 8, .inl nG)), (jW, .inl (cI, 8, .inl oO)), (jZ, .inl (cI, 5, .inl pJ))]
abbrev q_X10_leanOf (dC : Nat -> ClassId) (dI : Nat -> Nat -> Nat) (cI cC cZ cB cJ : ClassId) (A : Nat -> Prop) (a_m nY sJ eG iY lY jR jW jZ jO oQ bR aY jQ gY iJ mQ lJ jA bG mK jB mW mJ eJ dG : Nat) (bT aG jC bL bY : Int32) (jD : Nat) (mLn oF rP dQ aJ aB bW bZ aR aE bI aW bU fJ dO bM bQ bO jY oX : Int32) (m_x gR nG oO pJ : Nat -> Int32) (post : Int32 -> Prop) : Array Value -> State -> Outcome -> State -> Prop := va_Qi (fun (r : Int32) (u : Unit) => post r) (fun u t => gB (dC, dI) (tyl cI cC cZ cB cJ) A (aRV cI cC cZ cB cJ a_m nY sJ eG iY lY jR jW jZ jO oQ bR aY jQ gY iJ mQ lJ jA bG mK jB mW mJ eJ dG bT aG jC bL bY jD mLn oF rP dQ aJ aB bW bZ aR aE bI aW bU fJ dO bM bQ bO jY oX m_x gR nG oO pJ) t) A
abbrev rm_X10_leanOf : Room := { frames := 3, cells := 0, slots := 0, locals := 66 }
section S_X10_leanOf
variable {p : Program} {l : Launch} {e : Env} {s : State} {m : MethodId} {args : Array Value} {below : List Frame} {meth : Method} {c : Code} {dC : Nat -> ClassId} {dI : Nat -> Nat -> Nat} {cI cC cZ cB cJ : ClassId} {A : Nat -> Prop} {a_m nY sJ eG iY lY jR jW jZ jO oQ bR aY jQ gY iJ mQ lJ jA bG mK jB mW mJ eJ dG : Nat} {bT aG jC bL bY : Int32} {jD : Nat} {mLn oF rP dQ aJ aB bW bZ aR aE bI aW bU fJ dO bM bQ bO jY oX : Int32} {m_x gR nG oO pJ : Nat -> Int32} {post : Int32 -> Prop}
def ws_X10_leanOf_2 (post : Int32 -> Prop) (next : Int32 -> Int32 -> Int32 -> Prop) (m_x gR nG oO pJ : Nat -> Int32) (x1 x2 x3 : Int32) : Prop := (30 < x3 -> post x3) /\ (¬ 30 < x3 -> ∀ v_1 : Int32, v_1 = pJ (0 : Int32).toNatClampNeg -> ∀ v_2 : Int32, v_2 = v_1 + x3 -> aUZ (fun r_3 => (¬ r_3 = 0 -> post x3) /\ (r_3 = 0 -> ∀ v_4 : Int32, v_4 = x3 + 1 -> next x1 x2 v_4)) x1 x2 v_2 m_x gR nG oO)
noncomputable def wb_X10_leanOf_2 (post : Int32 -> Prop) (m_x gR nG oO pJ : Nat -> Int32) : Nat -> Int32 -> Int32 -> Int32 -> Prop := fun n => Nat.rec (motive := fun _ => Int32 -> Int32 -> Int32 -> Prop) (fun _ _ _ => False) (fun _ ih => ws_X10_leanOf_2 post ih m_x gR nG oO pJ) n
set_option maxHeartbeats 4000000 in
set_option maxRecDepth 100000 in
theorem ks_X10_leanOf_2 (C0 : gc aNI (some .int) 4 zX (dC, dI) (tyl cI cC cZ cB cJ) A p s m args meth c) {next : Int32 -> Int32 -> Int32 -> Prop} (hKn : ∀ (x1 : Int32) (x2 : Int32) (x3 : Int32) (H : Heap) (locs : List Loc) (ls : Array Slot), next x1 x2 x3 -> va_P (dC, dI) classes (aRV cI cC cZ cB cJ a_m nY sJ eG iY lY jR jW jZ jO oQ bR aY jQ gY iJ mQ lJ jA bG mK jB mW mJ eJ dG bT aG jC bL bY jD mLn oF rP dQ aJ aB bW bZ aR aE bI aW bU fJ dO bM bQ bO jY oX m_x gR nG oO pJ) H -> va_D A (aRV cI cC cZ cB cJ a_m nY sJ eG iY lY jR jW jZ jO oQ bR aY jQ gY iJ mQ lJ jA bG mK jB mW mJ eJ dG bT aG jC bL bY jD mLn oF rP dQ aJ aB bW bZ aR aE bI aW bU fJ dO bM bQ bO jY oX m_x gR nG oO pJ) -> va_S A s.heap H locs -> lv_has ls 4 [(0, .ref a_m), (1, .int x1), (2, .int x2), (3, .int x3)] -> W p l e rm_X10_leanOf s m args below meth c H locs 0 0 (MQ below (q_X10_leanOf dC dI cI cC cZ cB cJ A a_m nY sJ eG iY lY jR jW jZ jO oQ bR aY jQ gY iJ mQ lJ jA bG mK jB mW mJ eJ dG bT aG jC bL bY jD mLn oF rP dQ aJ aB bW bZ aR aE bI aW bU fJ dO bM bQ bO jY oX m_x gR nG oO pJ post) args s 0 0 A) (F0 m 2 ls [])) : ∀ (x1 x2 x3 : Int32) (H : Heap) (locs : List Loc) (ls : Array Slot), (ws_X10_leanOf_2 post next m_x gR nG oO pJ) x1 x2 x3 -> va_P (dC, dI) classes (aRV cI cC cZ cB cJ a_m nY sJ eG iY lY jR jW jZ jO oQ bR aY jQ gY iJ mQ lJ jA bG mK jB mW mJ eJ dG bT aG jC bL bY jD mLn oF rP dQ aJ aB bW bZ aR aE bI aW bU fJ dO bM bQ bO jY oX m_x gR nG oO pJ) H -> va_D A (aRV cI cC cZ cB cJ a_m nY sJ eG iY lY jR jW jZ jO oQ bR aY jQ gY iJ mQ lJ jA bG mK jB mW mJ eJ dG bT aG jC bL bY jD mLn oF rP dQ aJ aB bW bZ aR aE bI aW bU fJ dO bM bQ bO jY oX m_x gR nG oO pJ) -> va_S A s.heap H locs -> lv_has ls 4 [(0, .ref a_m), (1, .int x1), (2, .int x2), (3, .int x3)] -> W p l e rm_X10_leanOf s m args below meth c H locs 0 0 (MQ below (q_X10_leanOf dC dI cI cC cZ cB cJ A a_m nY sJ eG iY lY jR jW jZ jO oQ bR aY jQ gY iJ mQ lJ jA bG mK jB mW mJ eJ dG bT aG jC bL bY jD mLn oF rP dQ aJ aB bW bZ aR aE bI aW bU fJ dO bM bQ bO jY oX m_x gR nG oO pJ post) args s 0 0 A) (F0 m 2 ls []) := by
  obtain ⟨hx, hb, hr, hml, hown, hts, hlocks, hA, hK, hN, tL, tM, hZL, hTL, hZM, hTM, hZX⟩ := id C0
  intro x1 x2 x3 H locs ls hp hP hD hS hl
  unfold ws_X10_leanOf_2 at hp
  refine lv_iload_n hx hb aS4.2.2.1 rfl (lv_at hl 3 rfl) ?_
  refine lv_bipush (v := 30) hx hb aS4.2.2.2.1 bp_30 ?_
  refine lv_icmp_gt (tgt := 31) hx hb aS4.2.2.2.2.1 (by decide) (fun hc => ?_) (fun hc => ?_)
  · have hp := hp.1 hc
    refine lv_iload_n hx hb eX10_leanOf_25.2.2.1 rfl (lv_at hl 3 rfl) ?_
    exact W.iret (v := x3) hx hb hr (fun t ht hW => ⟨⟨x3, (), rfl, hp, by rw [ht]; exact hP, va_K.moved hW.alike hK, hD⟩, hS.F ht⟩) hS.2.2 eX10_leanOf_25.2.2.2
  · have hp := hp.2 hc
    refine lv_aload_n hx hb aS4.2.2.2.2.2.1 rfl (lv_at hl 0 rfl) ?_
    refine lv_iload_n hx hb aS4.2.2.2.2.2.2.1 rfl (lv_at hl 1 rfl) ?_
    refine lv_iload_n hx hb aS4.2.2.2.2.2.2.2.1 rfl (lv_at hl 2 rfl) ?_
    refine lv_aload_n hx hb aS4.2.2.2.2.2.2.2.2.1 rfl (lv_at hl 0 rfl) ?_
    refine va_get (D := (dC, dI)) (ci := 10) (v := .ref jZ) (C := zX) (T := aBe) (N := 51) hx hb hts aAt hown hK hP 0 rfl rfl 9 (lbz rfl) (hts _ q_765) (fun _ h9 => h9) rfl aS4.2.2.2.2.2.2.2.2.2.1 ?_
    refine lv_iconst (v := 0) hx hb aS4.2.2.2.2.2.2.2.2.2.2.1 aCi ?_
    refine va_iald hx hb hK hP 5 0 rfl rfl (g_in rfl) aS4.2.2.2.2.2.2.2.2.2.2.2.1 ?_
    refine lv_topi (fun v_1 aFJ => ?_)
    have hp := hp v_1 aFJ
    refine lv_iload_n hx hb aS4.2.2.2.2.2.2.2.2.2.2.2.2.1 rfl (lv_at hl 3 rfl) ?_
    refine lv_iadd hx hb aS4.2.2.2.2.2.2.2.2.2.2.2.2.2.1 ?_
    refine lv_topi (fun v_2 aGO => ?_)
    have hp := hp v_2 aGO
    have hm := mgk (wc := (aRp cI cC cZ cB cJ a_m nY sJ eG iY lY jR jW jZ jO oQ bR aY jQ gY iJ mQ lJ jA bG mK jB mW mJ eJ dG bT aG jC bL bY jD mLn oF rP dQ aJ aB bW bZ aR aE bI aW bU fJ dO bM bQ bO jY oX m_x gR nG oO)) hP mk_122 6 rfl rfl rfl
    refine yW hP hD hS hA (yS mk_122) (aAi mk_122) hm.1 hm.2 (aAk _) (zW _) (zF (As := [.int x1, .int x2, .int v_2]) (rest := []) C0 hP hD hS (yS mk_122) hm.1 (aAl _) 0 10 rfl rfl (c_X10_isWithin l dC dI cI cC cZ cB cJ a_m nY sJ eG iY lY jR jW jZ jO oQ bR aY jQ gY iJ mQ lJ jA bG mK jB mW mJ eJ dG H.size x1 x2 v_2 bT aG jC bL bY jD mLn oF rP dQ aJ aB bW bZ aR aE bI aW bU fJ dO bM bQ bO jY oX m_x gR nG oO _ hp) q_799 q_802 q_800 q_801 aBL h_X10_isWithin rfl rfl ⟨lbz rfl, lbz rfl⟩ rfl rfl hl.1 rfl (lv_room (lbz rfl)) aS4.2.2.2.2.2.2.2.2.2.2.2.2.2.2.1 ⟨Nat.zero_le _, Nat.zero_le _⟩) (fun r_3 u H locs hp hP hD hS => ?_)
    have hPD := PDm (ws' := (aRV cI cC cZ cB cJ a_m nY sJ eG iY lY jR jW jZ jO oQ bR aY jQ gY iJ mQ lJ jA bG mK jB mW mJ eJ dG bT aG jC bL bY jD mLn oF rP dQ aJ aB bW bZ aR aE bI aW bU fJ dO bM bQ bO jY oX m_x gR nG oO pJ)) hP hD 6 rfl rfl rfl
    have hP := hPD.1
    have hD := hPD.2
    refine lv_if_ne (tgt := 31) hx hb aS4.2.2.2.2.2.2.2.2.2.2.2.2.2.2.2 (by decide) (fun hc => ?_) (fun hc => ?_)
    · have hp := hp.1 hc
      refine lv_iload_n hx hb eX10_leanOf_25.2.2.1 rfl (lv_at hl 3 rfl) ?_
      exact W.iret (v := x3) hx hb hr (fun t ht hW => ⟨⟨x3, (), rfl, hp, by rw [ht]; exact hP, va_K.moved hW.alike hK, hD⟩, hS.F ht⟩) hS.2.2 eX10_leanOf_25.2.2.2
    · have hp := hp.2 hc
      obtain ⟨v_4, aHM⟩ : ∃ y : Int32, y = x3 + 1 := ⟨_, rfl⟩
      refine lv_iinc (v := v_4) (lv' := [(3, .int v_4), (0, .ref a_m), (1, .int x1), (2, .int x2)]) hx hb eX10_leanOf_25.1 hl (k := 3) rfl (by rw [aHM]; rfl) (by decide) rfl (fun ls hl => ?_)
      have hp := hp v_4 aHM
      refine lv_goto (tgt := 2) hx hb eX10_leanOf_25.2.1 (by decide) ?_
      exact hKn x1 x2 v_4 H locs ls hp hP hD hS (lv_sub hl [1, 2, 3, 0] rfl)
set_option maxHeartbeats 4000000 in
set_option maxRecDepth 100000 in
theorem kb_X10_leanOf_2 (C0 : gc aNI (some .int) 4 zX (dC, dI) (tyl cI cC cZ cB cJ) A p s m args meth c) : ∀ (n : Nat), ∀ (x1 x2 x3 : Int32) (H : Heap) (locs : List Loc) (ls : Array Slot), (wb_X10_leanOf_2 post m_x gR nG oO pJ n) x1 x2 x3 -> va_P (dC, dI) classes (aRV cI cC cZ cB cJ a_m nY sJ eG iY lY jR jW jZ jO oQ bR aY jQ gY iJ mQ lJ jA bG mK jB mW mJ eJ dG bT aG jC bL bY jD mLn oF rP dQ aJ aB bW bZ aR aE bI aW bU fJ dO bM bQ bO jY oX m_x gR nG oO pJ) H -> va_D A (aRV cI cC cZ cB cJ a_m nY sJ eG iY lY jR jW jZ jO oQ bR aY jQ gY iJ mQ lJ jA bG mK jB mW mJ eJ dG bT aG jC bL bY jD mLn oF rP dQ aJ aB bW bZ aR aE bI aW bU fJ dO bM bQ bO jY oX m_x gR nG oO pJ) -> va_S A s.heap H locs -> lv_has ls 4 [(0, .ref a_m), (1, .int x1), (2, .int x2), (3, .int x3)] -> W p l e rm_X10_leanOf s m args below meth c H locs 0 0 (MQ below (q_X10_leanOf dC dI cI cC cZ cB cJ A a_m nY sJ eG iY lY jR jW jZ jO oQ bR aY jQ gY iJ mQ lJ jA bG mK jB mW mJ eJ dG bT aG jC bL bY jD mLn oF rP dQ aJ aB bW bZ aR aE bI aW bU fJ dO bM bQ bO jY oX m_x gR nG oO pJ post) args s 0 0 A) (F0 m 2 ls []) := by
  intro n
  induction n with
  | zero =>
    intro x1 x2 x3 H locs ls hp
    exact False.elim hp
  | succ n ih =>
    intro x1 x2 x3 H locs ls hp
    exact ks_X10_leanOf_2 C0 ih x1 x2 x3 H locs ls hp
end S_X10_leanOf
def aUA (post : Int32 -> Prop) (p0 p1 : Int32) (m_x gR nG oO pJ : Nat -> Int32) : Prop := ∃ n : Nat, wb_X10_leanOf_2 post m_x gR nG oO pJ n p0 p1 0
set_option maxHeartbeats 4000000 in
set_option maxRecDepth 100000 in
theorem c_X10_leanOf (l : Launch) (dC : Nat -> ClassId) (dI : Nat -> Nat -> Nat) (cI cC cZ cB cJ : ClassId) (a_m nY sJ eG iY lY jR jW jZ jO oQ bR aY jQ gY iJ mQ lJ jA bG mK jB mW mJ eJ dG sz : Nat) (p0 p1 bT aG jC bL bY : Int32) (jD : Nat) (mLn oF rP dQ aJ aB bW bZ aR aE bI aW bU fJ dO bM bQ bO jY oX : Int32) (m_x gR nG oO pJ : Nat -> Int32) (post : Int32 -> Prop) (hw : aUA post p0 p1 m_x gR nG oO pJ) : Met l yX10_leanOf (gw yX10_leanOf aNI 4 (some .int)) rm_X10_leanOf (va_Pc [.ref a_m, .int p0, .int p1] (gPre (dC, dI) (tyl cI cC cZ cB cJ) (aRV cI cC cZ cB cJ a_m nY sJ eG iY lY jR jW jZ jO oQ bR aY jQ gY iJ mQ lJ jA bG mK jB mW mJ eJ dG bT aG jC bL bY jD mLn oF rP dQ aJ aB bW bZ aR aE bI aW bU fJ dO bM bQ bO jY oX m_x gR nG oO pJ) sz)) (q_X10_leanOf dC dI cI cC cZ cB cJ (va_A (aRV cI cC cZ cB cJ a_m nY sJ eG iY lY jR jW jZ jO oQ bR aY jQ gY iJ mQ lJ jA bG mK jB mW mJ eJ dG bT aG jC bL bY jD mLn oF rP dQ aJ aB bW bZ aR aE bI aW bU fJ dO bM bQ bO jY oX m_x gR nG oO pJ) sz) a_m nY sJ eG iY lY jR jW jZ jO oQ bR aY jQ gY iJ mQ lJ jA bG mK jB mW mJ eJ dG bT aG jC bL bY jD mLn oF rP dQ aJ aB bW bZ aR aE bI aW bU fJ dO bM bQ bO jY oX m_x gR nG oO pJ post) 0 0 (va_A (aRV cI cC cZ cB cJ a_m nY sJ eG iY lY jR jW jZ jO oQ bR aY jQ gY iJ mQ lJ jA bG mK jB mW mJ eJ dG bT aG jC bL bY jD mLn oF rP dQ aJ aB bW bZ aR aE bI aW bU fJ dO bM bQ bO jY oX m_x gR nG oO pJ) sz) := by
  refine aBJ (own := zX) (dC, dI) (tyl cI cC cZ cB cJ) (aRV cI cC cZ cB cJ a_m nY sJ eG iY lY jR jW jZ jO oQ bR aY jQ gY iJ mQ lJ jA bG mK jB mW mJ eJ dG bT aG jC bL bY jD mLn oF rP dQ aJ aB bW bZ aR aE bI aW bU fJ dO bM bQ bO jY oX m_x gR nG oO pJ) sz [.ref a_m, .int p0, .int p1] (fun A => q_X10_leanOf dC dI cI cC cZ cB cJ A a_m nY sJ eG iY lY jR jW jZ jO oQ bR aY jQ gY iJ mQ lJ jA bG mK jB mW mJ eJ dG bT aG jC bL bY jD mLn oF rP dQ aJ aB bW bZ aR aE bI aW bU fJ dO bM bQ bO jY oX m_x gR nG oO pJ post) aFY rfl (lbz rfl) ?_
  intro p e s m args below meth c A H locs ls C0 hP hD hS hl
  have hl : lv_has ls 4 [(0, .ref a_m), (1, .int p0), (2, .int p1)] := hl
  obtain ⟨hx, hb, hr, hml, hown, hts, hlocks, hA, hK, hN, tL, tM, hZL, hTL, hZM, hTM, hZX⟩ := id C0
  have hp := hw
  unfold aUA at hp
  refine lv_iconst (v := 0) hx hb aS4.1 aCi ?_
  refine lv_istore_n (lv' := [(3, .int 0), (0, .ref a_m), (1, .int p0), (2, .int p1)]) hx hb aS4.2.1 rfl hl (by decide) rfl (fun ls hl => ?_)
  obtain ⟨n9, hp⟩ := hp
  exact kb_X10_leanOf_2 C0 n9 p0 p1 0 H locs ls hp hP hD hS (lv_sub hl [1, 2, 3, 0] rfl)
abbrev aGP (cI cC cZ cB cJ : ClassId) (a_m nY sJ eG iY lY jR jW jZ jO oQ bR aY jQ gY iJ mQ lJ jA bG mK jB mW mJ eJ dG : Nat) (bT aG jC bL bY : Int32) (jD : Nat) (mLn oF rP dQ aJ aB bW bZ aR aE bI aW bU fJ dO bM bQ bO jY oX : Int32) (m_x gR nG oO pJ sW : Nat -> Int32) : va_W := [(a_m, .inr (10, [.ref nY, .int bT, .ref sJ, .ref eG, .ref iY, .ref lY, .int aG, .ref jR, .ref jW, .ref jZ, .ref jO, .int jC, .ref oQ, .int bL, .int bY, rdv jO jQ jD, .int mLn, .int oF, .int rP, .int dQ, .ref bR, .ref aY, .int aJ, .int aB, .ref jQ, .int bW, .int bZ, .int aR, .int aE, .int bI, .int aW, .ref gY, .int bU, .ref iJ, .ref mQ, .int fJ, .ref lJ, .int dO, .ref jA, .ref bG, .int bM, .int bQ, .int bO, .ref mK, .ref jB, .ref mW, .int jY, .int oX, .ref mJ, .ref eJ, .ref dG])), (sJ, .inl (cI, 16, .inl m_x)), (eG, .inl (cI, 16, .inl gR)), (jR, .inl (cI, 8, .inl nG)), (jW, .inl (cI, 8, .inl oO)), (jZ, .inl (cI, 5, .inl pJ)), (oQ, .inl (cI, 32, .inl sW))]
abbrev q_X10_nearest (dC : Nat -> ClassId) (dI : Nat -> Nat -> Nat) (cI cC cZ cB cJ : ClassId) (A : Nat -> Prop) (a_m nY sJ eG iY lY jR jW jZ jO oQ bR aY jQ gY iJ mQ lJ jA bG mK jB mW mJ eJ dG : Nat) (bT aG jC : Int32) (jD : Nat) (mLn oF rP dQ aJ aB bW bZ aR aE bI aW bU fJ dO bM bQ bO jY oX : Int32) (m_x gR nG oO pJ : Nat -> Int32) (post : Int32 -> Int32 -> Int32 -> (Nat -> Int32) -> Prop) : Array Value -> State -> Outcome -> State -> Prop := va_Qi (fun (r : Int32) (u : Int32 × Int32 × (Nat -> Int32)) => post r u.1 u.2.1 u.2.2) (fun u t => gB (dC, dI) (tyl cI cC cZ cB cJ) A (aGP cI cC cZ cB cJ a_m nY sJ eG iY lY jR jW jZ jO oQ bR aY jQ gY iJ mQ lJ jA bG mK jB mW mJ eJ dG bT aG jC u.1 u.2.1 jD mLn oF rP dQ aJ aB bW bZ aR aE bI aW bU fJ dO bM bQ bO jY oX m_x gR nG oO pJ u.2.2) t) A
abbrev rm_X10_nearest : Room := { frames := 4, cells := 0, slots := 0, locals := 89 }
section S_X10_nearest
variable {p : Program} {l : Launch} {e : Env} {s : State} {m : MethodId} {args : Array Value} {below : List Frame} {meth : Method} {c : Code} {dC : Nat -> ClassId} {dI : Nat -> Nat -> Nat} {cI cC cZ cB cJ : ClassId} {A : Nat -> Prop} {a_m nY sJ eG iY lY jR jW jZ jO oQ bR aY jQ gY iJ mQ lJ jA bG mK jB mW mJ eJ dG : Nat} {bT aG jC : Int32} {jD : Nat} {mLn oF rP dQ aJ aB bW bZ aR aE bI aW bU fJ dO bM bQ bO jY oX : Int32} {m_x gR nG oO pJ : Nat -> Int32} {post : Int32 -> Int32 -> Int32 -> (Nat -> Int32) -> Prop}
def aYH (post : Int32 -> Int32 -> Int32 -> (Nat -> Int32) -> Prop) (K20 : Int32 -> Int32 -> Int32 -> Int32 -> Int32 -> (Nat -> Int32) -> Prop) (bT aG : Int32) (m_x gR nG oO pJ : Nat -> Int32) (x1 x2 x3 bL bY : Int32) (sW : Nat -> Int32) : Prop := ∀ v_6 : Int32, v_6 = x3 + 1 -> K20 x1 x2 v_6 bL bY sW
set_option maxHeartbeats 4000000 in
set_option maxRecDepth 100000 in
theorem ks_X10_nearest_60 (C0 : gc aDD (some .int) 4 zX (dC, dI) (tyl cI cC cZ cB cJ) A p s m args meth c) {K20 : Int32 -> Int32 -> Int32 -> Int32 -> Int32 -> (Nat -> Int32) -> Prop} (hK20 : ∀ (x1 : Int32) (x2 : Int32) (x3 : Int32) (bL : Int32) (bY : Int32) (sW : Nat -> Int32) (H : Heap) (locs : List Loc) (ls : Array Slot), K20 x1 x2 x3 bL bY sW -> va_P (dC, dI) classes (aGP cI cC cZ cB cJ a_m nY sJ eG iY lY jR jW jZ jO oQ bR aY jQ gY iJ mQ lJ jA bG mK jB mW mJ eJ dG bT aG jC bL bY jD mLn oF rP dQ aJ aB bW bZ aR aE bI aW bU fJ dO bM bQ bO jY oX m_x gR nG oO pJ sW) H -> va_D A (aGP cI cC cZ cB cJ a_m nY sJ eG iY lY jR jW jZ jO oQ bR aY jQ gY iJ mQ lJ jA bG mK jB mW mJ eJ dG bT aG jC bL bY jD mLn oF rP dQ aJ aB bW bZ aR aE bI aW bU fJ dO bM bQ bO jY oX m_x gR nG oO pJ sW) -> va_S A s.heap H locs -> lv_has ls 4 [(0, .ref a_m), (1, .int x1), (2, .int x2), (3, .int x3)] -> W p l e rm_X10_nearest s m args below meth c H locs 0 0 (MQ below (q_X10_nearest dC dI cI cC cZ cB cJ A a_m nY sJ eG iY lY jR jW jZ jO oQ bR aY jQ gY iJ mQ lJ jA bG mK jB mW mJ eJ dG bT aG jC jD mLn oF rP dQ aJ aB bW bZ aR aE bI aW bU fJ dO bM bQ bO jY oX m_x gR nG oO pJ post) args s 0 0 A) (F0 m 20 ls [])) : ∀ (x1 x2 x3 bL bY : Int32) (sW : Nat -> Int32) (H : Heap) (locs : List Loc) (ls : Array Slot), (aYH post K20 bT aG m_x gR nG oO pJ) x1 x2 x3 bL bY sW -> va_P (dC, dI) classes (aGP cI cC cZ cB cJ a_m nY sJ eG iY lY jR jW jZ jO oQ bR aY jQ gY iJ mQ lJ jA bG mK jB mW mJ eJ dG bT aG jC bL bY jD mLn oF rP dQ aJ aB bW bZ aR aE bI aW bU fJ dO bM bQ bO jY oX m_x gR nG oO pJ sW) H -> va_D A (aGP cI cC cZ cB cJ a_m nY sJ eG iY lY jR jW jZ jO oQ bR aY jQ gY iJ mQ lJ jA bG mK jB mW mJ eJ dG bT aG jC bL bY jD mLn oF rP dQ aJ aB bW bZ aR aE bI aW bU fJ dO bM bQ bO jY oX m_x gR nG oO pJ sW) -> va_S A s.heap H locs -> lv_has ls 4 [(0, .ref a_m), (1, .int x1), (2, .int x2), (3, .int x3)] -> W p l e rm_X10_nearest s m args below meth c H locs 0 0 (MQ below (q_X10_nearest dC dI cI cC cZ cB cJ A a_m nY sJ eG iY lY jR jW jZ jO oQ bR aY jQ gY iJ mQ lJ jA bG mK jB mW mJ eJ dG bT aG jC jD mLn oF rP dQ aJ aB bW bZ aR aE bI aW bU fJ dO bM bQ bO jY oX m_x gR nG oO pJ post) args s 0 0 A) (F0 m 60 ls []) := by
  obtain ⟨hx, hb, hr, hml, hown, hts, hlocks, hA, hK, hN, tL, tM, hZL, hTL, hZM, hTM, hZX⟩ := id C0
  intro x1 x2 x3 bL bY sW H locs ls hp hP hD hS hl
  unfold aYH at hp
  obtain ⟨v_6, ev_6⟩ : ∃ y : Int32, y = x3 + 1 := ⟨_, rfl⟩
  refine lv_iinc (v := v_6) (lv' := [(3, .int v_6), (0, .ref a_m), (1, .int x1), (2, .int x2)]) hx hb aNq.2.2.2.2.1 hl (k := 3) rfl (by rw [ev_6]; rfl) (by decide) rfl (fun ls hl => ?_)
  have hp := hp v_6 ev_6
  refine lv_goto (tgt := 20) hx hb aNq.2.2.2.2.2.1 (by decide) ?_
  exact hK20 x1 x2 v_6 bL bY sW H locs ls hp hP hD hS (lv_sub hl [1, 2, 3, 0] rfl)
def ws_X10_nearest_58 (post : Int32 -> Int32 -> Int32 -> (Nat -> Int32) -> Prop) (K20 : Int32 -> Int32 -> Int32 -> Int32 -> Int32 -> (Nat -> Int32) -> Prop) (bT aG : Int32) (m_x gR nG oO pJ : Nat -> Int32) (x1 x3 bL bY : Int32) (sW : Nat -> Int32) : Prop := aYH post K20 bT aG m_x gR nG oO pJ x1 x3 x3 bL bY sW
set_option maxHeartbeats 4000000 in
set_option maxRecDepth 100000 in
theorem ks_X10_nearest_58 (C0 : gc aDD (some .int) 4 zX (dC, dI) (tyl cI cC cZ cB cJ) A p s m args meth c) {K20 : Int32 -> Int32 -> Int32 -> Int32 -> Int32 -> (Nat -> Int32) -> Prop} (hK20 : ∀ (x1 : Int32) (x2 : Int32) (x3 : Int32) (bL : Int32) (bY : Int32) (sW : Nat -> Int32) (H : Heap) (locs : List Loc) (ls : Array Slot), K20 x1 x2 x3 bL bY sW -> va_P (dC, dI) classes (aGP cI cC cZ cB cJ a_m nY sJ eG iY lY jR jW jZ jO oQ bR aY jQ gY iJ mQ lJ jA bG mK jB mW mJ eJ dG bT aG jC bL bY jD mLn oF rP dQ aJ aB bW bZ aR aE bI aW bU fJ dO bM bQ bO jY oX m_x gR nG oO pJ sW) H -> va_D A (aGP cI cC cZ cB cJ a_m nY sJ eG iY lY jR jW jZ jO oQ bR aY jQ gY iJ mQ lJ jA bG mK jB mW mJ eJ dG bT aG jC bL bY jD mLn oF rP dQ aJ aB bW bZ aR aE bI aW bU fJ dO bM bQ bO jY oX m_x gR nG oO pJ sW) -> va_S A s.heap H locs -> lv_has ls 4 [(0, .ref a_m), (1, .int x1), (2, .int x2), (3, .int x3)] -> W p l e rm_X10_nearest s m args below meth c H locs 0 0 (MQ below (q_X10_nearest dC dI cI cC cZ cB cJ A a_m nY sJ eG iY lY jR jW jZ jO oQ bR aY jQ gY iJ mQ lJ jA bG mK jB mW mJ eJ dG bT aG jC jD mLn oF rP dQ aJ aB bW bZ aR aE bI aW bU fJ dO bM bQ bO jY oX m_x gR nG oO pJ post) args s 0 0 A) (F0 m 20 ls [])) : ∀ (x1 x3 bL bY : Int32) (sW : Nat -> Int32) (H : Heap) (locs : List Loc) (ls : Array Slot), (ws_X10_nearest_58 post K20 bT aG m_x gR nG oO pJ) x1 x3 bL bY sW -> va_P (dC, dI) classes (aGP cI cC cZ cB cJ a_m nY sJ eG iY lY jR jW jZ jO oQ bR aY jQ gY iJ mQ lJ jA bG mK jB mW mJ eJ dG bT aG jC bL bY jD mLn oF rP dQ aJ aB bW bZ aR aE bI aW bU fJ dO bM bQ bO jY oX m_x gR nG oO pJ sW) H -> va_D A (aGP cI cC cZ cB cJ a_m nY sJ eG iY lY jR jW jZ jO oQ bR aY jQ gY iJ mQ lJ jA bG mK jB mW mJ eJ dG bT aG jC bL bY jD mLn oF rP dQ aJ aB bW bZ aR aE bI aW bU fJ dO bM bQ bO jY oX m_x gR nG oO pJ sW) -> va_S A s.heap H locs -> lv_has ls 4 [(0, .ref a_m), (1, .int x1), (3, .int x3)] -> W p l e rm_X10_nearest s m args below meth c H locs 0 0 (MQ below (q_X10_nearest dC dI cI cC cZ cB cJ A a_m nY sJ eG iY lY jR jW jZ jO oQ bR aY jQ gY iJ mQ lJ jA bG mK jB mW mJ eJ dG bT aG jC jD mLn oF rP dQ aJ aB bW bZ aR aE bI aW bU fJ dO bM bQ bO jY oX m_x gR nG oO pJ post) args s 0 0 A) (F0 m 58 ls []) := by
  obtain ⟨hx, hb, hr, hml, hown, hts, hlocks, hA, hK, hN, tL, tM, hZL, hTL, hZM, hTM, hZX⟩ := id C0
  intro x1 x3 bL bY sW H locs ls hp hP hD hS hl
  unfold ws_X10_nearest_58 at hp
  refine lv_iload_n hx hb aNq.2.2.1 rfl (lv_at hl 2 rfl) ?_
  refine lv_istore_n (lv' := [(2, .int x3), (0, .ref a_m), (1, .int x1), (3, .int x3)]) hx hb aNq.2.2.2.1 rfl hl (by decide) rfl (fun ls hl => ?_)
  exact ks_X10_nearest_60 C0 hK20 x1 x3 x3 bL bY sW H locs ls hp hP hD hS (lv_sub hl [1, 2, 0, 3] rfl)
def ws_X10_nearest_20 (post : Int32 -> Int32 -> Int32 -> (Nat -> Int32) -> Prop) (next : Int32 -> Int32 -> Int32 -> Int32 -> Int32 -> (Nat -> Int32) -> Prop) (bT aG : Int32) (m_x gR nG oO pJ : Nat -> Int32) (x1 x2 x3 bL bY : Int32) (sW : Nat -> Int32) : Prop := (aG <= x3 -> (0 <= x2 -> aUA (fun r_2 => aDs (fun aPZ m_row_4 => post x2 aPZ bY m_row_4) r_2 0 sW) x1 x2 m_x gR nG oO pJ) /\ (¬ 0 <= x2 -> post (-2) bL bY sW)) /\ (¬ aG <= x3 -> aUA (fun r_5 => (30 < r_5 -> aYH post next bT aG m_x gR nG oO pJ x1 x2 x3 bL bY sW) /\ (¬ 30 < r_5 -> (x2 < 0 -> ws_X10_nearest_58 post next bT aG m_x gR nG oO pJ x1 x3 bL bY sW) /\ (¬ x2 < 0 -> aUA (fun r_7 => aUA (fun r_8 => (r_8 <= r_7 -> aYH post next bT aG m_x gR nG oO pJ x1 x2 x3 bL bY sW) /\ (¬ r_8 <= r_7 -> ws_X10_nearest_58 post next bT aG m_x gR nG oO pJ x1 x3 bL bY sW)) x1 x2 m_x gR nG oO pJ) x1 x3 m_x gR nG oO pJ))) x1 x3 m_x gR nG oO pJ)
noncomputable def wb_X10_nearest_20 (post : Int32 -> Int32 -> Int32 -> (Nat -> Int32) -> Prop) (bT aG : Int32) (m_x gR nG oO pJ : Nat -> Int32) : Nat -> Int32 -> Int32 -> Int32 -> Int32 -> Int32 -> (Nat -> Int32) -> Prop := fun n => Nat.rec (motive := fun _ => Int32 -> Int32 -> Int32 -> Int32 -> Int32 -> (Nat -> Int32) -> Prop) (fun _ _ _ _ _ _ => False) (fun _ ih => ws_X10_nearest_20 post ih bT aG m_x gR nG oO pJ) n
set_option maxHeartbeats 4000000 in
set_option maxRecDepth 100000 in
theorem ks_X10_nearest_20 (C0 : gc aDD (some .int) 4 zX (dC, dI) (tyl cI cC cZ cB cJ) A p s m args meth c) {next : Int32 -> Int32 -> Int32 -> Int32 -> Int32 -> (Nat -> Int32) -> Prop} (hKn : ∀ (x1 : Int32) (x2 : Int32) (x3 : Int32) (bL : Int32) (bY : Int32) (sW : Nat -> Int32) (H : Heap) (locs : List Loc) (ls : Array Slot), next x1 x2 x3 bL bY sW -> va_P (dC, dI) classes (aGP cI cC cZ cB cJ a_m nY sJ eG iY lY jR jW jZ jO oQ bR aY jQ gY iJ mQ lJ jA bG mK jB mW mJ eJ dG bT aG jC bL bY jD mLn oF rP dQ aJ aB bW bZ aR aE bI aW bU fJ dO bM bQ bO jY oX m_x gR nG oO pJ sW) H -> va_D A (aGP cI cC cZ cB cJ a_m nY sJ eG iY lY jR jW jZ jO oQ bR aY jQ gY iJ mQ lJ jA bG mK jB mW mJ eJ dG bT aG jC bL bY jD mLn oF rP dQ aJ aB bW bZ aR aE bI aW bU fJ dO bM bQ bO jY oX m_x gR nG oO pJ sW) -> va_S A s.heap H locs -> lv_has ls 4 [(0, .ref a_m), (1, .int x1), (2, .int x2), (3, .int x3)] -> W p l e rm_X10_nearest s m args below meth c H locs 0 0 (MQ below (q_X10_nearest dC dI cI cC cZ cB cJ A a_m nY sJ eG iY lY jR jW jZ jO oQ bR aY jQ gY iJ mQ lJ jA bG mK jB mW mJ eJ dG bT aG jC jD mLn oF rP dQ aJ aB bW bZ aR aE bI aW bU fJ dO bM bQ bO jY oX m_x gR nG oO pJ post) args s 0 0 A) (F0 m 20 ls [])) : ∀ (x1 x2 x3 bL bY : Int32) (sW : Nat -> Int32) (H : Heap) (locs : List Loc) (ls : Array Slot), (ws_X10_nearest_20 post next bT aG m_x gR nG oO pJ) x1 x2 x3 bL bY sW -> va_P (dC, dI) classes (aGP cI cC cZ cB cJ a_m nY sJ eG iY lY jR jW jZ jO oQ bR aY jQ gY iJ mQ lJ jA bG mK jB mW mJ eJ dG bT aG jC bL bY jD mLn oF rP dQ aJ aB bW bZ aR aE bI aW bU fJ dO bM bQ bO jY oX m_x gR nG oO pJ sW) H -> va_D A (aGP cI cC cZ cB cJ a_m nY sJ eG iY lY jR jW jZ jO oQ bR aY jQ gY iJ mQ lJ jA bG mK jB mW mJ eJ dG bT aG jC bL bY jD mLn oF rP dQ aJ aB bW bZ aR aE bI aW bU fJ dO bM bQ bO jY oX m_x gR nG oO pJ sW) -> va_S A s.heap H locs -> lv_has ls 4 [(0, .ref a_m), (1, .int x1), (2, .int x2), (3, .int x3)] -> W p l e rm_X10_nearest s m args below meth c H locs 0 0 (MQ below (q_X10_nearest dC dI cI cC cZ cB cJ A a_m nY sJ eG iY lY jR jW jZ jO oQ bR aY jQ gY iJ mQ lJ jA bG mK jB mW mJ eJ dG bT aG jC jD mLn oF rP dQ aJ aB bW bZ aR aE bI aW bU fJ dO bM bQ bO jY oX m_x gR nG oO pJ post) args s 0 0 A) (F0 m 20 ls []) := by
  obtain ⟨hx, hb, hr, hml, hown, hts, hlocks, hA, hK, hN, tL, tM, hZL, hTL, hZM, hTM, hZX⟩ := id C0
  intro x1 x2 x3 bL bY sW H locs ls hp hP hD hS hl
  unfold ws_X10_nearest_20 at hp
  refine lv_iload_n hx hb aQK.2.2.2.2.2.2.2.2.2.2.2.2.2.1 rfl (lv_at hl 3 rfl) ?_
  refine lv_aload_n hx hb aQK.2.2.2.2.2.2.2.2.2.2.2.2.2.2.1 rfl (lv_at hl 0 rfl) ?_
  refine va_get (D := (dC, dI)) (ci := 10) (v := .int aG) (C := zX) (T := aBe) (N := 51) hx hb hts aAt hown hK hP 0 rfl rfl 6 (lbz rfl) (hts _ q_666) (fun _ h9 => h9) rfl aQK.2.2.2.2.2.2.2.2.2.2.2.2.2.2.2 ?_
  refine lv_icmp_ge (tgt := 66) hx hb aNp.1 (by decide) (fun hc => ?_) (fun hc => ?_)
  · have hp := hp.1 hc
    refine lv_iload_n hx hb aNq.2.2.2.2.2.2.1 rfl (lv_at hl 2 rfl) ?_
    refine lv_if_ge (tgt := 73) hx hb aNq.2.2.2.2.2.2.2.1 (by decide) (fun hc => ?_) (fun hc => ?_)
    · have hp := hp.1 hc
      refine lv_aload_n hx hb aNq.2.2.2.2.2.2.2.2.2.2.1 rfl (lv_at hl 0 rfl) ?_
      refine lv_iconst (v := 0) hx hb aNq.2.2.2.2.2.2.2.2.2.2.2.1 aCi ?_
      refine va_put (D := (dC, dI)) (ci := 10) (v := .int 0) (ty := .int) (C := zX) (T := aBe) (N := 51) hx hb hts aAt aD2 aAa aEC hown hK hP hD hS 0 rfl rfl 13 (lbz rfl) (hts _ q_847) (fun _ h9 => h9) rfl (aAa 13 (lbz rfl)) rfl rfl (lbz rfl) aNq.2.2.2.2.2.2.2.2.2.2.2.2.1 (fun H locs hP hD hS => ?_)
      have hPD := PDw (ws' := (aGP cI cC cZ cB cJ a_m nY sJ eG iY lY jR jW jZ jO oQ bR aY jQ gY iJ mQ lJ jA bG mK jB mW mJ eJ dG bT aG jC 0 bY jD mLn oF rP dQ aJ aB bW bZ aR aE bI aW bU fJ dO bM bQ bO jY oX m_x gR nG oO pJ sW)) hP hD rfl
      have hP := hPD.1
      have hD := hPD.2
      refine lv_aload_n hx hb aNq.2.2.2.2.2.2.2.2.2.2.2.2.2.1 rfl (lv_at hl 0 rfl) ?_
      refine lv_aload_n hx hb aNq.2.2.2.2.2.2.2.2.2.2.2.2.2.2.1 rfl (lv_at hl 0 rfl) ?_
      refine lv_iload_n hx hb aNq.2.2.2.2.2.2.2.2.2.2.2.2.2.2.2 rfl (lv_at hl 1 rfl) ?_
      refine lv_iload_n hx hb eX10_nearest_81.1 rfl (lv_at hl 2 rfl) ?_
      have hm := mgk (wc := (aRV cI cC cZ cB cJ a_m nY sJ eG iY lY jR jW jZ jO oQ bR aY jQ gY iJ mQ lJ jA bG mK jB mW mJ eJ dG bT aG jC 0 bY jD mLn oF rP dQ aJ aB bW bZ aR aE bI aW bU fJ dO bM bQ bO jY oX m_x gR nG oO pJ)) hP mk_241 7 rfl rfl rfl
      refine yW hP hD hS hA (yS mk_241) (aAi mk_241) hm.1 hm.2 (aAk _) (zW _) (zF (As := [.int x1, .int x2]) (rest := [.ref a_m]) C0 hP hD hS (yS mk_241) hm.1 (aAl _) 0 10 rfl rfl (c_X10_leanOf l dC dI cI cC cZ cB cJ a_m nY sJ eG iY lY jR jW jZ jO oQ bR aY jQ gY iJ mQ lJ jA bG mK jB mW mJ eJ dG H.size x1 x2 bT aG jC 0 bY jD mLn oF rP dQ aJ aB bW bZ aR aE bI aW bU fJ dO bM bQ bO jY oX m_x gR nG oO pJ _ hp) q_887 q_890 q_888 q_889 aBL h_X10_leanOf rfl rfl ⟨lbz rfl, lbz rfl⟩ rfl rfl hl.1 rfl (lv_room (lbz rfl)) eX10_nearest_81.2.1 ⟨Nat.zero_le _, Nat.zero_le _⟩) (fun r_2 u H locs hp hP hD hS => ?_)
      have hPD := PDm (ws' := (aGP cI cC cZ cB cJ a_m nY sJ eG iY lY jR jW jZ jO oQ bR aY jQ gY iJ mQ lJ jA bG mK jB mW mJ eJ dG bT aG jC 0 bY jD mLn oF rP dQ aJ aB bW bZ aR aE bI aW bU fJ dO bM bQ bO jY oX m_x gR nG oO pJ sW)) hP hD 7 rfl rfl rfl
      have hP := hPD.1
      have hD := hPD.2
      have hm := mgk (wc := (aD0 cI cC cZ cB cJ a_m nY sJ eG iY lY jR jW jZ jO oQ bR aY jQ gY iJ mQ lJ jA bG mK jB mW mJ eJ dG bT aG jC 0 bY jD mLn oF rP dQ aJ aB bW bZ aR aE bI aW bU fJ dO bM bQ bO jY oX sW)) hP mk_242 7 rfl rfl rfl
      refine aBn hP hD hS hA (yS mk_242) (aAi mk_242) hm.1 hm.2 (aAk _) (zW _) (zF (As := [.int r_2]) (rest := []) C0 hP hD hS (yS mk_242) hm.1 (aAl _) 0 10 rfl rfl (aGE l dC dI cI cC cZ cB cJ a_m nY sJ eG iY lY jR jW jZ jO oQ bR aY jQ gY iJ mQ lJ jA bG mK jB mW mJ eJ dG H.size r_2 bT aG jC 0 bY jD mLn oF rP dQ aJ aB bW bZ aR aE bI aW bU fJ dO bM bQ bO jY oX sW _ hp) q_849 q_852 q_850 q_851 aBL aGF rfl rfl ⟨lbz rfl, lbz rfl⟩ rfl rfl hl.1 rfl (lv_room (lbz rfl)) eX10_nearest_81.2.2.1 ⟨Nat.zero_le _, Nat.zero_le _⟩) (fun u H locs hp hP hD hS => ?_)
      obtain ⟨aPZ, m_row_4⟩ := u
      have hPD := PDm (ws' := (aGP cI cC cZ cB cJ a_m nY sJ eG iY lY jR jW jZ jO oQ bR aY jQ gY iJ mQ lJ jA bG mK jB mW mJ eJ dG bT aG jC aPZ bY jD mLn oF rP dQ aJ aB bW bZ aR aE bI aW bU fJ dO bM bQ bO jY oX m_x gR nG oO pJ m_row_4)) hP hD 7 rfl rfl rfl
      have hP := hPD.1
      have hD := hPD.2
      refine lv_iload_n hx hb eX10_nearest_81.2.2.2.1 rfl (lv_at hl 2 rfl) ?_
      exact W.iret (v := x2) hx hb hr (fun t ht hW => ⟨⟨x2, (aPZ, bY, m_row_4), rfl, hp, by rw [ht]; exact hP, va_K.moved hW.alike hK, hD⟩, hS.F ht⟩) hS.2.2 eX10_nearest_81.2.2.2.2
    · have hp := hp.2 hc
      refine lv_bipush (v := (-2)) hx hb aNq.2.2.2.2.2.2.2.2.1 bp_m2 ?_
      exact W.iret (v := (-2)) hx hb hr (fun t ht hW => ⟨⟨(-2), (bL, bY, sW), rfl, hp, by rw [ht]; exact hP, va_K.moved hW.alike hK, hD⟩, hS.F ht⟩) hS.2.2 aNq.2.2.2.2.2.2.2.2.2.1
  · have hp := hp.2 hc
    refine lv_aload_n hx hb aNp.2.1 rfl (lv_at hl 0 rfl) ?_
    refine lv_iload_n hx hb aNp.2.2.1 rfl (lv_at hl 1 rfl) ?_
    refine lv_iload_n hx hb aNp.2.2.2.1 rfl (lv_at hl 3 rfl) ?_
    have hm := mgk (wc := (aRV cI cC cZ cB cJ a_m nY sJ eG iY lY jR jW jZ jO oQ bR aY jQ gY iJ mQ lJ jA bG mK jB mW mJ eJ dG bT aG jC bL bY jD mLn oF rP dQ aJ aB bW bZ aR aE bI aW bU fJ dO bM bQ bO jY oX m_x gR nG oO pJ)) hP mk_241 7 rfl rfl rfl
    refine yW hP hD hS hA (yS mk_241) (aAi mk_241) hm.1 hm.2 (aAk _) (zW _) (zF (As := [.int x1, .int x3]) (rest := []) C0 hP hD hS (yS mk_241) hm.1 (aAl _) 0 10 rfl rfl (c_X10_leanOf l dC dI cI cC cZ cB cJ a_m nY sJ eG iY lY jR jW jZ jO oQ bR aY jQ gY iJ mQ lJ jA bG mK jB mW mJ eJ dG H.size x1 x3 bT aG jC bL bY jD mLn oF rP dQ aJ aB bW bZ aR aE bI aW bU fJ dO bM bQ bO jY oX m_x gR nG oO pJ _ hp) q_887 q_890 q_888 q_889 aBL h_X10_leanOf rfl rfl ⟨lbz rfl, lbz rfl⟩ rfl rfl hl.1 rfl (lv_room (lbz rfl)) aNp.2.2.2.2.1 ⟨Nat.zero_le _, Nat.zero_le _⟩) (fun r_5 u H locs hp hP hD hS => ?_)
    have hPD := PDm (ws' := (aGP cI cC cZ cB cJ a_m nY sJ eG iY lY jR jW jZ jO oQ bR aY jQ gY iJ mQ lJ jA bG mK jB mW mJ eJ dG bT aG jC bL bY jD mLn oF rP dQ aJ aB bW bZ aR aE bI aW bU fJ dO bM bQ bO jY oX m_x gR nG oO pJ sW)) hP hD 7 rfl rfl rfl
    have hP := hPD.1
    have hD := hPD.2
    refine lv_bipush (v := 30) hx hb aNp.2.2.2.2.2.1 bp_30 ?_
    refine lv_icmp_gt (tgt := 60) hx hb aNp.2.2.2.2.2.2.1 (by decide) (fun hc => ?_) (fun hc => ?_)
    · have hp := hp.1 hc
      exact ks_X10_nearest_60 C0 hKn x1 x2 x3 bL bY sW H locs ls hp hP hD hS (lv_sub hl [0, 1, 2, 3] rfl)
    · have hp := hp.2 hc
      refine lv_iload_n hx hb aNp.2.2.2.2.2.2.2.1 rfl (lv_at hl 2 rfl) ?_
      refine lv_if_lt (tgt := 58) hx hb aNp.2.2.2.2.2.2.2.2.1 (by decide) (fun hc => ?_) (fun hc => ?_)
      · have hp := hp.1 hc
        exact ks_X10_nearest_58 C0 hKn x1 x3 bL bY sW H locs ls hp hP hD hS (lv_sub hl [0, 1, 3] rfl)
      · have hp := hp.2 hc
        refine lv_aload_n hx hb aNp.2.2.2.2.2.2.2.2.2.1 rfl (lv_at hl 0 rfl) ?_
        refine lv_iload_n hx hb aNp.2.2.2.2.2.2.2.2.2.2.1 rfl (lv_at hl 1 rfl) ?_
        refine lv_iload_n hx hb aNp.2.2.2.2.2.2.2.2.2.2.2.1 rfl (lv_at hl 3 rfl) ?_
        have hm := mgk (wc := (aRV cI cC cZ cB cJ a_m nY sJ eG iY lY jR jW jZ jO oQ bR aY jQ gY iJ mQ lJ jA bG mK jB mW mJ eJ dG bT aG jC bL bY jD mLn oF rP dQ aJ aB bW bZ aR aE bI aW bU fJ dO bM bQ bO jY oX m_x gR nG oO pJ)) hP mk_241 7 rfl rfl rfl
        refine yW hP hD hS hA (yS mk_241) (aAi mk_241) hm.1 hm.2 (aAk _) (zW _) (zF (As := [.int x1, .int x3]) (rest := []) C0 hP hD hS (yS mk_241) hm.1 (aAl _) 0 10 rfl rfl (c_X10_leanOf l dC dI cI cC cZ cB cJ a_m nY sJ eG iY lY jR jW jZ jO oQ bR aY jQ gY iJ mQ lJ jA bG mK jB mW mJ eJ dG H.size x1 x3 bT aG jC bL bY jD mLn oF rP dQ aJ aB bW bZ aR aE bI aW bU fJ dO bM bQ bO jY oX m_x gR nG oO pJ _ hp) q_887 q_890 q_888 q_889 aBL h_X10_leanOf rfl rfl ⟨lbz rfl, lbz rfl⟩ rfl rfl hl.1 rfl (lv_room (lbz rfl)) aNp.2.2.2.2.2.2.2.2.2.2.2.2.1 ⟨Nat.zero_le _, Nat.zero_le _⟩) (fun r_7 u H locs hp hP hD hS => ?_)
        have hPD := PDm (ws' := (aGP cI cC cZ cB cJ a_m nY sJ eG iY lY jR jW jZ jO oQ bR aY jQ gY iJ mQ lJ jA bG mK jB mW mJ eJ dG bT aG jC bL bY jD mLn oF rP dQ aJ aB bW bZ aR aE bI aW bU fJ dO bM bQ bO jY oX m_x gR nG oO pJ sW)) hP hD 7 rfl rfl rfl
        have hP := hPD.1
        have hD := hPD.2
        refine lv_aload_n hx hb aNp.2.2.2.2.2.2.2.2.2.2.2.2.2.1 rfl (lv_at hl 0 rfl) ?_
        refine lv_iload_n hx hb aNp.2.2.2.2.2.2.2.2.2.2.2.2.2.2.1 rfl (lv_at hl 1 rfl) ?_
        refine lv_iload_n hx hb aNp.2.2.2.2.2.2.2.2.2.2.2.2.2.2.2 rfl (lv_at hl 2 rfl) ?_
        have hm := mgk (wc := (aRV cI cC cZ cB cJ a_m nY sJ eG iY lY jR jW jZ jO oQ bR aY jQ gY iJ mQ lJ jA bG mK jB mW mJ eJ dG bT aG jC bL bY jD mLn oF rP dQ aJ aB bW bZ aR aE bI aW bU fJ dO bM bQ bO jY oX m_x gR nG oO pJ)) hP mk_241 7 rfl rfl rfl
        refine yW hP hD hS hA (yS mk_241) (aAi mk_241) hm.1 hm.2 (aAk _) (zW _) (zF (As := [.int x1, .int x2]) (rest := [.int r_7]) C0 hP hD hS (yS mk_241) hm.1 (aAl _) 0 10 rfl rfl (c_X10_leanOf l dC dI cI cC cZ cB cJ a_m nY sJ eG iY lY jR jW jZ jO oQ bR aY jQ gY iJ mQ lJ jA bG mK jB mW mJ eJ dG H.size x1 x2 bT aG jC bL bY jD mLn oF rP dQ aJ aB bW bZ aR aE bI aW bU fJ dO bM bQ bO jY oX m_x gR nG oO pJ _ hp) q_887 q_890 q_888 q_889 aBL h_X10_leanOf rfl rfl ⟨lbz rfl, lbz rfl⟩ rfl rfl hl.1 rfl (lv_room (lbz rfl)) aNq.1 ⟨Nat.zero_le _, Nat.zero_le _⟩) (fun r_8 u H locs hp hP hD hS => ?_)
        have hPD := PDm (ws' := (aGP cI cC cZ cB cJ a_m nY sJ eG iY lY jR jW jZ jO oQ bR aY jQ gY iJ mQ lJ jA bG mK jB mW mJ eJ dG bT aG jC bL bY jD mLn oF rP dQ aJ aB bW bZ aR aE bI aW bU fJ dO bM bQ bO jY oX m_x gR nG oO pJ sW)) hP hD 7 rfl rfl rfl
        have hP := hPD.1
        have hD := hPD.2
        refine lv_icmp_ge (tgt := 60) hx hb aNq.2.1 (by decide) (fun hc => ?_) (fun hc => ?_)
        · have hp := hp.1 hc
          exact ks_X10_nearest_60 C0 hKn x1 x2 x3 bL bY sW H locs ls hp hP hD hS (lv_sub hl [0, 1, 2, 3] rfl)
        · have hp := hp.2 hc
          exact ks_X10_nearest_58 C0 hKn x1 x3 bL bY sW H locs ls hp hP hD hS (lv_sub hl [0, 1, 3] rfl)
set_option maxHeartbeats 4000000 in
set_option maxRecDepth 100000 in
theorem kb_X10_nearest_20 (C0 : gc aDD (some .int) 4 zX (dC, dI) (tyl cI cC cZ cB cJ) A p s m args meth c) : ∀ (n : Nat), ∀ (x1 x2 x3 bL bY : Int32) (sW : Nat -> Int32) (H : Heap) (locs : List Loc) (ls : Array Slot), (wb_X10_nearest_20 post bT aG m_x gR nG oO pJ n) x1 x2 x3 bL bY sW -> va_P (dC, dI) classes (aGP cI cC cZ cB cJ a_m nY sJ eG iY lY jR jW jZ jO oQ bR aY jQ gY iJ mQ lJ jA bG mK jB mW mJ eJ dG bT aG jC bL bY jD mLn oF rP dQ aJ aB bW bZ aR aE bI aW bU fJ dO bM bQ bO jY oX m_x gR nG oO pJ sW) H -> va_D A (aGP cI cC cZ cB cJ a_m nY sJ eG iY lY jR jW jZ jO oQ bR aY jQ gY iJ mQ lJ jA bG mK jB mW mJ eJ dG bT aG jC bL bY jD mLn oF rP dQ aJ aB bW bZ aR aE bI aW bU fJ dO bM bQ bO jY oX m_x gR nG oO pJ sW) -> va_S A s.heap H locs -> lv_has ls 4 [(0, .ref a_m), (1, .int x1), (2, .int x2), (3, .int x3)] -> W p l e rm_X10_nearest s m args below meth c H locs 0 0 (MQ below (q_X10_nearest dC dI cI cC cZ cB cJ A a_m nY sJ eG iY lY jR jW jZ jO oQ bR aY jQ gY iJ mQ lJ jA bG mK jB mW mJ eJ dG bT aG jC jD mLn oF rP dQ aJ aB bW bZ aR aE bI aW bU fJ dO bM bQ bO jY oX m_x gR nG oO pJ post) args s 0 0 A) (F0 m 20 ls []) := by
  intro n
  induction n with
  | zero =>
    intro x1 x2 x3 bL bY sW H locs ls hp
    exact False.elim hp
  | succ n ih =>
    intro x1 x2 x3 bL bY sW H locs ls hp
    exact ks_X10_nearest_20 C0 ih x1 x2 x3 bL bY sW H locs ls hp
end S_X10_nearest
def wp_X10_nearest (post : Int32 -> Int32 -> Int32 -> (Nat -> Int32) -> Prop) (p0 bT aG bL bY : Int32) (m_x gR nG oO pJ sW : Nat -> Int32) : Prop := aU8 (fun r_1 => (¬ r_1 = 0 -> ∃ n : Nat, wb_X10_nearest_20 post bT aG m_x gR nG oO pJ n p0 (-2) 0 bL 0 sW) /\ (r_1 = 0 -> post (-1) bL 0 sW)) p0 bT
set_option maxHeartbeats 4000000 in
set_option maxRecDepth 100000 in
theorem c_X10_nearest (l : Launch) (dC : Nat -> ClassId) (dI : Nat -> Nat -> Nat) (cI cC cZ cB cJ : ClassId) (a_m nY sJ eG iY lY jR jW jZ jO oQ bR aY jQ gY iJ mQ lJ jA bG mK jB mW mJ eJ dG sz : Nat) (p0 bT aG jC bL bY : Int32) (jD : Nat) (mLn oF rP dQ aJ aB bW bZ aR aE bI aW bU fJ dO bM bQ bO jY oX : Int32) (m_x gR nG oO pJ sW : Nat -> Int32) (post : Int32 -> Int32 -> Int32 -> (Nat -> Int32) -> Prop) (hw : wp_X10_nearest post p0 bT aG bL bY m_x gR nG oO pJ sW) : Met l yX10_nearest (gw yX10_nearest aDD 4 (some .int)) rm_X10_nearest (va_Pc [.ref a_m, .int p0] (gPre (dC, dI) (tyl cI cC cZ cB cJ) (aGP cI cC cZ cB cJ a_m nY sJ eG iY lY jR jW jZ jO oQ bR aY jQ gY iJ mQ lJ jA bG mK jB mW mJ eJ dG bT aG jC bL bY jD mLn oF rP dQ aJ aB bW bZ aR aE bI aW bU fJ dO bM bQ bO jY oX m_x gR nG oO pJ sW) sz)) (q_X10_nearest dC dI cI cC cZ cB cJ (va_A (aGP cI cC cZ cB cJ a_m nY sJ eG iY lY jR jW jZ jO oQ bR aY jQ gY iJ mQ lJ jA bG mK jB mW mJ eJ dG bT aG jC bL bY jD mLn oF rP dQ aJ aB bW bZ aR aE bI aW bU fJ dO bM bQ bO jY oX m_x gR nG oO pJ sW) sz) a_m nY sJ eG iY lY jR jW jZ jO oQ bR aY jQ gY iJ mQ lJ jA bG mK jB mW mJ eJ dG bT aG jC jD mLn oF rP dQ aJ aB bW bZ aR aE bI aW bU fJ dO bM bQ bO jY oX m_x gR nG oO pJ post) 0 0 (va_A (aGP cI cC cZ cB cJ a_m nY sJ eG iY lY jR jW jZ jO oQ bR aY jQ gY iJ mQ lJ jA bG mK jB mW mJ eJ dG bT aG jC bL bY jD mLn oF rP dQ aJ aB bW bZ aR aE bI aW bU fJ dO bM bQ bO jY oX m_x gR nG oO pJ sW) sz) := by
  refine aBJ (own := zX) (dC, dI) (tyl cI cC cZ cB cJ) (aGP cI cC cZ cB cJ a_m nY sJ eG iY lY jR jW jZ jO oQ bR aY jQ gY iJ mQ lJ jA bG mK jB mW mJ eJ dG bT aG jC bL bY jD mLn oF rP dQ aJ aB bW bZ aR aE bI aW bU fJ dO bM bQ bO jY oX m_x gR nG oO pJ sW) sz [.ref a_m, .int p0] (fun A => q_X10_nearest dC dI cI cC cZ cB cJ A a_m nY sJ eG iY lY jR jW jZ jO oQ bR aY jQ gY iJ mQ lJ jA bG mK jB mW mJ eJ dG bT aG jC jD mLn oF rP dQ aJ aB bW bZ aR aE bI aW bU fJ dO bM bQ bO jY oX m_x gR nG oO pJ post) aFY rfl (lbz rfl) ?_
  intro p e s m args below meth c A H locs ls C0 hP hD hS hl
  have hl : lv_has ls 4 [(0, .ref a_m), (1, .int p0)] := hl
  obtain ⟨hx, hb, hr, hml, hown, hts, hlocks, hA, hK, hN, tL, tM, hZL, hTL, hZM, hTM, hZX⟩ := id C0
  have hp := hw
  unfold wp_X10_nearest at hp
  refine lv_aload_n hx hb aQK.1 rfl (lv_at hl 0 rfl) ?_
  refine lv_iconst (v := 0) hx hb aQK.2.1 aCi ?_
  refine va_put (D := (dC, dI)) (ci := 10) (v := .int 0) (ty := .int) (C := zX) (T := aBe) (N := 51) hx hb hts aAt aD2 aAa aEC hown hK hP hD hS 0 rfl rfl 14 (lbz rfl) (hts _ q_638) (fun _ h9 => h9) rfl (aAa 14 (lbz rfl)) rfl rfl (lbz rfl) aQK.2.2.1 (fun H locs hP hD hS => ?_)
  have hPD := PDw (ws' := (aGP cI cC cZ cB cJ a_m nY sJ eG iY lY jR jW jZ jO oQ bR aY jQ gY iJ mQ lJ jA bG mK jB mW mJ eJ dG bT aG jC bL 0 jD mLn oF rP dQ aJ aB bW bZ aR aE bI aW bU fJ dO bM bQ bO jY oX m_x gR nG oO pJ sW)) hP hD rfl
  have hP := hPD.1
  have hD := hPD.2
  refine lv_aload_n hx hb aQK.2.2.2.1 rfl (lv_at hl 0 rfl) ?_
  refine lv_iload_n hx hb aQK.2.2.2.2.1 rfl (lv_at hl 1 rfl) ?_
  have hm := mgk (wc := (aY2 cI cC cZ cB cJ a_m nY sJ eG iY lY jR jW jZ jO oQ bR aY jQ gY iJ mQ lJ jA bG mK jB mW mJ eJ dG bT aG jC bL 0 jD mLn oF rP dQ aJ aB bW bZ aR aE bI aW bU fJ dO bM bQ bO jY oX)) hP mk_240 7 rfl rfl rfl
  refine yW hP hD hS hA (yS mk_240) (aAi mk_240) hm.1 hm.2 (aAk _) (zW _) (zF (As := [.int p0]) (rest := []) C0 hP hD hS (yS mk_240) hm.1 (aAl _) 0 10 rfl rfl (c_X10_isFruit l dC dI cI cC cZ cB cJ a_m nY sJ eG iY lY jR jW jZ jO oQ bR aY jQ gY iJ mQ lJ jA bG mK jB mW mJ eJ dG H.size p0 bT aG jC bL 0 jD mLn oF rP dQ aJ aB bW bZ aR aE bI aW bU fJ dO bM bQ bO jY oX _ hp) q_741 q_744 q_742 q_743 aBL h_X10_isFruit rfl rfl ⟨lbz rfl, lbz rfl⟩ rfl rfl hl.1 rfl (lv_room (lbz rfl)) aQK.2.2.2.2.2.1 ⟨Nat.zero_le _, Nat.zero_le _⟩) (fun r_1 u H locs hp hP hD hS => ?_)
  have hPD := PDm (ws' := (aGP cI cC cZ cB cJ a_m nY sJ eG iY lY jR jW jZ jO oQ bR aY jQ gY iJ mQ lJ jA bG mK jB mW mJ eJ dG bT aG jC bL 0 jD mLn oF rP dQ aJ aB bW bZ aR aE bI aW bU fJ dO bM bQ bO jY oX m_x gR nG oO pJ sW)) hP hD 7 rfl rfl rfl
  have hP := hPD.1
  have hD := hPD.2
  refine lv_if_ne (tgt := 15) hx hb aQK.2.2.2.2.2.2.1 (by decide) (fun hc => ?_) (fun hc => ?_)
  · have hp := hp.1 hc
    refine lv_bipush (v := (-2)) hx hb aQK.2.2.2.2.2.2.2.2.2.1 bp_m2 ?_
    refine lv_istore_n (lv' := [(2, .int (-2)), (0, .ref a_m), (1, .int p0)]) hx hb aQK.2.2.2.2.2.2.2.2.2.2.1 rfl hl (by decide) rfl (fun ls hl => ?_)
    refine lv_iconst (v := 0) hx hb aQK.2.2.2.2.2.2.2.2.2.2.2.1 aCi ?_
    refine lv_istore_n (lv' := [(3, .int 0), (2, .int (-2)), (0, .ref a_m), (1, .int p0)]) hx hb aQK.2.2.2.2.2.2.2.2.2.2.2.2.1 rfl hl (by decide) rfl (fun ls hl => ?_)
    obtain ⟨n9, hp⟩ := hp
    exact kb_X10_nearest_20 C0 n9 p0 (-2) 0 bL 0 sW H locs ls hp hP hD hS (lv_sub hl [2, 3, 1, 0] rfl)
  · have hp := hp.2 hc
    refine lv_iconst (v := (-1)) hx hb aQK.2.2.2.2.2.2.2.1 aEJ ?_
    exact W.iret (v := (-1)) hx hb hr (fun t ht hW => ⟨⟨(-1), (bL, 0, sW), rfl, hp, by rw [ht]; exact hP, va_K.moved hW.alike hK, hD⟩, hS.F ht⟩) hS.2.2 aQK.2.2.2.2.2.2.2.2.1
abbrev aD6 (cI cC cZ cB cJ : ClassId) : va_W := []
abbrev aO5 (dC : Nat -> ClassId) (dI : Nat -> Nat -> Nat) (cI cC cZ cB cJ : ClassId) (A : Nat -> Prop) (post : Int32 -> Prop) : Array Value -> State -> Outcome -> State -> Prop := va_Qi (fun (r : Int32) (u : Unit) => post r) (fun u t => gB (dC, dI) (tyl cI cC cZ cB cJ) A (aD6 cI cC cZ cB cJ) t) A
abbrev aUG : Room := { frames := 0, cells := 0, slots := 0, locals := 0 }
section S_J6_numberOfTrailingZeros_0f7a4
variable {p : Program} {l : Launch} {e : Env} {s : State} {m : MethodId} {args : Array Value} {below : List Frame} {meth : Method} {c : Code} {dC : Nat -> ClassId} {dI : Nat -> Nat -> Nat} {cI cC cZ cB cJ : ClassId} {A : Nat -> Prop} {post : Int32 -> Prop}
def aRE (post : Int32 -> Prop) (x0 x1 : Int32) : Prop := post (x1 + ((x0.toUInt32 >>> ((1 : Int32).toUInt32 &&& Int32.toUInt32 31)).toInt32))
set_option maxHeartbeats 4000000 in
set_option maxRecDepth 100000 in
theorem ks_J6_numberOfTrailingZeros_0f7a4_74 (C0 : gc aAq (some .int) 2 RJ6 (dC, dI) (tyl cI cC cZ cB cJ) A p s m args meth c) : ∀ (x0 x1 : Int32) (H : Heap) (locs : List Loc) (ls : Array Slot), (aRE post) x0 x1 -> va_P (dC, dI) classes (aD6 cI cC cZ cB cJ) H -> va_D A (aD6 cI cC cZ cB cJ) -> va_S A s.heap H locs -> lv_has ls 2 [(0, .int x0), (1, .int x1)] -> W p l e aUG s m args below meth c H locs 0 0 (MQ below (aO5 dC dI cI cC cZ cB cJ A post) args s 0 0 A) (F0 m 74 ls []) := by
  obtain ⟨hx, hb, hr, hml, hown, hts, hlocks, hA, hK, hN, tL, tM, hZL, hTL, hZM, hTM, hZX⟩ := id C0
  intro x0 x1 H locs ls hp hP hD hS hl
  unfold aRE at hp
  refine lv_iload_n hx hb eJ6_numberOfTrailingZeros_0f7a4_74.1 rfl (lv_at hl 1 rfl) ?_
  refine lv_iload_n hx hb eJ6_numberOfTrailingZeros_0f7a4_74.2 rfl (lv_at hl 0 rfl) ?_
  refine lv_iconst (v := 1) hx hb aYT.1 aDx ?_
  refine lv_iushr hx hb aYT.2.1 rfl ?_
  refine lv_iadd hx hb aYT.2.2.1 ?_
  exact W.iret (v := x1 + ((x0.toUInt32 >>> ((1 : Int32).toUInt32 &&& Int32.toUInt32 31)).toInt32)) hx hb hr (fun t ht hW => ⟨⟨x1 + ((x0.toUInt32 >>> ((1 : Int32).toUInt32 &&& Int32.toUInt32 31)).toInt32), (), rfl, hp, by rw [ht]; exact hP, va_K.moved hW.alike hK, hD⟩, hS.F ht⟩) hS.2.2 aYT.2.2.2
def aRD (post : Int32 -> Prop) (x0 x1 : Int32) : Prop := (x0 <= 4 -> aRE post x0 x1) /\ (¬ x0 <= 4 -> ∀ v_3 : Int32, v_3 = x1 + 2 -> ∀ v_4 : Int32, v_4 = (x0.toUInt32 >>> ((2 : Int32).toUInt32 &&& Int32.toUInt32 31)).toInt32 -> aRE post v_4 v_3)
set_option maxHeartbeats 4000000 in
set_option maxRecDepth 100000 in
theorem ks_J6_numberOfTrailingZeros_0f7a4_62 (C0 : gc aAq (some .int) 2 RJ6 (dC, dI) (tyl cI cC cZ cB cJ) A p s m args meth c) : ∀ (x0 x1 : Int32) (H : Heap) (locs : List Loc) (ls : Array Slot), (aRD post) x0 x1 -> va_P (dC, dI) classes (aD6 cI cC cZ cB cJ) H -> va_D A (aD6 cI cC cZ cB cJ) -> va_S A s.heap H locs -> lv_has ls 2 [(0, .int x0), (1, .int x1)] -> W p l e aUG s m args below meth c H locs 0 0 (MQ below (aO5 dC dI cI cC cZ cB cJ A post) args s 0 0 A) (F0 m 62 ls []) := by
  obtain ⟨hx, hb, hr, hml, hown, hts, hlocks, hA, hK, hN, tL, tM, hZL, hTL, hZM, hTM, hZX⟩ := id C0
  intro x0 x1 H locs ls hp hP hD hS hl
  unfold aRD at hp
  refine lv_iload_n hx hb aDc.2.2.2.2.2.2.2.2.1 rfl (lv_at hl 0 rfl) ?_
  refine lv_iconst (v := 4) hx hb aDc.2.2.2.2.2.2.2.2.2.1 ic_4 ?_
  refine lv_icmp_le (tgt := 74) hx hb aDc.2.2.2.2.2.2.2.2.2.2.1 (by decide) (fun hc => ?_) (fun hc => ?_)
  · have hp := hp.1 hc
    exact ks_J6_numberOfTrailingZeros_0f7a4_74 C0 x0 x1 H locs ls hp hP hD hS (lv_sub hl [0, 1] rfl)
  · have hp := hp.2 hc
    obtain ⟨v_3, aGW⟩ : ∃ y : Int32, y = x1 + 2 := ⟨_, rfl⟩
    refine lv_iinc (v := v_3) (lv' := [(1, .int v_3), (0, .int x0)]) hx hb aDc.2.2.2.2.2.2.2.2.2.2.2.1 hl (k := 1) rfl (by rw [aGW]; rfl) (by decide) rfl (fun ls hl => ?_)
    have hp := hp v_3 aGW
    refine lv_iload_n hx hb aDc.2.2.2.2.2.2.2.2.2.2.2.2.1 rfl (lv_at hl 1 rfl) ?_
    refine lv_iconst (v := 2) hx hb aDc.2.2.2.2.2.2.2.2.2.2.2.2.2.1 ic_2 ?_
    refine lv_iushr hx hb aDc.2.2.2.2.2.2.2.2.2.2.2.2.2.2.1 rfl ?_
    refine lv_topi (fun v_4 aHM => ?_)
    have hp := hp v_4 aHM
    refine lv_istore_n (lv' := [(0, .int v_4), (1, .int v_3)]) hx hb aDc.2.2.2.2.2.2.2.2.2.2.2.2.2.2.2 rfl hl (by decide) rfl (fun ls hl => ?_)
    exact ks_J6_numberOfTrailingZeros_0f7a4_74 C0 v_4 v_3 H locs ls hp hP hD hS (lv_sub hl [0, 1] rfl)
def aRB (post : Int32 -> Prop) (x0 x1 : Int32) : Prop := (x0 <= 16 -> aRD post x0 x1) /\ (¬ x0 <= 16 -> ∀ v_5 : Int32, v_5 = x1 + 4 -> ∀ v_6 : Int32, v_6 = (x0.toUInt32 >>> ((4 : Int32).toUInt32 &&& Int32.toUInt32 31)).toInt32 -> aRD post v_6 v_5)
set_option maxHeartbeats 4000000 in
set_option maxRecDepth 100000 in
theorem ks_J6_numberOfTrailingZeros_0f7a4_49 (C0 : gc aAq (some .int) 2 RJ6 (dC, dI) (tyl cI cC cZ cB cJ) A p s m args meth c) : ∀ (x0 x1 : Int32) (H : Heap) (locs : List Loc) (ls : Array Slot), (aRB post) x0 x1 -> va_P (dC, dI) classes (aD6 cI cC cZ cB cJ) H -> va_D A (aD6 cI cC cZ cB cJ) -> va_S A s.heap H locs -> lv_has ls 2 [(0, .int x0), (1, .int x1)] -> W p l e aUG s m args below meth c H locs 0 0 (MQ below (aO5 dC dI cI cC cZ cB cJ A post) args s 0 0 A) (F0 m 49 ls []) := by
  obtain ⟨hx, hb, hr, hml, hown, hts, hlocks, hA, hK, hN, tL, tM, hZL, hTL, hZM, hTM, hZX⟩ := id C0
  intro x0 x1 H locs ls hp hP hD hS hl
  unfold aRB at hp
  refine lv_iload_n hx hb aDc.1 rfl (lv_at hl 0 rfl) ?_
  refine lv_bipush (v := 16) hx hb aDc.2.1 bp_16 ?_
  refine lv_icmp_le (tgt := 62) hx hb aDc.2.2.1 (by decide) (fun hc => ?_) (fun hc => ?_)
  · have hp := hp.1 hc
    exact ks_J6_numberOfTrailingZeros_0f7a4_62 C0 x0 x1 H locs ls hp hP hD hS (lv_sub hl [0, 1] rfl)
  · have hp := hp.2 hc
    obtain ⟨v_5, aJD⟩ : ∃ y : Int32, y = x1 + 4 := ⟨_, rfl⟩
    refine lv_iinc (v := v_5) (lv' := [(1, .int v_5), (0, .int x0)]) hx hb aDc.2.2.2.1 hl (k := 1) rfl (by rw [aJD]; rfl) (by decide) rfl (fun ls hl => ?_)
    have hp := hp v_5 aJD
    refine lv_iload_n hx hb aDc.2.2.2.2.1 rfl (lv_at hl 1 rfl) ?_
    refine lv_iconst (v := 4) hx hb aDc.2.2.2.2.2.1 ic_4 ?_
    refine lv_iushr hx hb aDc.2.2.2.2.2.2.1 rfl ?_
    refine lv_topi (fun v_6 ev_6 => ?_)
    have hp := hp v_6 ev_6
    refine lv_istore_n (lv' := [(0, .int v_6), (1, .int v_5)]) hx hb aDc.2.2.2.2.2.2.2.1 rfl hl (by decide) rfl (fun ls hl => ?_)
    exact ks_J6_numberOfTrailingZeros_0f7a4_62 C0 v_6 v_5 H locs ls hp hP hD hS (lv_sub hl [0, 1] rfl)
def aRA (post : Int32 -> Prop) (x0 x1 : Int32) : Prop := (x0 <= 256 -> aRB post x0 x1) /\ (¬ x0 <= 256 -> ∀ v_7 : Int32, v_7 = x1 + 8 -> ∀ v_8 : Int32, v_8 = (x0.toUInt32 >>> ((8 : Int32).toUInt32 &&& Int32.toUInt32 31)).toInt32 -> aRB post v_8 v_7)
set_option maxHeartbeats 4000000 in
set_option maxRecDepth 100000 in
theorem ks_J6_numberOfTrailingZeros_0f7a4_34 (C0 : gc aAq (some .int) 2 RJ6 (dC, dI) (tyl cI cC cZ cB cJ) A p s m args meth c) : ∀ (x0 x1 : Int32) (H : Heap) (locs : List Loc) (ls : Array Slot), (aRA post) x0 x1 -> va_P (dC, dI) classes (aD6 cI cC cZ cB cJ) H -> va_D A (aD6 cI cC cZ cB cJ) -> va_S A s.heap H locs -> lv_has ls 2 [(0, .int x0), (1, .int x1)] -> W p l e aUG s m args below meth c H locs 0 0 (MQ below (aO5 dC dI cI cC cZ cB cJ A post) args s 0 0 A) (F0 m 34 ls []) := by
  obtain ⟨hx, hb, hr, hml, hown, hts, hlocks, hA, hK, hN, tL, tM, hZL, hTL, hZM, hTM, hZX⟩ := id C0
  intro x0 x1 H locs ls hp hP hD hS hl
  unfold aRA at hp
  refine lv_iload_n hx hb aDb.2.2.2.2.2.2.2.2.1 rfl (lv_at hl 0 rfl) ?_
  refine lv_sipush (v := 256) hx hb aDb.2.2.2.2.2.2.2.2.2.1 sp_256 ?_
  refine lv_icmp_le (tgt := 49) hx hb aDb.2.2.2.2.2.2.2.2.2.2.1 (by decide) (fun hc => ?_) (fun hc => ?_)
  · have hp := hp.1 hc
    exact ks_J6_numberOfTrailingZeros_0f7a4_49 C0 x0 x1 H locs ls hp hP hD hS (lv_sub hl [0, 1] rfl)
  · have hp := hp.2 hc
    obtain ⟨v_7, ev_7⟩ : ∃ y : Int32, y = x1 + 8 := ⟨_, rfl⟩
    refine lv_iinc (v := v_7) (lv' := [(1, .int v_7), (0, .int x0)]) hx hb aDb.2.2.2.2.2.2.2.2.2.2.2.1 hl (k := 1) rfl (by rw [ev_7]; rfl) (by decide) rfl (fun ls hl => ?_)
    have hp := hp v_7 ev_7
    refine lv_iload_n hx hb aDb.2.2.2.2.2.2.2.2.2.2.2.2.1 rfl (lv_at hl 1 rfl) ?_
    refine lv_bipush (v := 8) hx hb aDb.2.2.2.2.2.2.2.2.2.2.2.2.2.1 bp_8 ?_
    refine lv_iushr hx hb aDb.2.2.2.2.2.2.2.2.2.2.2.2.2.2.1 rfl ?_
    refine lv_topi (fun v_8 ev_8 => ?_)
    have hp := hp v_8 ev_8
    refine lv_istore_n (lv' := [(0, .int v_8), (1, .int v_7)]) hx hb aDb.2.2.2.2.2.2.2.2.2.2.2.2.2.2.2 rfl hl (by decide) rfl (fun ls hl => ?_)
    exact ks_J6_numberOfTrailingZeros_0f7a4_49 C0 v_8 v_7 H locs ls hp hP hD hS (lv_sub hl [0, 1] rfl)
end S_J6_numberOfTrailingZeros_0f7a4
def aOk (post : Int32 -> Prop) (p0 : Int32) : Prop := ∀ v_1 : Int32, v_1 = p0 ^^^ (-1) -> ∀ v_2 : Int32, v_2 = v_1 &&& (p0 - 1) -> (0 < v_2 -> (v_2 <= 65536 -> aRA post v_2 1) /\ (¬ v_2 <= 65536 -> ∀ v_9 : Int32, v_9 = 1 + 16 -> ∀ aEr : Int32, aEr = (v_2.toUInt32 >>> ((16 : Int32).toUInt32 &&& Int32.toUInt32 31)).toInt32 -> aRA post aEr v_9)) /\ (¬ 0 < v_2 -> post (v_2 &&& 32))
set_option maxHeartbeats 4000000 in
set_option maxRecDepth 100000 in
theorem c_J6_numberOfTrailingZeros_0f7a4 (l : Launch) (dC : Nat -> ClassId) (dI : Nat -> Nat -> Nat) (cI cC cZ cB cJ : ClassId) (sz : Nat) (p0 : Int32) (post : Int32 -> Prop) (hw : aOk post p0) : Met l aKQ (gw aKQ aAq 2 (some .int)) aUG (va_Pc [.int p0] (gPre (dC, dI) (tyl cI cC cZ cB cJ) (aD6 cI cC cZ cB cJ) sz)) (aO5 dC dI cI cC cZ cB cJ (va_A (aD6 cI cC cZ cB cJ) sz) post) 0 0 (va_A (aD6 cI cC cZ cB cJ) sz) := by
  refine aBJ (own := RJ6) (dC, dI) (tyl cI cC cZ cB cJ) (aD6 cI cC cZ cB cJ) sz [.int p0] (fun A => aO5 dC dI cI cC cZ cB cJ A post) (by decide) rfl (lbz rfl) ?_
  intro p e s m args below meth c A H locs ls C0 hP hD hS hl
  have hl : lv_has ls 2 [(0, .int p0)] := hl
  obtain ⟨hx, hb, hr, hml, hown, hts, hlocks, hA, hK, hN, tL, tM, hZL, hTL, hZM, hTM, hZX⟩ := id C0
  have hp := hw
  unfold aOk at hp
  refine lv_iload_n hx hb aDp.1 rfl (lv_at hl 0 rfl) ?_
  refine lv_iconst (v := (-1)) hx hb aDp.2.1 aEJ ?_
  refine lv_ixor hx hb aDp.2.2.1 ?_
  refine lv_topi (fun v_1 aFJ => ?_)
  have hp := hp v_1 aFJ
  refine lv_iload_n hx hb aDp.2.2.2.1 rfl (lv_at hl 0 rfl) ?_
  refine lv_iconst (v := 1) hx hb aDp.2.2.2.2.1 aDx ?_
  refine lv_isub hx hb aDp.2.2.2.2.2.1 ?_
  refine lv_iand hx hb aDp.2.2.2.2.2.2.1 ?_
  refine lv_topi (fun v_2 aGO => ?_)
  have hp := hp v_2 aGO
  refine lv_istore_n (lv' := [(0, .int v_2)]) hx hb aDp.2.2.2.2.2.2.2.1 rfl hl (by decide) rfl (fun ls hl => ?_)
  refine lv_iload_n hx hb aDp.2.2.2.2.2.2.2.2.1 rfl (lv_at hl 0 rfl) ?_
  refine lv_if_gt (tgt := 17) hx hb aDp.2.2.2.2.2.2.2.2.2.1 (by decide) (fun hc => ?_) (fun hc => ?_)
  · have hp := hp.1 hc
    refine lv_iconst (v := 1) hx hb aDp.2.2.2.2.2.2.2.2.2.2.2.2.2.2.1 aDx ?_
    refine lv_istore_n (lv' := [(1, .int 1), (0, .int v_2)]) hx hb aDp.2.2.2.2.2.2.2.2.2.2.2.2.2.2.2 rfl hl (by decide) rfl (fun ls hl => ?_)
    refine lv_iload_n hx hb aDb.1 rfl (lv_at hl 1 rfl) ?_
    refine lv_ldcw (v := 65536) hx hb hown (hts _ q_891) aDb.2.1 ?_
    refine lv_icmp_le (tgt := 34) hx hb aDb.2.2.1 (by decide) (fun hc => ?_) (fun hc => ?_)
    · have hp := hp.1 hc
      exact ks_J6_numberOfTrailingZeros_0f7a4_34 C0 v_2 1 H locs ls hp hP hD hS (lv_sub hl [1, 0] rfl)
    · have hp := hp.2 hc
      obtain ⟨v_9, ev_9⟩ : ∃ y : Int32, y = 1 + 16 := ⟨_, rfl⟩
      refine lv_iinc (v := v_9) (lv' := [(1, .int v_9), (0, .int v_2)]) hx hb aDb.2.2.2.1 hl (k := 0) rfl (by rw [ev_9]; rfl) (by decide) rfl (fun ls hl => ?_)
      have hp := hp v_9 ev_9
      refine lv_iload_n hx hb aDb.2.2.2.2.1 rfl (lv_at hl 1 rfl) ?_
      refine lv_bipush (v := 16) hx hb aDb.2.2.2.2.2.1 bp_16 ?_
      refine lv_iushr hx hb aDb.2.2.2.2.2.2.1 rfl ?_
      refine lv_topi (fun aEr aNB => ?_)
      have hp := hp aEr aNB
      refine lv_istore_n (lv' := [(0, .int aEr), (1, .int v_9)]) hx hb aDb.2.2.2.2.2.2.2.1 rfl hl (by decide) rfl (fun ls hl => ?_)
      exact ks_J6_numberOfTrailingZeros_0f7a4_34 C0 aEr v_9 H locs ls hp hP hD hS (lv_sub hl [0, 1] rfl)
  · have hp := hp.2 hc
    refine lv_iload_n hx hb aDp.2.2.2.2.2.2.2.2.2.2.1 rfl (lv_at hl 0 rfl) ?_
    refine lv_bipush (v := 32) hx hb aDp.2.2.2.2.2.2.2.2.2.2.2.1 bp_32 ?_
    refine lv_iand hx hb aDp.2.2.2.2.2.2.2.2.2.2.2.2.1 ?_
    exact W.iret (v := v_2 &&& 32) hx hb hr (fun t ht hW => ⟨⟨v_2 &&& 32, (), rfl, hp, by rw [ht]; exact hP, va_K.moved hW.alike hK, hD⟩, hS.F ht⟩) hS.2.2 aDp.2.2.2.2.2.2.2.2.2.2.2.2.2.1
abbrev wd_X10_isRowAhead (cI cC cZ cB cJ : ClassId) : va_W := []
abbrev q_X10_isRowAhead (dC : Nat -> ClassId) (dI : Nat -> Nat -> Nat) (cI cC cZ cB cJ : ClassId) (A : Nat -> Prop) (post : Int32 -> Prop) : Array Value -> State -> Outcome -> State -> Prop := va_Qi (fun (r : Int32) (u : Unit) => post r) (fun u t => gB (dC, dI) (tyl cI cC cZ cB cJ) A (wd_X10_isRowAhead cI cC cZ cB cJ) t) A
abbrev rm_X10_isRowAhead : Room := { frames := 1, cells := 0, slots := 0, locals := 21 }
def wp_X10_isRowAhead (post : Int32 -> Prop) (p0 p1 : Int32) : Prop := ∀ v_1 : Int32, v_1 = p0 ^^^ p1 -> aOk (fun r_2 => aKc (fun r_3 => narrow .boolean (.int r_3) = .int r_3 /\ post r_3) p0 r_2) v_1
set_option maxHeartbeats 4000000 in
set_option maxRecDepth 100000 in
theorem c_X10_isRowAhead (l : Launch) (dC : Nat -> ClassId) (dI : Nat -> Nat -> Nat) (cI cC cZ cB cJ : ClassId) (sz : Nat) (p0 p1 : Int32) (post : Int32 -> Prop) (hw : wp_X10_isRowAhead post p0 p1) : Met l yX10_isRowAhead (gw yX10_isRowAhead aYo 3 (some .boolean)) rm_X10_isRowAhead (va_Pc [.int p0, .int p1] (gPre (dC, dI) (tyl cI cC cZ cB cJ) (wd_X10_isRowAhead cI cC cZ cB cJ) sz)) (q_X10_isRowAhead dC dI cI cC cZ cB cJ (va_A (wd_X10_isRowAhead cI cC cZ cB cJ) sz) post) 0 0 (va_A (wd_X10_isRowAhead cI cC cZ cB cJ) sz) := by
  refine aBJ (own := zX) (dC, dI) (tyl cI cC cZ cB cJ) (wd_X10_isRowAhead cI cC cZ cB cJ) sz [.int p0, .int p1] (fun A => q_X10_isRowAhead dC dI cI cC cZ cB cJ A post) aFY rfl (lbz rfl) ?_
  intro p e s m args below meth c A H locs ls C0 hP hD hS hl
  have hl : lv_has ls 3 [(0, .int p0), (1, .int p1)] := hl
  obtain ⟨hx, hb, hr, hml, hown, hts, hlocks, hA, hK, hN, tL, tM, hZL, hTL, hZM, hTM, hZX⟩ := id C0
  have hp := hw
  unfold wp_X10_isRowAhead at hp
  refine lv_iload_n hx hb bBC.1 rfl (lv_at hl 0 rfl) ?_
  refine lv_iload_n hx hb bBC.2.1 rfl (lv_at hl 1 rfl) ?_
  refine lv_ixor hx hb bBC.2.2.1 ?_
  refine lv_topi (fun v_1 aFJ => ?_)
  have hp := hp v_1 aFJ
  refine lv_istore_n (lv' := [(2, .int v_1), (0, .int p0), (1, .int p1)]) hx hb bBC.2.2.2.1 rfl hl (by decide) rfl (fun ls hl => ?_)
  refine lv_iload_n hx hb bBC.2.2.2.2.1 rfl (lv_at hl 1 rfl) ?_
  refine lv_iload_n hx hb bBC.2.2.2.2.2.1 rfl (lv_at hl 0 rfl) ?_
  refine yW (wc := (aD6 cI cC cZ cB cJ)) hP hD hS hA [] [] rfl rfl rfl rfl (aDn (As := [.int v_1]) (rest := [.int p0]) C0 hP hD hS [] rfl rfl (c_J6_numberOfTrailingZeros_0f7a4 l dC dI cI cC cZ cB cJ H.size v_1 _ hp) q_892 q_894 q_893 q_321 h_J6_numberOfTrailingZeros_0f7a4 rfl rfl ⟨lbz rfl, lbz rfl⟩ rfl rfl hl.1 rfl (lv_room (lbz rfl)) bBC.2.2.2.2.2.2.1 ⟨Nat.zero_le _, Nat.zero_le _⟩) (fun r_2 u H locs hp hP hD hS => ?_)
  refine yW (wc := (aLW cI cC cZ cB cJ)) hP hD hS hA [] [] rfl rfl rfl rfl (aDn (As := [.int p0, .int r_2]) (rest := []) C0 hP hD hS [] rfl rfl (aUP l dC dI cI cC cZ cB cJ H.size p0 r_2 _ hp) q_734 q_736 q_735 aBL aUT rfl rfl ⟨lbz rfl, lbz rfl⟩ rfl rfl hl.1 rfl (lv_room (lbz rfl)) bBC.2.2.2.2.2.2.2.1 ⟨Nat.zero_le _, Nat.zero_le _⟩) (fun r_3 u H locs hp hP hD hS => ?_)
  have hnz := hp.1
  have hp := hp.2
  exact W.zret (v := r_3) hx hb hr hnz (fun t ht hW => ⟨⟨r_3, (), rfl, hp, by rw [ht]; exact hP, va_K.moved hW.alike hK, hD⟩, hS.F ht⟩) hS.2.2 bBC.2.2.2.2.2.2.2.2
abbrev aHF (cI cC cZ cB cJ : ClassId) (a_m nY sJ eG iY lY jR jW jZ jO oQ bR aY jQ gY iJ mQ lJ jA bG mK jB mW mJ eJ dG : Nat) (bT aG jC bL bY : Int32) (jD : Nat) (mLn oF rP dQ aJ aB bW bZ aR aE bI aW bU fJ dO bM bQ bO jY oX : Int32) (sH : Nat -> Int32) : va_W := [(a_m, .inr (10, [.ref nY, .int bT, .ref sJ, .ref eG, .ref iY, .ref lY, .int aG, .ref jR, .ref jW, .ref jZ, .ref jO, .int jC, .ref oQ, .int bL, .int bY, rdv jO jQ jD, .int mLn, .int oF, .int rP, .int dQ, .ref bR, .ref aY, .int aJ, .int aB, .ref jQ, .int bW, .int bZ, .int aR, .int aE, .int bI, .int aW, .ref gY, .int bU, .ref iJ, .ref mQ, .int fJ, .ref lJ, .int dO, .ref jA, .ref bG, .int bM, .int bQ, .int bO, .ref mK, .ref jB, .ref mW, .int jY, .int oX, .ref mJ, .ref eJ, .ref dG])), (lJ, .inl (cI, 8, .inl sH))]
abbrev q_X10_cover (dC : Nat -> ClassId) (dI : Nat -> Nat -> Nat) (cI cC cZ cB cJ : ClassId) (A : Nat -> Prop) (a_m nY sJ eG iY lY jR jW jZ jO oQ bR aY jQ gY iJ mQ lJ jA bG mK jB mW mJ eJ dG : Nat) (bT aG jC bL bY : Int32) (jD : Nat) (mLn oF rP dQ aJ aB bW bZ aR aE bI aW bU fJ dO bM bQ bO jY oX : Int32) (sH : Nat -> Int32) (post : Int32 -> Prop) : Array Value -> State -> Outcome -> State -> Prop := va_Qi (fun (r : Int32) (u : Unit) => post r) (fun u t => gB (dC, dI) (tyl cI cC cZ cB cJ) A (aHF cI cC cZ cB cJ a_m nY sJ eG iY lY jR jW jZ jO oQ bR aY jQ gY iJ mQ lJ jA bG mK jB mW mJ eJ dG bT aG jC bL bY jD mLn oF rP dQ aJ aB bW bZ aR aE bI aW bU fJ dO bM bQ bO jY oX sH) t) A
abbrev rm_X10_cover : Room := { frames := 2, cells := 0, slots := 0, locals := 44 }
section S_X10_cover
variable {p : Program} {l : Launch} {e : Env} {s : State} {m : MethodId} {args : Array Value} {below : List Frame} {meth : Method} {c : Code} {dC : Nat -> ClassId} {dI : Nat -> Nat -> Nat} {cI cC cZ cB cJ : ClassId} {A : Nat -> Prop} {a_m nY sJ eG iY lY jR jW jZ jO oQ bR aY jQ gY iJ mQ lJ jA bG mK jB mW mJ eJ dG : Nat} {bT aG jC bL bY : Int32} {jD : Nat} {mLn oF rP dQ aJ aB bW bZ aR aE bI aW bU fJ dO bM bQ bO jY oX : Int32} {sH : Nat -> Int32} {post : Int32 -> Prop}
def ws_X10_cover_67 (post : Int32 -> Prop) (K4 : Int32 -> Int32 -> Int32 -> Prop) (aG : Int32) (sH : Nat -> Int32) (x1 x2 x3 : Int32) : Prop := ∀ v_6 : Int32, v_6 = x3 + 1 -> K4 x1 x2 v_6
set_option maxHeartbeats 4000000 in
set_option maxRecDepth 100000 in
theorem ks_X10_cover_67 (C0 : gc aFt (some .int) 5 zX (dC, dI) (tyl cI cC cZ cB cJ) A p s m args meth c) {K4 : Int32 -> Int32 -> Int32 -> Prop} (hK4 : ∀ (x1 : Int32) (x2 : Int32) (x3 : Int32) (H : Heap) (locs : List Loc) (ls : Array Slot), K4 x1 x2 x3 -> va_P (dC, dI) classes (aHF cI cC cZ cB cJ a_m nY sJ eG iY lY jR jW jZ jO oQ bR aY jQ gY iJ mQ lJ jA bG mK jB mW mJ eJ dG bT aG jC bL bY jD mLn oF rP dQ aJ aB bW bZ aR aE bI aW bU fJ dO bM bQ bO jY oX sH) H -> va_D A (aHF cI cC cZ cB cJ a_m nY sJ eG iY lY jR jW jZ jO oQ bR aY jQ gY iJ mQ lJ jA bG mK jB mW mJ eJ dG bT aG jC bL bY jD mLn oF rP dQ aJ aB bW bZ aR aE bI aW bU fJ dO bM bQ bO jY oX sH) -> va_S A s.heap H locs -> lv_has ls 5 [(0, .ref a_m), (1, .int x1), (2, .int x2), (3, .int x3)] -> W p l e rm_X10_cover s m args below meth c H locs 0 0 (MQ below (q_X10_cover dC dI cI cC cZ cB cJ A a_m nY sJ eG iY lY jR jW jZ jO oQ bR aY jQ gY iJ mQ lJ jA bG mK jB mW mJ eJ dG bT aG jC bL bY jD mLn oF rP dQ aJ aB bW bZ aR aE bI aW bU fJ dO bM bQ bO jY oX sH post) args s 0 0 A) (F0 m 4 ls [])) : ∀ (x1 x2 x3 : Int32) (H : Heap) (locs : List Loc) (ls : Array Slot), (ws_X10_cover_67 post K4 aG sH) x1 x2 x3 -> va_P (dC, dI) classes (aHF cI cC cZ cB cJ a_m nY sJ eG iY lY jR jW jZ jO oQ bR aY jQ gY iJ mQ lJ jA bG mK jB mW mJ eJ dG bT aG jC bL bY jD mLn oF rP dQ aJ aB bW bZ aR aE bI aW bU fJ dO bM bQ bO jY oX sH) H -> va_D A (aHF cI cC cZ cB cJ a_m nY sJ eG iY lY jR jW jZ jO oQ bR aY jQ gY iJ mQ lJ jA bG mK jB mW mJ eJ dG bT aG jC bL bY jD mLn oF rP dQ aJ aB bW bZ aR aE bI aW bU fJ dO bM bQ bO jY oX sH) -> va_S A s.heap H locs -> lv_has ls 5 [(0, .ref a_m), (1, .int x1), (2, .int x2), (3, .int x3)] -> W p l e rm_X10_cover s m args below meth c H locs 0 0 (MQ below (q_X10_cover dC dI cI cC cZ cB cJ A a_m nY sJ eG iY lY jR jW jZ jO oQ bR aY jQ gY iJ mQ lJ jA bG mK jB mW mJ eJ dG bT aG jC bL bY jD mLn oF rP dQ aJ aB bW bZ aR aE bI aW bU fJ dO bM bQ bO jY oX sH post) args s 0 0 A) (F0 m 67 ls []) := by
  obtain ⟨hx, hb, hr, hml, hown, hts, hlocks, hA, hK, hN, tL, tM, hZL, hTL, hZM, hTM, hZX⟩ := id C0
  intro x1 x2 x3 H locs ls hp hP hD hS hl
  unfold ws_X10_cover_67 at hp
  obtain ⟨v_6, ev_6⟩ : ∃ y : Int32, y = x3 + 1 := ⟨_, rfl⟩
  refine lv_iinc (v := v_6) (lv' := [(3, .int v_6), (0, .ref a_m), (1, .int x1), (2, .int x2)]) hx hb eX10_cover_57.2.2.2.2.2.2.1 hl (k := 3) rfl (by rw [ev_6]; rfl) (by decide) rfl (fun ls hl => ?_)
  have hp := hp v_6 ev_6
  refine lv_goto (tgt := 4) hx hb eX10_cover_57.2.2.2.2.2.2.2.1 (by decide) ?_
  exact hK4 x1 x2 v_6 H locs ls hp hP hD hS (lv_sub hl [1, 2, 3, 0] rfl)
def ws_X10_cover_65 (post : Int32 -> Prop) (K4 : Int32 -> Int32 -> Int32 -> Prop) (aG : Int32) (sH : Nat -> Int32) (x1 x3 : Int32) : Prop := ws_X10_cover_67 post K4 aG sH x1 x3 x3
set_option maxHeartbeats 4000000 in
set_option maxRecDepth 100000 in
theorem ks_X10_cover_65 (C0 : gc aFt (some .int) 5 zX (dC, dI) (tyl cI cC cZ cB cJ) A p s m args meth c) {K4 : Int32 -> Int32 -> Int32 -> Prop} (hK4 : ∀ (x1 : Int32) (x2 : Int32) (x3 : Int32) (H : Heap) (locs : List Loc) (ls : Array Slot), K4 x1 x2 x3 -> va_P (dC, dI) classes (aHF cI cC cZ cB cJ a_m nY sJ eG iY lY jR jW jZ jO oQ bR aY jQ gY iJ mQ lJ jA bG mK jB mW mJ eJ dG bT aG jC bL bY jD mLn oF rP dQ aJ aB bW bZ aR aE bI aW bU fJ dO bM bQ bO jY oX sH) H -> va_D A (aHF cI cC cZ cB cJ a_m nY sJ eG iY lY jR jW jZ jO oQ bR aY jQ gY iJ mQ lJ jA bG mK jB mW mJ eJ dG bT aG jC bL bY jD mLn oF rP dQ aJ aB bW bZ aR aE bI aW bU fJ dO bM bQ bO jY oX sH) -> va_S A s.heap H locs -> lv_has ls 5 [(0, .ref a_m), (1, .int x1), (2, .int x2), (3, .int x3)] -> W p l e rm_X10_cover s m args below meth c H locs 0 0 (MQ below (q_X10_cover dC dI cI cC cZ cB cJ A a_m nY sJ eG iY lY jR jW jZ jO oQ bR aY jQ gY iJ mQ lJ jA bG mK jB mW mJ eJ dG bT aG jC bL bY jD mLn oF rP dQ aJ aB bW bZ aR aE bI aW bU fJ dO bM bQ bO jY oX sH post) args s 0 0 A) (F0 m 4 ls [])) : ∀ (x1 x3 : Int32) (H : Heap) (locs : List Loc) (ls : Array Slot), (ws_X10_cover_65 post K4 aG sH) x1 x3 -> va_P (dC, dI) classes (aHF cI cC cZ cB cJ a_m nY sJ eG iY lY jR jW jZ jO oQ bR aY jQ gY iJ mQ lJ jA bG mK jB mW mJ eJ dG bT aG jC bL bY jD mLn oF rP dQ aJ aB bW bZ aR aE bI aW bU fJ dO bM bQ bO jY oX sH) H -> va_D A (aHF cI cC cZ cB cJ a_m nY sJ eG iY lY jR jW jZ jO oQ bR aY jQ gY iJ mQ lJ jA bG mK jB mW mJ eJ dG bT aG jC bL bY jD mLn oF rP dQ aJ aB bW bZ aR aE bI aW bU fJ dO bM bQ bO jY oX sH) -> va_S A s.heap H locs -> lv_has ls 5 [(0, .ref a_m), (1, .int x1), (3, .int x3)] -> W p l e rm_X10_cover s m args below meth c H locs 0 0 (MQ below (q_X10_cover dC dI cI cC cZ cB cJ A a_m nY sJ eG iY lY jR jW jZ jO oQ bR aY jQ gY iJ mQ lJ jA bG mK jB mW mJ eJ dG bT aG jC bL bY jD mLn oF rP dQ aJ aB bW bZ aR aE bI aW bU fJ dO bM bQ bO jY oX sH post) args s 0 0 A) (F0 m 65 ls []) := by
  obtain ⟨hx, hb, hr, hml, hown, hts, hlocks, hA, hK, hN, tL, tM, hZL, hTL, hZM, hTM, hZX⟩ := id C0
  intro x1 x3 H locs ls hp hP hD hS hl
  unfold ws_X10_cover_65 at hp
  refine lv_iload_n hx hb eX10_cover_57.2.2.2.2.1 rfl (lv_at hl 2 rfl) ?_
  refine lv_istore_n (lv' := [(2, .int x3), (0, .ref a_m), (1, .int x1), (3, .int x3)]) hx hb eX10_cover_57.2.2.2.2.2.1 rfl hl (by decide) rfl (fun ls hl => ?_)
  exact ks_X10_cover_67 C0 hK4 x1 x3 x3 H locs ls hp hP hD hS (lv_sub hl [1, 2, 0, 3] rfl)
def ws_X10_cover_45 (post : Int32 -> Prop) (K4 : Int32 -> Int32 -> Int32 -> Prop) (aG : Int32) (sH : Nat -> Int32) (x1 x2 x3 k0 : Int32) : Prop := (k0 < 0 -> ws_X10_cover_65 post K4 aG sH x1 x3) /\ (¬ k0 < 0 -> (¬ k0 = 0 -> ws_X10_cover_67 post K4 aG sH x1 x2 x3) /\ (k0 = 0 -> wp_X10_isRowAhead (fun r_7 => (r_7 = 0 -> ws_X10_cover_67 post K4 aG sH x1 x2 x3) /\ (¬ r_7 = 0 -> ws_X10_cover_65 post K4 aG sH x1 x3)) x3 x2))
set_option maxHeartbeats 4000000 in
set_option maxRecDepth 100000 in
theorem ks_X10_cover_45 (C0 : gc aFt (some .int) 5 zX (dC, dI) (tyl cI cC cZ cB cJ) A p s m args meth c) {K4 : Int32 -> Int32 -> Int32 -> Prop} (hK4 : ∀ (x1 : Int32) (x2 : Int32) (x3 : Int32) (H : Heap) (locs : List Loc) (ls : Array Slot), K4 x1 x2 x3 -> va_P (dC, dI) classes (aHF cI cC cZ cB cJ a_m nY sJ eG iY lY jR jW jZ jO oQ bR aY jQ gY iJ mQ lJ jA bG mK jB mW mJ eJ dG bT aG jC bL bY jD mLn oF rP dQ aJ aB bW bZ aR aE bI aW bU fJ dO bM bQ bO jY oX sH) H -> va_D A (aHF cI cC cZ cB cJ a_m nY sJ eG iY lY jR jW jZ jO oQ bR aY jQ gY iJ mQ lJ jA bG mK jB mW mJ eJ dG bT aG jC bL bY jD mLn oF rP dQ aJ aB bW bZ aR aE bI aW bU fJ dO bM bQ bO jY oX sH) -> va_S A s.heap H locs -> lv_has ls 5 [(0, .ref a_m), (1, .int x1), (2, .int x2), (3, .int x3)] -> W p l e rm_X10_cover s m args below meth c H locs 0 0 (MQ below (q_X10_cover dC dI cI cC cZ cB cJ A a_m nY sJ eG iY lY jR jW jZ jO oQ bR aY jQ gY iJ mQ lJ jA bG mK jB mW mJ eJ dG bT aG jC bL bY jD mLn oF rP dQ aJ aB bW bZ aR aE bI aW bU fJ dO bM bQ bO jY oX sH post) args s 0 0 A) (F0 m 4 ls [])) : ∀ (x1 x2 x3 k0 : Int32) (H : Heap) (locs : List Loc) (ls : Array Slot), (ws_X10_cover_45 post K4 aG sH) x1 x2 x3 k0 -> va_P (dC, dI) classes (aHF cI cC cZ cB cJ a_m nY sJ eG iY lY jR jW jZ jO oQ bR aY jQ gY iJ mQ lJ jA bG mK jB mW mJ eJ dG bT aG jC bL bY jD mLn oF rP dQ aJ aB bW bZ aR aE bI aW bU fJ dO bM bQ bO jY oX sH) H -> va_D A (aHF cI cC cZ cB cJ a_m nY sJ eG iY lY jR jW jZ jO oQ bR aY jQ gY iJ mQ lJ jA bG mK jB mW mJ eJ dG bT aG jC bL bY jD mLn oF rP dQ aJ aB bW bZ aR aE bI aW bU fJ dO bM bQ bO jY oX sH) -> va_S A s.heap H locs -> lv_has ls 5 [(0, .ref a_m), (1, .int x1), (2, .int x2), (3, .int x3)] -> W p l e rm_X10_cover s m args below meth c H locs 0 0 (MQ below (q_X10_cover dC dI cI cC cZ cB cJ A a_m nY sJ eG iY lY jR jW jZ jO oQ bR aY jQ gY iJ mQ lJ jA bG mK jB mW mJ eJ dG bT aG jC bL bY jD mLn oF rP dQ aJ aB bW bZ aR aE bI aW bU fJ dO bM bQ bO jY oX sH post) args s 0 0 A) (F0 m 45 ls [.int k0]) := by
  obtain ⟨hx, hb, hr, hml, hown, hts, hlocks, hA, hK, hN, tL, tM, hZL, hTL, hZM, hTM, hZX⟩ := id C0
  intro x1 x2 x3 k0 H locs ls hp hP hD hS hl
  unfold ws_X10_cover_45 at hp
  refine lv_istore (lv' := [(4, .int k0), (0, .ref a_m), (1, .int x1), (2, .int x2), (3, .int x3)]) hx hb aSh.2.2.2.2.2.2.2.2.2.2.2.1 hl (by decide) rfl (fun ls hl => ?_)
  refine lv_iload hx hb aSh.2.2.2.2.2.2.2.2.2.2.2.2.1 (lv_at hl 0 rfl) ?_
  refine lv_if_lt (tgt := 65) hx hb aSh.2.2.2.2.2.2.2.2.2.2.2.2.2.1 (by decide) (fun hc => ?_) (fun hc => ?_)
  · have hp := hp.1 hc
    exact ks_X10_cover_65 C0 hK4 x1 x3 H locs ls hp hP hD hS (lv_sub hl [1, 2, 4] rfl)
  · have hp := hp.2 hc
    refine lv_iload hx hb aSh.2.2.2.2.2.2.2.2.2.2.2.2.2.2.1 (lv_at hl 0 rfl) ?_
    refine lv_if_ne (tgt := 67) hx hb aSh.2.2.2.2.2.2.2.2.2.2.2.2.2.2.2 (by decide) (fun hc => ?_) (fun hc => ?_)
    · have hp := hp.1 hc
      exact ks_X10_cover_67 C0 hK4 x1 x2 x3 H locs ls hp hP hD hS (lv_sub hl [1, 2, 3, 4] rfl)
    · have hp := hp.2 hc
      refine lv_iload_n hx hb eX10_cover_57.1 rfl (lv_at hl 4 rfl) ?_
      refine lv_iload_n hx hb eX10_cover_57.2.1 rfl (lv_at hl 3 rfl) ?_
      refine yW (wc := (wd_X10_isRowAhead cI cC cZ cB cJ)) hP hD hS hA [] [0, 1] rfl rfl rfl rfl (aDn (As := [.int x3, .int x2]) (rest := []) C0 hP hD hS [] rfl rfl (c_X10_isRowAhead l dC dI cI cC cZ cB cJ H.size x3 x2 _ hp) q_895 q_897 q_896 aBL h_X10_isRowAhead rfl rfl ⟨lbz rfl, lbz rfl⟩ rfl rfl hl.1 rfl (lv_room (lbz rfl)) eX10_cover_57.2.2.1 ⟨Nat.zero_le _, Nat.zero_le _⟩) (fun r_7 u H locs hp hP hD hS => ?_)
      have hPD := PDs (ws' := (aHF cI cC cZ cB cJ a_m nY sJ eG iY lY jR jW jZ jO oQ bR aY jQ gY iJ mQ lJ jA bG mK jB mW mJ eJ dG bT aG jC bL bY jD mLn oF rP dQ aJ aB bW bZ aR aE bI aW bU fJ dO bM bQ bO jY oX sH)) hP hD [0, 1] (by decide) rfl
      have hP := hPD.1
      have hD := hPD.2
      refine lv_if_eq (tgt := 67) hx hb eX10_cover_57.2.2.2.1 (by decide) (fun hc => ?_) (fun hc => ?_)
      · have hp := hp.1 hc
        exact ks_X10_cover_67 C0 hK4 x1 x2 x3 H locs ls hp hP hD hS (lv_sub hl [1, 2, 3, 4] rfl)
      · have hp := hp.2 hc
        exact ks_X10_cover_65 C0 hK4 x1 x3 H locs ls hp hP hD hS (lv_sub hl [1, 2, 4] rfl)
def ws_X10_cover_4 (post : Int32 -> Prop) (next : Int32 -> Int32 -> Int32 -> Prop) (aG : Int32) (sH : Nat -> Int32) (x1 x2 x3 : Int32) : Prop := aGu (fun r_1 => (r_1 < x3 -> post x2) /\ (¬ r_1 < x3 -> aRt (fun r_2 => ((x1 &&& (r_2 ^^^ (-1))) = 0 -> (¬ x2 = (-1) -> aBb (fun r_3 => aBb (fun r_4 => ∀ v_5 : Int32, v_5 = r_3 - r_4 -> ws_X10_cover_45 post next aG sH x1 x2 x3 v_5) x2) x3) /\ (x2 = (-1) -> ws_X10_cover_45 post next aG sH x1 x2 x3 (-1))) /\ (¬ (x1 &&& (r_2 ^^^ (-1))) = 0 -> ws_X10_cover_67 post next aG sH x1 x2 x3)) x3 aG sH)) aG
noncomputable def wb_X10_cover_4 (post : Int32 -> Prop) (aG : Int32) (sH : Nat -> Int32) : Nat -> Int32 -> Int32 -> Int32 -> Prop := fun n => Nat.rec (motive := fun _ => Int32 -> Int32 -> Int32 -> Prop) (fun _ _ _ => False) (fun _ ih => ws_X10_cover_4 post ih aG sH) n
set_option maxHeartbeats 4000000 in
set_option maxRecDepth 100000 in
theorem ks_X10_cover_4 (C0 : gc aFt (some .int) 5 zX (dC, dI) (tyl cI cC cZ cB cJ) A p s m args meth c) {next : Int32 -> Int32 -> Int32 -> Prop} (hKn : ∀ (x1 : Int32) (x2 : Int32) (x3 : Int32) (H : Heap) (locs : List Loc) (ls : Array Slot), next x1 x2 x3 -> va_P (dC, dI) classes (aHF cI cC cZ cB cJ a_m nY sJ eG iY lY jR jW jZ jO oQ bR aY jQ gY iJ mQ lJ jA bG mK jB mW mJ eJ dG bT aG jC bL bY jD mLn oF rP dQ aJ aB bW bZ aR aE bI aW bU fJ dO bM bQ bO jY oX sH) H -> va_D A (aHF cI cC cZ cB cJ a_m nY sJ eG iY lY jR jW jZ jO oQ bR aY jQ gY iJ mQ lJ jA bG mK jB mW mJ eJ dG bT aG jC bL bY jD mLn oF rP dQ aJ aB bW bZ aR aE bI aW bU fJ dO bM bQ bO jY oX sH) -> va_S A s.heap H locs -> lv_has ls 5 [(0, .ref a_m), (1, .int x1), (2, .int x2), (3, .int x3)] -> W p l e rm_X10_cover s m args below meth c H locs 0 0 (MQ below (q_X10_cover dC dI cI cC cZ cB cJ A a_m nY sJ eG iY lY jR jW jZ jO oQ bR aY jQ gY iJ mQ lJ jA bG mK jB mW mJ eJ dG bT aG jC bL bY jD mLn oF rP dQ aJ aB bW bZ aR aE bI aW bU fJ dO bM bQ bO jY oX sH post) args s 0 0 A) (F0 m 4 ls [])) : ∀ (x1 x2 x3 : Int32) (H : Heap) (locs : List Loc) (ls : Array Slot), (ws_X10_cover_4 post next aG sH) x1 x2 x3 -> va_P (dC, dI) classes (aHF cI cC cZ cB cJ a_m nY sJ eG iY lY jR jW jZ jO oQ bR aY jQ gY iJ mQ lJ jA bG mK jB mW mJ eJ dG bT aG jC bL bY jD mLn oF rP dQ aJ aB bW bZ aR aE bI aW bU fJ dO bM bQ bO jY oX sH) H -> va_D A (aHF cI cC cZ cB cJ a_m nY sJ eG iY lY jR jW jZ jO oQ bR aY jQ gY iJ mQ lJ jA bG mK jB mW mJ eJ dG bT aG jC bL bY jD mLn oF rP dQ aJ aB bW bZ aR aE bI aW bU fJ dO bM bQ bO jY oX sH) -> va_S A s.heap H locs -> lv_has ls 5 [(0, .ref a_m), (1, .int x1), (2, .int x2), (3, .int x3)] -> W p l e rm_X10_cover s m args below meth c H locs 0 0 (MQ below (q_X10_cover dC dI cI cC cZ cB cJ A a_m nY sJ eG iY lY jR jW jZ jO oQ bR aY jQ gY iJ mQ lJ jA bG mK jB mW mJ eJ dG bT aG jC bL bY jD mLn oF rP dQ aJ aB bW bZ aR aE bI aW bU fJ dO bM bQ bO jY oX sH post) args s 0 0 A) (F0 m 4 ls []) := by
  obtain ⟨hx, hb, hr, hml, hown, hts, hlocks, hA, hK, hN, tL, tM, hZL, hTL, hZM, hTM, hZX⟩ := id C0
  intro x1 x2 x3 H locs ls hp hP hD hS hl
  unfold ws_X10_cover_4 at hp
  refine lv_iload_n hx hb aVu.2.2.2.2.1 rfl (lv_at hl 3 rfl) ?_
  refine lv_aload_n hx hb aVu.2.2.2.2.2.1 rfl (lv_at hl 0 rfl) ?_
  refine yW (wc := (aGj cI cC cZ cB cJ a_m nY sJ eG iY lY jR jW jZ jO oQ bR aY jQ gY iJ mQ lJ jA bG mK jB mW mJ eJ dG bT aG jC bL bY jD mLn oF rP dQ aJ aB bW bZ aR aE bI aW bU fJ dO bM bQ bO jY oX)) hP hD hS hA [0] [1] rfl rfl rfl rfl (zF (As := []) (rest := [.int x3]) C0 hP hD hS [0] rfl rfl 0 10 rfl rfl (aKY l dC dI cI cC cZ cB cJ a_m nY sJ eG iY lY jR jW jZ jO oQ bR aY jQ gY iJ mQ lJ jA bG mK jB mW mJ eJ dG H.size bT aG jC bL bY jD mLn oF rP dQ aJ aB bW bZ aR aE bI aW bU fJ dO bM bQ bO jY oX _ hp) q_870 q_873 q_871 q_872 aBL aKa rfl rfl ⟨lbz rfl, lbz rfl⟩ rfl rfl hl.1 rfl (lv_room (lbz rfl)) aVu.2.2.2.2.2.2.1 ⟨Nat.zero_le _, Nat.zero_le _⟩) (fun r_1 u H locs hp hP hD hS => ?_)
  have hPD := PDs (ws' := (aHF cI cC cZ cB cJ a_m nY sJ eG iY lY jR jW jZ jO oQ bR aY jQ gY iJ mQ lJ jA bG mK jB mW mJ eJ dG bT aG jC bL bY jD mLn oF rP dQ aJ aB bW bZ aR aE bI aW bU fJ dO bM bQ bO jY oX sH)) hP hD [1, 0] (by decide) rfl
  have hP := hPD.1
  have hD := hPD.2
  refine lv_icmp_gt (tgt := 73) hx hb aVu.2.2.2.2.2.2.2.1 (by decide) (fun hc => ?_) (fun hc => ?_)
  · have hp := hp.1 hc
    refine lv_iload_n hx hb eX10_cover_57.2.2.2.2.2.2.2.2.1 rfl (lv_at hl 2 rfl) ?_
    exact W.iret (v := x2) hx hb hr (fun t ht hW => ⟨⟨x2, (), rfl, hp, by rw [ht]; exact hP, va_K.moved hW.alike hK, hD⟩, hS.F ht⟩) hS.2.2 eX10_cover_57.2.2.2.2.2.2.2.2.2
  · have hp := hp.2 hc
    refine lv_iload_n hx hb aVu.2.2.2.2.2.2.2.2.1 rfl (lv_at hl 1 rfl) ?_
    refine lv_aload_n hx hb aVu.2.2.2.2.2.2.2.2.2.1 rfl (lv_at hl 0 rfl) ?_
    refine lv_iload_n hx hb aVu.2.2.2.2.2.2.2.2.2.2.1 rfl (lv_at hl 3 rfl) ?_
    refine yW (wc := (aH9 cI cC cZ cB cJ a_m nY sJ eG iY lY jR jW jZ jO oQ bR aY jQ gY iJ mQ lJ jA bG mK jB mW mJ eJ dG bT aG jC bL bY jD mLn oF rP dQ aJ aB bW bZ aR aE bI aW bU fJ dO bM bQ bO jY oX sH)) hP hD hS hA [0, 1] [] rfl rfl rfl rfl (zF (As := [.int x3]) (rest := [.int x1]) C0 hP hD hS [0, 1] rfl rfl 0 10 rfl rfl (c_X10_handOf l dC dI cI cC cZ cB cJ a_m nY sJ eG iY lY jR jW jZ jO oQ bR aY jQ gY iJ mQ lJ jA bG mK jB mW mJ eJ dG H.size x3 bT aG jC bL bY jD mLn oF rP dQ aJ aB bW bZ aR aE bI aW bU fJ dO bM bQ bO jY oX sH _ hp) q_874 q_877 q_875 q_876 aBL h_X10_handOf rfl rfl ⟨lbz rfl, lbz rfl⟩ rfl rfl hl.1 rfl (lv_room (lbz rfl)) aVu.2.2.2.2.2.2.2.2.2.2.2.1 ⟨Nat.zero_le _, Nat.zero_le _⟩) (fun r_2 u H locs hp hP hD hS => ?_)
    have hPD := PDs (ws' := (aHF cI cC cZ cB cJ a_m nY sJ eG iY lY jR jW jZ jO oQ bR aY jQ gY iJ mQ lJ jA bG mK jB mW mJ eJ dG bT aG jC bL bY jD mLn oF rP dQ aJ aB bW bZ aR aE bI aW bU fJ dO bM bQ bO jY oX sH)) hP hD [0, 1] (by decide) rfl
    have hP := hPD.1
    have hD := hPD.2
    refine lv_iconst (v := (-1)) hx hb aVu.2.2.2.2.2.2.2.2.2.2.2.2.1 aEJ ?_
    refine lv_ixor hx hb aVu.2.2.2.2.2.2.2.2.2.2.2.2.2.1 ?_
    refine lv_iand hx hb aVu.2.2.2.2.2.2.2.2.2.2.2.2.2.2.1 ?_
    refine lv_if_eq (tgt := 27) hx hb aVu.2.2.2.2.2.2.2.2.2.2.2.2.2.2.2 (by decide) (fun hc => ?_) (fun hc => ?_)
    · have hp := hp.1 hc
      refine lv_iload_n hx hb aSh.2.1 rfl (lv_at hl 2 rfl) ?_
      refine lv_iconst (v := (-1)) hx hb aSh.2.2.1 aEJ ?_
      refine lv_icmp_ne (tgt := 36) hx hb aSh.2.2.2.1 (by decide) (fun hc => ?_) (fun hc => ?_)
      · have hp := hp.1 hc
        refine lv_iload_n hx hb aSh.2.2.2.2.2.2.1 rfl (lv_at hl 3 rfl) ?_
        refine yW (wc := (aBh cI cC cZ cB cJ)) hP hD hS hA [] [0, 1] rfl rfl rfl rfl (aDn (As := [.int x3]) (rest := []) C0 hP hD hS [] rfl rfl (aBv l dC dI cI cC cZ cB cJ H.size x3 _ hp) q_320 q_803 q_322 q_321 aBw rfl rfl ⟨lbz rfl, lbz rfl⟩ rfl rfl hl.1 rfl (lv_room (lbz rfl)) aSh.2.2.2.2.2.2.2.1 ⟨Nat.zero_le _, Nat.zero_le _⟩) (fun r_3 u H locs hp hP hD hS => ?_)
        have hPD := PDs (ws' := (aHF cI cC cZ cB cJ a_m nY sJ eG iY lY jR jW jZ jO oQ bR aY jQ gY iJ mQ lJ jA bG mK jB mW mJ eJ dG bT aG jC bL bY jD mLn oF rP dQ aJ aB bW bZ aR aE bI aW bU fJ dO bM bQ bO jY oX sH)) hP hD [0, 1] (by decide) rfl
        have hP := hPD.1
        have hD := hPD.2
        refine lv_iload_n hx hb aSh.2.2.2.2.2.2.2.2.1 rfl (lv_at hl 2 rfl) ?_
        refine yW (wc := (aBh cI cC cZ cB cJ)) hP hD hS hA [] [0, 1] rfl rfl rfl rfl (aDn (As := [.int x2]) (rest := [.int r_3]) C0 hP hD hS [] rfl rfl (aBv l dC dI cI cC cZ cB cJ H.size x2 _ hp) q_320 q_803 q_322 q_321 aBw rfl rfl ⟨lbz rfl, lbz rfl⟩ rfl rfl hl.1 rfl (lv_room (lbz rfl)) aSh.2.2.2.2.2.2.2.2.2.1 ⟨Nat.zero_le _, Nat.zero_le _⟩) (fun r_4 u H locs hp hP hD hS => ?_)
        have hPD := PDs (ws' := (aHF cI cC cZ cB cJ a_m nY sJ eG iY lY jR jW jZ jO oQ bR aY jQ gY iJ mQ lJ jA bG mK jB mW mJ eJ dG bT aG jC bL bY jD mLn oF rP dQ aJ aB bW bZ aR aE bI aW bU fJ dO bM bQ bO jY oX sH)) hP hD [0, 1] (by decide) rfl
        have hP := hPD.1
        have hD := hPD.2
        refine lv_isub hx hb aSh.2.2.2.2.2.2.2.2.2.2.1 ?_
        refine lv_topi (fun v_5 aJD => ?_)
        have hp := hp v_5 aJD
        exact ks_X10_cover_45 C0 hKn x1 x2 x3 v_5 H locs ls hp hP hD hS (lv_sub hl [0, 1, 2, 3] rfl)
      · have hp := hp.2 hc
        refine lv_iconst (v := (-1)) hx hb aSh.2.2.2.2.1 aEJ ?_
        refine lv_goto (tgt := 45) hx hb aSh.2.2.2.2.2.1 (by decide) ?_
        exact ks_X10_cover_45 C0 hKn x1 x2 x3 (-1) H locs ls hp hP hD hS (lv_sub hl [0, 1, 2, 3] rfl)
    · have hp := hp.2 hc
      refine lv_goto (tgt := 67) hx hb aSh.1 (by decide) ?_
      exact ks_X10_cover_67 C0 hKn x1 x2 x3 H locs ls hp hP hD hS (lv_sub hl [0, 1, 2, 3] rfl)
set_option maxHeartbeats 4000000 in
set_option maxRecDepth 100000 in
theorem kb_X10_cover_4 (C0 : gc aFt (some .int) 5 zX (dC, dI) (tyl cI cC cZ cB cJ) A p s m args meth c) : ∀ (n : Nat), ∀ (x1 x2 x3 : Int32) (H : Heap) (locs : List Loc) (ls : Array Slot), (wb_X10_cover_4 post aG sH n) x1 x2 x3 -> va_P (dC, dI) classes (aHF cI cC cZ cB cJ a_m nY sJ eG iY lY jR jW jZ jO oQ bR aY jQ gY iJ mQ lJ jA bG mK jB mW mJ eJ dG bT aG jC bL bY jD mLn oF rP dQ aJ aB bW bZ aR aE bI aW bU fJ dO bM bQ bO jY oX sH) H -> va_D A (aHF cI cC cZ cB cJ a_m nY sJ eG iY lY jR jW jZ jO oQ bR aY jQ gY iJ mQ lJ jA bG mK jB mW mJ eJ dG bT aG jC bL bY jD mLn oF rP dQ aJ aB bW bZ aR aE bI aW bU fJ dO bM bQ bO jY oX sH) -> va_S A s.heap H locs -> lv_has ls 5 [(0, .ref a_m), (1, .int x1), (2, .int x2), (3, .int x3)] -> W p l e rm_X10_cover s m args below meth c H locs 0 0 (MQ below (q_X10_cover dC dI cI cC cZ cB cJ A a_m nY sJ eG iY lY jR jW jZ jO oQ bR aY jQ gY iJ mQ lJ jA bG mK jB mW mJ eJ dG bT aG jC bL bY jD mLn oF rP dQ aJ aB bW bZ aR aE bI aW bU fJ dO bM bQ bO jY oX sH post) args s 0 0 A) (F0 m 4 ls []) := by
  intro n
  induction n with
  | zero =>
    intro x1 x2 x3 H locs ls hp
    exact False.elim hp
  | succ n ih =>
    intro x1 x2 x3 H locs ls hp
    exact ks_X10_cover_4 C0 ih x1 x2 x3 H locs ls hp
end S_X10_cover
def wp_X10_cover (post : Int32 -> Prop) (p0 aG : Int32) (sH : Nat -> Int32) : Prop := ∃ n : Nat, wb_X10_cover_4 post aG sH n p0 (-1) 0
set_option maxHeartbeats 4000000 in
set_option maxRecDepth 100000 in
theorem c_X10_cover (l : Launch) (dC : Nat -> ClassId) (dI : Nat -> Nat -> Nat) (cI cC cZ cB cJ : ClassId) (a_m nY sJ eG iY lY jR jW jZ jO oQ bR aY jQ gY iJ mQ lJ jA bG mK jB mW mJ eJ dG sz : Nat) (p0 bT aG jC bL bY : Int32) (jD : Nat) (mLn oF rP dQ aJ aB bW bZ aR aE bI aW bU fJ dO bM bQ bO jY oX : Int32) (sH : Nat -> Int32) (post : Int32 -> Prop) (hw : wp_X10_cover post p0 aG sH) : Met l yX10_cover (gw yX10_cover aFt 5 (some .int)) rm_X10_cover (va_Pc [.ref a_m, .int p0] (gPre (dC, dI) (tyl cI cC cZ cB cJ) (aHF cI cC cZ cB cJ a_m nY sJ eG iY lY jR jW jZ jO oQ bR aY jQ gY iJ mQ lJ jA bG mK jB mW mJ eJ dG bT aG jC bL bY jD mLn oF rP dQ aJ aB bW bZ aR aE bI aW bU fJ dO bM bQ bO jY oX sH) sz)) (q_X10_cover dC dI cI cC cZ cB cJ (va_A (aHF cI cC cZ cB cJ a_m nY sJ eG iY lY jR jW jZ jO oQ bR aY jQ gY iJ mQ lJ jA bG mK jB mW mJ eJ dG bT aG jC bL bY jD mLn oF rP dQ aJ aB bW bZ aR aE bI aW bU fJ dO bM bQ bO jY oX sH) sz) a_m nY sJ eG iY lY jR jW jZ jO oQ bR aY jQ gY iJ mQ lJ jA bG mK jB mW mJ eJ dG bT aG jC bL bY jD mLn oF rP dQ aJ aB bW bZ aR aE bI aW bU fJ dO bM bQ bO jY oX sH post) 0 0 (va_A (aHF cI cC cZ cB cJ a_m nY sJ eG iY lY jR jW jZ jO oQ bR aY jQ gY iJ mQ lJ jA bG mK jB mW mJ eJ dG bT aG jC bL bY jD mLn oF rP dQ aJ aB bW bZ aR aE bI aW bU fJ dO bM bQ bO jY oX sH) sz) := by
  refine aBJ (own := zX) (dC, dI) (tyl cI cC cZ cB cJ) (aHF cI cC cZ cB cJ a_m nY sJ eG iY lY jR jW jZ jO oQ bR aY jQ gY iJ mQ lJ jA bG mK jB mW mJ eJ dG bT aG jC bL bY jD mLn oF rP dQ aJ aB bW bZ aR aE bI aW bU fJ dO bM bQ bO jY oX sH) sz [.ref a_m, .int p0] (fun A => q_X10_cover dC dI cI cC cZ cB cJ A a_m nY sJ eG iY lY jR jW jZ jO oQ bR aY jQ gY iJ mQ lJ jA bG mK jB mW mJ eJ dG bT aG jC bL bY jD mLn oF rP dQ aJ aB bW bZ aR aE bI aW bU fJ dO bM bQ bO jY oX sH post) aFY rfl (lbz rfl) ?_
  intro p e s m args below meth c A H locs ls C0 hP hD hS hl
  have hl : lv_has ls 5 [(0, .ref a_m), (1, .int p0)] := hl
  obtain ⟨hx, hb, hr, hml, hown, hts, hlocks, hA, hK, hN, tL, tM, hZL, hTL, hZM, hTM, hZX⟩ := id C0
  have hp := hw
  unfold wp_X10_cover at hp
  refine lv_iconst (v := (-1)) hx hb aVu.1 aEJ ?_
  refine lv_istore_n (lv' := [(2, .int (-1)), (0, .ref a_m), (1, .int p0)]) hx hb aVu.2.1 rfl hl (by decide) rfl (fun ls hl => ?_)
  refine lv_iconst (v := 0) hx hb aVu.2.2.1 aCi ?_
  refine lv_istore_n (lv' := [(3, .int 0), (2, .int (-1)), (0, .ref a_m), (1, .int p0)]) hx hb aVu.2.2.2.1 rfl hl (by decide) rfl (fun ls hl => ?_)
  obtain ⟨n9, hp⟩ := hp
  exact kb_X10_cover_4 C0 n9 p0 (-1) 0 H locs ls hp hP hD hS (lv_sub hl [2, 3, 1, 0] rfl)
abbrev aHQ (cI cC cZ cB cJ : ClassId) (a_m nY sJ eG iY lY jR jW jZ jO oQ bR aY jQ gY iJ mQ lJ jA bG mK jB mW mJ eJ dG : Nat) (bT aG jC bL bY : Int32) (jD : Nat) (mLn oF rP dQ aJ aB bW bZ aR aE bI aW bU fJ dO bM bQ bO jY oX : Int32) (sW sH : Nat -> Int32) : va_W := [(a_m, .inr (10, [.ref nY, .int bT, .ref sJ, .ref eG, .ref iY, .ref lY, .int aG, .ref jR, .ref jW, .ref jZ, .ref jO, .int jC, .ref oQ, .int bL, .int bY, rdv jO jQ jD, .int mLn, .int oF, .int rP, .int dQ, .ref bR, .ref aY, .int aJ, .int aB, .ref jQ, .int bW, .int bZ, .int aR, .int aE, .int bI, .int aW, .ref gY, .int bU, .ref iJ, .ref mQ, .int fJ, .ref lJ, .int dO, .ref jA, .ref bG, .int bM, .int bQ, .int bO, .ref mK, .ref jB, .ref mW, .int jY, .int oX, .ref mJ, .ref eJ, .ref dG])), (oQ, .inl (cI, 32, .inl sW)), (lJ, .inl (cI, 8, .inl sH))]
abbrev q_X10_tellCover (dC : Nat -> ClassId) (dI : Nat -> Nat -> Nat) (cI cC cZ cB cJ : ClassId) (A : Nat -> Prop) (a_m nY sJ eG iY lY jR jW jZ jO oQ bR aY jQ gY iJ mQ lJ jA bG mK jB mW mJ eJ dG : Nat) (bT aG jC bY : Int32) (jD : Nat) (mLn oF rP dQ aJ aB bW bZ aR aE bI aW bU fJ dO bM bQ bO jY oX : Int32) (sH : Nat -> Int32) (post : Int32 -> Int32 -> (Nat -> Int32) -> Prop) : Array Value -> State -> Outcome -> State -> Prop := va_Qi (fun (r : Int32) (u : Int32 × (Nat -> Int32)) => post r u.1 u.2) (fun u t => gB (dC, dI) (tyl cI cC cZ cB cJ) A (aHQ cI cC cZ cB cJ a_m nY sJ eG iY lY jR jW jZ jO oQ bR aY jQ gY iJ mQ lJ jA bG mK jB mW mJ eJ dG bT aG jC u.1 bY jD mLn oF rP dQ aJ aB bW bZ aR aE bI aW bU fJ dO bM bQ bO jY oX u.2 sH) t) A
abbrev rm_X10_tellCover : Room := { frames := 3, cells := 0, slots := 0, locals := 68 }
section S_X10_tellCover
variable {p : Program} {l : Launch} {e : Env} {s : State} {m : MethodId} {args : Array Value} {below : List Frame} {meth : Method} {c : Code} {dC : Nat -> ClassId} {dI : Nat -> Nat -> Nat} {cI cC cZ cB cJ : ClassId} {A : Nat -> Prop} {a_m nY sJ eG iY lY jR jW jZ jO oQ bR aY jQ gY iJ mQ lJ jA bG mK jB mW mJ eJ dG : Nat} {bT aG jC bY : Int32} {jD : Nat} {mLn oF rP dQ aJ aB bW bZ aR aE bI aW bU fJ dO bM bQ bO jY oX : Int32} {sH : Nat -> Int32} {post : Int32 -> Int32 -> (Nat -> Int32) -> Prop}
def ws_X10_tellCover_34 (post : Int32 -> Int32 -> (Nat -> Int32) -> Prop) (K13 : Int32 -> Int32 -> Int32 -> (Nat -> Int32) -> Prop) (aG : Int32) (sH : Nat -> Int32) (x2 x3 bL : Int32) (sW : Nat -> Int32) : Prop := ∀ v_4 : Int32, v_4 = x3 + 1 -> K13 x2 v_4 bL sW
set_option maxHeartbeats 4000000 in
set_option maxRecDepth 100000 in
theorem ks_X10_tellCover_34 (C0 : gc aGN (some .int) 4 zX (dC, dI) (tyl cI cC cZ cB cJ) A p s m args meth c) {K13 : Int32 -> Int32 -> Int32 -> (Nat -> Int32) -> Prop} (hK13 : ∀ (x2 : Int32) (x3 : Int32) (bL : Int32) (sW : Nat -> Int32) (H : Heap) (locs : List Loc) (ls : Array Slot), K13 x2 x3 bL sW -> va_P (dC, dI) classes (aHQ cI cC cZ cB cJ a_m nY sJ eG iY lY jR jW jZ jO oQ bR aY jQ gY iJ mQ lJ jA bG mK jB mW mJ eJ dG bT aG jC bL bY jD mLn oF rP dQ aJ aB bW bZ aR aE bI aW bU fJ dO bM bQ bO jY oX sW sH) H -> va_D A (aHQ cI cC cZ cB cJ a_m nY sJ eG iY lY jR jW jZ jO oQ bR aY jQ gY iJ mQ lJ jA bG mK jB mW mJ eJ dG bT aG jC bL bY jD mLn oF rP dQ aJ aB bW bZ aR aE bI aW bU fJ dO bM bQ bO jY oX sW sH) -> va_S A s.heap H locs -> lv_has ls 4 [(0, .ref a_m), (2, .int x2), (3, .int x3)] -> W p l e rm_X10_tellCover s m args below meth c H locs 0 0 (MQ below (q_X10_tellCover dC dI cI cC cZ cB cJ A a_m nY sJ eG iY lY jR jW jZ jO oQ bR aY jQ gY iJ mQ lJ jA bG mK jB mW mJ eJ dG bT aG jC bY jD mLn oF rP dQ aJ aB bW bZ aR aE bI aW bU fJ dO bM bQ bO jY oX sH post) args s 0 0 A) (F0 m 13 ls [])) : ∀ (x2 x3 bL : Int32) (sW : Nat -> Int32) (H : Heap) (locs : List Loc) (ls : Array Slot), (ws_X10_tellCover_34 post K13 aG sH) x2 x3 bL sW -> va_P (dC, dI) classes (aHQ cI cC cZ cB cJ a_m nY sJ eG iY lY jR jW jZ jO oQ bR aY jQ gY iJ mQ lJ jA bG mK jB mW mJ eJ dG bT aG jC bL bY jD mLn oF rP dQ aJ aB bW bZ aR aE bI aW bU fJ dO bM bQ bO jY oX sW sH) H -> va_D A (aHQ cI cC cZ cB cJ a_m nY sJ eG iY lY jR jW jZ jO oQ bR aY jQ gY iJ mQ lJ jA bG mK jB mW mJ eJ dG bT aG jC bL bY jD mLn oF rP dQ aJ aB bW bZ aR aE bI aW bU fJ dO bM bQ bO jY oX sW sH) -> va_S A s.heap H locs -> lv_has ls 4 [(0, .ref a_m), (2, .int x2), (3, .int x3)] -> W p l e rm_X10_tellCover s m args below meth c H locs 0 0 (MQ below (q_X10_tellCover dC dI cI cC cZ cB cJ A a_m nY sJ eG iY lY jR jW jZ jO oQ bR aY jQ gY iJ mQ lJ jA bG mK jB mW mJ eJ dG bT aG jC bY jD mLn oF rP dQ aJ aB bW bZ aR aE bI aW bU fJ dO bM bQ bO jY oX sH post) args s 0 0 A) (F0 m 34 ls []) := by
  obtain ⟨hx, hb, hr, hml, hown, hts, hlocks, hA, hK, hN, tL, tM, hZL, hTL, hZM, hTM, hZX⟩ := id C0
  intro x2 x3 bL sW H locs ls hp hP hD hS hl
  unfold ws_X10_tellCover_34 at hp
  obtain ⟨v_4, aHM⟩ : ∃ y : Int32, y = x3 + 1 := ⟨_, rfl⟩
  refine lv_iinc (v := v_4) (lv' := [(3, .int v_4), (0, .ref a_m), (2, .int x2)]) hx hb bBE.2.2.2.2.1 hl (k := 2) rfl (by rw [aHM]; rfl) (by decide) rfl (fun ls hl => ?_)
  have hp := hp v_4 aHM
  refine lv_goto (tgt := 13) hx hb bBE.2.2.2.2.2.1 (by decide) ?_
  exact hK13 x2 v_4 bL sW H locs ls hp hP hD hS (lv_sub hl [1, 2, 0] rfl)
def ws_X10_tellCover_13 (post : Int32 -> Int32 -> (Nat -> Int32) -> Prop) (next : Int32 -> Int32 -> Int32 -> (Nat -> Int32) -> Prop) (aG : Int32) (sH : Nat -> Int32) (x2 x3 bL : Int32) (sW : Nat -> Int32) : Prop := (aG <= x3 -> aBb (fun r_2 => post r_2 bL sW) x2) /\ (¬ aG <= x3 -> aKc (fun r_3 => (r_3 = 0 -> ws_X10_tellCover_34 post next aG sH x2 x3 bL sW) /\ (¬ r_3 = 0 -> aDs (fun aSZ m_row_6 => ws_X10_tellCover_34 post next aG sH x2 x3 aSZ m_row_6) x3 bL sW)) x2 x3)
noncomputable def wb_X10_tellCover_13 (post : Int32 -> Int32 -> (Nat -> Int32) -> Prop) (aG : Int32) (sH : Nat -> Int32) : Nat -> Int32 -> Int32 -> Int32 -> (Nat -> Int32) -> Prop := fun n => Nat.rec (motive := fun _ => Int32 -> Int32 -> Int32 -> (Nat -> Int32) -> Prop) (fun _ _ _ _ => False) (fun _ ih => ws_X10_tellCover_13 post ih aG sH) n
set_option maxHeartbeats 4000000 in
set_option maxRecDepth 100000 in
theorem ks_X10_tellCover_13 (C0 : gc aGN (some .int) 4 zX (dC, dI) (tyl cI cC cZ cB cJ) A p s m args meth c) {next : Int32 -> Int32 -> Int32 -> (Nat -> Int32) -> Prop} (hKn : ∀ (x2 : Int32) (x3 : Int32) (bL : Int32) (sW : Nat -> Int32) (H : Heap) (locs : List Loc) (ls : Array Slot), next x2 x3 bL sW -> va_P (dC, dI) classes (aHQ cI cC cZ cB cJ a_m nY sJ eG iY lY jR jW jZ jO oQ bR aY jQ gY iJ mQ lJ jA bG mK jB mW mJ eJ dG bT aG jC bL bY jD mLn oF rP dQ aJ aB bW bZ aR aE bI aW bU fJ dO bM bQ bO jY oX sW sH) H -> va_D A (aHQ cI cC cZ cB cJ a_m nY sJ eG iY lY jR jW jZ jO oQ bR aY jQ gY iJ mQ lJ jA bG mK jB mW mJ eJ dG bT aG jC bL bY jD mLn oF rP dQ aJ aB bW bZ aR aE bI aW bU fJ dO bM bQ bO jY oX sW sH) -> va_S A s.heap H locs -> lv_has ls 4 [(0, .ref a_m), (2, .int x2), (3, .int x3)] -> W p l e rm_X10_tellCover s m args below meth c H locs 0 0 (MQ below (q_X10_tellCover dC dI cI cC cZ cB cJ A a_m nY sJ eG iY lY jR jW jZ jO oQ bR aY jQ gY iJ mQ lJ jA bG mK jB mW mJ eJ dG bT aG jC bY jD mLn oF rP dQ aJ aB bW bZ aR aE bI aW bU fJ dO bM bQ bO jY oX sH post) args s 0 0 A) (F0 m 13 ls [])) : ∀ (x2 x3 bL : Int32) (sW : Nat -> Int32) (H : Heap) (locs : List Loc) (ls : Array Slot), (ws_X10_tellCover_13 post next aG sH) x2 x3 bL sW -> va_P (dC, dI) classes (aHQ cI cC cZ cB cJ a_m nY sJ eG iY lY jR jW jZ jO oQ bR aY jQ gY iJ mQ lJ jA bG mK jB mW mJ eJ dG bT aG jC bL bY jD mLn oF rP dQ aJ aB bW bZ aR aE bI aW bU fJ dO bM bQ bO jY oX sW sH) H -> va_D A (aHQ cI cC cZ cB cJ a_m nY sJ eG iY lY jR jW jZ jO oQ bR aY jQ gY iJ mQ lJ jA bG mK jB mW mJ eJ dG bT aG jC bL bY jD mLn oF rP dQ aJ aB bW bZ aR aE bI aW bU fJ dO bM bQ bO jY oX sW sH) -> va_S A s.heap H locs -> lv_has ls 4 [(0, .ref a_m), (2, .int x2), (3, .int x3)] -> W p l e rm_X10_tellCover s m args below meth c H locs 0 0 (MQ below (q_X10_tellCover dC dI cI cC cZ cB cJ A a_m nY sJ eG iY lY jR jW jZ jO oQ bR aY jQ gY iJ mQ lJ jA bG mK jB mW mJ eJ dG bT aG jC bY jD mLn oF rP dQ aJ aB bW bZ aR aE bI aW bU fJ dO bM bQ bO jY oX sH post) args s 0 0 A) (F0 m 13 ls []) := by
  obtain ⟨hx, hb, hr, hml, hown, hts, hlocks, hA, hK, hN, tL, tM, hZL, hTL, hZM, hTM, hZX⟩ := id C0
  intro x2 x3 bL sW H locs ls hp hP hD hS hl
  unfold ws_X10_tellCover_13 at hp
  refine lv_iload_n hx hb aMR.2.2.2.2.2.2.2.2.2.1 rfl (lv_at hl 2 rfl) ?_
  refine lv_aload_n hx hb aMR.2.2.2.2.2.2.2.2.2.2.1 rfl (lv_at hl 0 rfl) ?_
  refine va_get (D := (dC, dI)) (ci := 10) (v := .int aG) (C := zX) (T := aBe) (N := 51) hx hb hts aAt hown hK hP 0 rfl rfl 6 (lbz rfl) (hts _ q_666) (fun _ h9 => h9) rfl aMR.2.2.2.2.2.2.2.2.2.2.2.1 ?_
  refine lv_icmp_ge (tgt := 40) hx hb aMR.2.2.2.2.2.2.2.2.2.2.2.2.1 (by decide) (fun hc => ?_) (fun hc => ?_)
  · have hp := hp.1 hc
    refine lv_iload_n hx hb bBE.2.2.2.2.2.2.1 rfl (lv_at hl 1 rfl) ?_
    have hm := mgk (wc := (aBh cI cC cZ cB cJ)) hP mk_20 3 rfl rfl rfl
    refine yW hP hD hS hA (yS mk_20) (aAi mk_20) hm.1 hm.2 (aAk _) (zW _) (aDn (As := [.int x2]) (rest := []) C0 hP hD hS (yS mk_20) hm.1 (aAl _) (aBv l dC dI cI cC cZ cB cJ H.size x2 _ hp) q_320 q_803 q_322 q_321 aBw rfl rfl ⟨lbz rfl, lbz rfl⟩ rfl rfl hl.1 rfl (lv_room (lbz rfl)) bBE.2.2.2.2.2.2.2.1 ⟨Nat.zero_le _, Nat.zero_le _⟩) (fun r_2 u H locs hp hP hD hS => ?_)
    have hPD := PDm (ws' := (aHQ cI cC cZ cB cJ a_m nY sJ eG iY lY jR jW jZ jO oQ bR aY jQ gY iJ mQ lJ jA bG mK jB mW mJ eJ dG bT aG jC bL bY jD mLn oF rP dQ aJ aB bW bZ aR aE bI aW bU fJ dO bM bQ bO jY oX sW sH)) hP hD 3 rfl rfl rfl
    have hP := hPD.1
    have hD := hPD.2
    exact W.iret (v := r_2) hx hb hr (fun t ht hW => ⟨⟨r_2, (bL, sW), rfl, hp, by rw [ht]; exact hP, va_K.moved hW.alike hK, hD⟩, hS.F ht⟩) hS.2.2 bBE.2.2.2.2.2.2.2.2
  · have hp := hp.2 hc
    refine lv_iload_n hx hb aMR.2.2.2.2.2.2.2.2.2.2.2.2.2.1 rfl (lv_at hl 1 rfl) ?_
    refine lv_iload_n hx hb aMR.2.2.2.2.2.2.2.2.2.2.2.2.2.2.1 rfl (lv_at hl 2 rfl) ?_
    have hm := mgk (wc := (aLW cI cC cZ cB cJ)) hP mk_20 3 rfl rfl rfl
    refine yW hP hD hS hA (yS mk_20) (aAi mk_20) hm.1 hm.2 (aAk _) (zW _) (aDn (As := [.int x2, .int x3]) (rest := []) C0 hP hD hS (yS mk_20) hm.1 (aAl _) (aUP l dC dI cI cC cZ cB cJ H.size x2 x3 _ hp) q_734 q_736 q_735 aBL aUT rfl rfl ⟨lbz rfl, lbz rfl⟩ rfl rfl hl.1 rfl (lv_room (lbz rfl)) aMR.2.2.2.2.2.2.2.2.2.2.2.2.2.2.2 ⟨Nat.zero_le _, Nat.zero_le _⟩) (fun r_3 u H locs hp hP hD hS => ?_)
    have hPD := PDm (ws' := (aHQ cI cC cZ cB cJ a_m nY sJ eG iY lY jR jW jZ jO oQ bR aY jQ gY iJ mQ lJ jA bG mK jB mW mJ eJ dG bT aG jC bL bY jD mLn oF rP dQ aJ aB bW bZ aR aE bI aW bU fJ dO bM bQ bO jY oX sW sH)) hP hD 3 rfl rfl rfl
    have hP := hPD.1
    have hD := hPD.2
    refine lv_if_eq (tgt := 34) hx hb bBE.1 (by decide) (fun hc => ?_) (fun hc => ?_)
    · have hp := hp.1 hc
      exact ks_X10_tellCover_34 C0 hKn x2 x3 bL sW H locs ls hp hP hD hS (lv_sub hl [0, 1, 2] rfl)
    · have hp := hp.2 hc
      refine lv_aload_n hx hb bBE.2.1 rfl (lv_at hl 0 rfl) ?_
      refine lv_iload_n hx hb bBE.2.2.1 rfl (lv_at hl 2 rfl) ?_
      have hm := mgk (wc := (aD0 cI cC cZ cB cJ a_m nY sJ eG iY lY jR jW jZ jO oQ bR aY jQ gY iJ mQ lJ jA bG mK jB mW mJ eJ dG bT aG jC bL bY jD mLn oF rP dQ aJ aB bW bZ aR aE bI aW bU fJ dO bM bQ bO jY oX sW)) hP mk_137 3 rfl rfl rfl
      refine aBn hP hD hS hA (yS mk_137) (aAi mk_137) hm.1 hm.2 (aAk _) (zW _) (zF (As := [.int x3]) (rest := []) C0 hP hD hS (yS mk_137) hm.1 (aAl _) 0 10 rfl rfl (aGE l dC dI cI cC cZ cB cJ a_m nY sJ eG iY lY jR jW jZ jO oQ bR aY jQ gY iJ mQ lJ jA bG mK jB mW mJ eJ dG H.size x3 bT aG jC bL bY jD mLn oF rP dQ aJ aB bW bZ aR aE bI aW bU fJ dO bM bQ bO jY oX sW _ hp) q_849 q_852 q_850 q_851 aBL aGF rfl rfl ⟨lbz rfl, lbz rfl⟩ rfl rfl hl.1 rfl (lv_room (lbz rfl)) bBE.2.2.2.1 ⟨Nat.zero_le _, Nat.zero_le _⟩) (fun u H locs hp hP hD hS => ?_)
      obtain ⟨aSZ, m_row_6⟩ := u
      have hPD := PDm (ws' := (aHQ cI cC cZ cB cJ a_m nY sJ eG iY lY jR jW jZ jO oQ bR aY jQ gY iJ mQ lJ jA bG mK jB mW mJ eJ dG bT aG jC aSZ bY jD mLn oF rP dQ aJ aB bW bZ aR aE bI aW bU fJ dO bM bQ bO jY oX m_row_6 sH)) hP hD 3 rfl rfl rfl
      have hP := hPD.1
      have hD := hPD.2
      exact ks_X10_tellCover_34 C0 hKn x2 x3 aSZ m_row_6 H locs ls hp hP hD hS (lv_sub hl [0, 1, 2] rfl)
set_option maxHeartbeats 4000000 in
set_option maxRecDepth 100000 in
theorem kb_X10_tellCover_13 (C0 : gc aGN (some .int) 4 zX (dC, dI) (tyl cI cC cZ cB cJ) A p s m args meth c) : ∀ (n : Nat), ∀ (x2 x3 bL : Int32) (sW : Nat -> Int32) (H : Heap) (locs : List Loc) (ls : Array Slot), (wb_X10_tellCover_13 post aG sH n) x2 x3 bL sW -> va_P (dC, dI) classes (aHQ cI cC cZ cB cJ a_m nY sJ eG iY lY jR jW jZ jO oQ bR aY jQ gY iJ mQ lJ jA bG mK jB mW mJ eJ dG bT aG jC bL bY jD mLn oF rP dQ aJ aB bW bZ aR aE bI aW bU fJ dO bM bQ bO jY oX sW sH) H -> va_D A (aHQ cI cC cZ cB cJ a_m nY sJ eG iY lY jR jW jZ jO oQ bR aY jQ gY iJ mQ lJ jA bG mK jB mW mJ eJ dG bT aG jC bL bY jD mLn oF rP dQ aJ aB bW bZ aR aE bI aW bU fJ dO bM bQ bO jY oX sW sH) -> va_S A s.heap H locs -> lv_has ls 4 [(0, .ref a_m), (2, .int x2), (3, .int x3)] -> W p l e rm_X10_tellCover s m args below meth c H locs 0 0 (MQ below (q_X10_tellCover dC dI cI cC cZ cB cJ A a_m nY sJ eG iY lY jR jW jZ jO oQ bR aY jQ gY iJ mQ lJ jA bG mK jB mW mJ eJ dG bT aG jC bY jD mLn oF rP dQ aJ aB bW bZ aR aE bI aW bU fJ dO bM bQ bO jY oX sH post) args s 0 0 A) (F0 m 13 ls []) := by
  intro n
  induction n with
  | zero =>
    intro x2 x3 bL sW H locs ls hp
    exact False.elim hp
  | succ n ih =>
    intro x2 x3 bL sW H locs ls hp
    exact ks_X10_tellCover_13 C0 ih x2 x3 bL sW H locs ls hp
end S_X10_tellCover
def wp_X10_tellCover (post : Int32 -> Int32 -> (Nat -> Int32) -> Prop) (p0 aG bL : Int32) (sW sH : Nat -> Int32) : Prop := wp_X10_cover (fun r_1 => ∃ n : Nat, wb_X10_tellCover_13 post aG sH n r_1 0 0 sW) p0 aG sH
set_option maxHeartbeats 4000000 in
set_option maxRecDepth 100000 in
theorem c_X10_tellCover (l : Launch) (dC : Nat -> ClassId) (dI : Nat -> Nat -> Nat) (cI cC cZ cB cJ : ClassId) (a_m nY sJ eG iY lY jR jW jZ jO oQ bR aY jQ gY iJ mQ lJ jA bG mK jB mW mJ eJ dG sz : Nat) (p0 bT aG jC bL bY : Int32) (jD : Nat) (mLn oF rP dQ aJ aB bW bZ aR aE bI aW bU fJ dO bM bQ bO jY oX : Int32) (sW sH : Nat -> Int32) (post : Int32 -> Int32 -> (Nat -> Int32) -> Prop) (hw : wp_X10_tellCover post p0 aG bL sW sH) : Met l bB2 (gw bB2 aGN 4 (some .int)) rm_X10_tellCover (va_Pc [.ref a_m, .int p0] (gPre (dC, dI) (tyl cI cC cZ cB cJ) (aHQ cI cC cZ cB cJ a_m nY sJ eG iY lY jR jW jZ jO oQ bR aY jQ gY iJ mQ lJ jA bG mK jB mW mJ eJ dG bT aG jC bL bY jD mLn oF rP dQ aJ aB bW bZ aR aE bI aW bU fJ dO bM bQ bO jY oX sW sH) sz)) (q_X10_tellCover dC dI cI cC cZ cB cJ (va_A (aHQ cI cC cZ cB cJ a_m nY sJ eG iY lY jR jW jZ jO oQ bR aY jQ gY iJ mQ lJ jA bG mK jB mW mJ eJ dG bT aG jC bL bY jD mLn oF rP dQ aJ aB bW bZ aR aE bI aW bU fJ dO bM bQ bO jY oX sW sH) sz) a_m nY sJ eG iY lY jR jW jZ jO oQ bR aY jQ gY iJ mQ lJ jA bG mK jB mW mJ eJ dG bT aG jC bY jD mLn oF rP dQ aJ aB bW bZ aR aE bI aW bU fJ dO bM bQ bO jY oX sH post) 0 0 (va_A (aHQ cI cC cZ cB cJ a_m nY sJ eG iY lY jR jW jZ jO oQ bR aY jQ gY iJ mQ lJ jA bG mK jB mW mJ eJ dG bT aG jC bL bY jD mLn oF rP dQ aJ aB bW bZ aR aE bI aW bU fJ dO bM bQ bO jY oX sW sH) sz) := by
  refine aBJ (own := zX) (dC, dI) (tyl cI cC cZ cB cJ) (aHQ cI cC cZ cB cJ a_m nY sJ eG iY lY jR jW jZ jO oQ bR aY jQ gY iJ mQ lJ jA bG mK jB mW mJ eJ dG bT aG jC bL bY jD mLn oF rP dQ aJ aB bW bZ aR aE bI aW bU fJ dO bM bQ bO jY oX sW sH) sz [.ref a_m, .int p0] (fun A => q_X10_tellCover dC dI cI cC cZ cB cJ A a_m nY sJ eG iY lY jR jW jZ jO oQ bR aY jQ gY iJ mQ lJ jA bG mK jB mW mJ eJ dG bT aG jC bY jD mLn oF rP dQ aJ aB bW bZ aR aE bI aW bU fJ dO bM bQ bO jY oX sH post) aFY rfl (lbz rfl) ?_
  intro p e s m args below meth c A H locs ls C0 hP hD hS hl
  have hl : lv_has ls 4 [(0, .ref a_m), (1, .int p0)] := hl
  obtain ⟨hx, hb, hr, hml, hown, hts, hlocks, hA, hK, hN, tL, tM, hZL, hTL, hZM, hTM, hZX⟩ := id C0
  have hp := hw
  unfold wp_X10_tellCover at hp
  refine lv_aload_n hx hb aMR.1 rfl (lv_at hl 0 rfl) ?_
  refine lv_iload_n hx hb aMR.2.1 rfl (lv_at hl 1 rfl) ?_
  have hm := mgk (wc := (aHF cI cC cZ cB cJ a_m nY sJ eG iY lY jR jW jZ jO oQ bR aY jQ gY iJ mQ lJ jA bG mK jB mW mJ eJ dG bT aG jC bL bY jD mLn oF rP dQ aJ aB bW bZ aR aE bI aW bU fJ dO bM bQ bO jY oX sH)) hP mk_21 3 rfl rfl rfl
  refine yW hP hD hS hA (yS mk_21) (aAi mk_21) hm.1 hm.2 (aAk _) (zW _) (zF (As := [.int p0]) (rest := []) C0 hP hD hS (yS mk_21) hm.1 (aAl _) 0 10 rfl rfl (c_X10_cover l dC dI cI cC cZ cB cJ a_m nY sJ eG iY lY jR jW jZ jO oQ bR aY jQ gY iJ mQ lJ jA bG mK jB mW mJ eJ dG H.size p0 bT aG jC bL bY jD mLn oF rP dQ aJ aB bW bZ aR aE bI aW bU fJ dO bM bQ bO jY oX sH _ hp) q_898 q_901 q_899 q_900 aBL h_X10_cover rfl rfl ⟨lbz rfl, lbz rfl⟩ rfl rfl hl.1 rfl (lv_room (lbz rfl)) aMR.2.2.1 ⟨Nat.zero_le _, Nat.zero_le _⟩) (fun r_1 u H locs hp hP hD hS => ?_)
  have hPD := PDm (ws' := (aHQ cI cC cZ cB cJ a_m nY sJ eG iY lY jR jW jZ jO oQ bR aY jQ gY iJ mQ lJ jA bG mK jB mW mJ eJ dG bT aG jC bL bY jD mLn oF rP dQ aJ aB bW bZ aR aE bI aW bU fJ dO bM bQ bO jY oX sW sH)) hP hD 3 rfl rfl rfl
  have hP := hPD.1
  have hD := hPD.2
  refine lv_istore_n (lv' := [(2, .int r_1), (0, .ref a_m), (1, .int p0)]) hx hb aMR.2.2.2.1 rfl hl (by decide) rfl (fun ls hl => ?_)
  refine lv_aload_n hx hb aMR.2.2.2.2.1 rfl (lv_at hl 1 rfl) ?_
  refine lv_iconst (v := 0) hx hb aMR.2.2.2.2.2.1 aCi ?_
  refine va_put (D := (dC, dI)) (ci := 10) (v := .int 0) (ty := .int) (C := zX) (T := aBe) (N := 51) hx hb hts aAt aD2 aAa aEC hown hK hP hD hS 0 rfl rfl 13 (lbz rfl) (hts _ q_847) (fun _ h9 => h9) rfl (aAa 13 (lbz rfl)) rfl rfl (lbz rfl) aMR.2.2.2.2.2.2.1 (fun H locs hP hD hS => ?_)
  have hPD := PDw (ws' := (aHQ cI cC cZ cB cJ a_m nY sJ eG iY lY jR jW jZ jO oQ bR aY jQ gY iJ mQ lJ jA bG mK jB mW mJ eJ dG bT aG jC 0 bY jD mLn oF rP dQ aJ aB bW bZ aR aE bI aW bU fJ dO bM bQ bO jY oX sW sH)) hP hD rfl
  have hP := hPD.1
  have hD := hPD.2
  refine lv_iconst (v := 0) hx hb aMR.2.2.2.2.2.2.2.1 aCi ?_
  refine lv_istore_n (lv' := [(3, .int 0), (2, .int r_1), (0, .ref a_m), (1, .int p0)]) hx hb aMR.2.2.2.2.2.2.2.2.1 rfl hl (by decide) rfl (fun ls hl => ?_)
  obtain ⟨n9, hp⟩ := hp
  exact kb_X10_tellCover_13 C0 n9 r_1 0 0 sW H locs ls hp hP hD hS (lv_sub hl [2, 1, 0] rfl)
abbrev wd_X10_fewest (cI cC cZ cB cJ : ClassId) (a_m nY sJ eG iY lY jR jW jZ jO oQ bR aY jQ gY iJ mQ lJ jA bG mK jB mW mJ eJ dG : Nat) (bT aG jC bL bY : Int32) (jD : Nat) (mLn oF rP dQ aJ aB bW bZ aR aE bI aW bU fJ dO bM bQ bO jY oX : Int32) (qG m_x gR qR nG oO pJ sW sH : Nat -> Int32) : va_W := [(a_m, .inr (10, [.ref nY, .int bT, .ref sJ, .ref eG, .ref iY, .ref lY, .int aG, .ref jR, .ref jW, .ref jZ, .ref jO, .int jC, .ref oQ, .int bL, .int bY, rdv jO jQ jD, .int mLn, .int oF, .int rP, .int dQ, .ref bR, .ref aY, .int aJ, .int aB, .ref jQ, .int bW, .int bZ, .int aR, .int aE, .int bI, .int aW, .ref gY, .int bU, .ref iJ, .ref mQ, .int fJ, .ref lJ, .int dO, .ref jA, .ref bG, .int bM, .int bQ, .int bO, .ref mK, .ref jB, .ref mW, .int jY, .int oX, .ref mJ, .ref eJ, .ref dG])), (nY, .inl (cI, 21, .inl qG)), (sJ, .inl (cI, 16, .inl m_x)), (eG, .inl (cI, 16, .inl gR)), (lY, .inl (cI, 16, .inl qR)), (jR, .inl (cI, 8, .inl nG)), (jW, .inl (cI, 8, .inl oO)), (jZ, .inl (cI, 5, .inl pJ)), (oQ, .inl (cI, 32, .inl sW)), (lJ, .inl (cI, 8, .inl sH))]
abbrev q_X10_fewest (dC : Nat -> ClassId) (dI : Nat -> Nat -> Nat) (cI cC cZ cB cJ : ClassId) (A : Nat -> Prop) (a_m nY sJ eG iY lY jR jW jZ jO oQ bR aY jQ gY iJ mQ lJ jA bG mK jB mW mJ eJ dG : Nat) (bT aG jC : Int32) (jD : Nat) (mLn oF rP dQ aJ aB bW bZ aR aE bI aW bU fJ bM bQ bO jY oX : Int32) (qG m_x gR qR nG oO pJ : Nat -> Int32) (post : Int32 -> Int32 -> Int32 -> Int32 -> (Nat -> Int32) -> (Nat -> Int32) -> Prop) : Array Value -> State -> Outcome -> State -> Prop := va_Qi (fun (r : Int32) (u : Int32 × Int32 × Int32 × (Nat -> Int32) × (Nat -> Int32)) => post r u.1 u.2.1 u.2.2.1 u.2.2.2.1 u.2.2.2.2) (fun u t => gB (dC, dI) (tyl cI cC cZ cB cJ) A (wd_X10_fewest cI cC cZ cB cJ a_m nY sJ eG iY lY jR jW jZ jO oQ bR aY jQ gY iJ mQ lJ jA bG mK jB mW mJ eJ dG bT aG jC u.1 u.2.1 jD mLn oF rP dQ aJ aB bW bZ aR aE bI aW bU fJ u.2.2.1 bM bQ bO jY oX qG m_x gR qR nG oO pJ u.2.2.2.1 u.2.2.2.2) t) A
abbrev rm_X10_fewest : Room := { frames := 6, cells := 0, slots := 0, locals := 133 }
def wp_X10_fewest (post : Int32 -> Int32 -> Int32 -> Int32 -> (Nat -> Int32) -> (Nat -> Int32) -> Prop) (bT aG bL bY dO : Int32) (qG m_x gR qR nG oO pJ sW sH : Nat -> Int32) : Prop := aJm (fun aDN aII => wp_X10_tellCover (fun r_3 aMo m_row_5 => post r_3 aMo 0 aDN m_row_5 aII) aDN aG bL sW aII) bT aG dO qG m_x gR qR nG oO pJ sH
set_option maxHeartbeats 4000000 in
set_option maxRecDepth 100000 in
theorem c_X10_fewest (l : Launch) (dC : Nat -> ClassId) (dI : Nat -> Nat -> Nat) (cI cC cZ cB cJ : ClassId) (a_m nY sJ eG iY lY jR jW jZ jO oQ bR aY jQ gY iJ mQ lJ jA bG mK jB mW mJ eJ dG sz : Nat) (bT aG jC bL bY : Int32) (jD : Nat) (mLn oF rP dQ aJ aB bW bZ aR aE bI aW bU fJ dO bM bQ bO jY oX : Int32) (qG m_x gR qR nG oO pJ sW sH : Nat -> Int32) (post : Int32 -> Int32 -> Int32 -> Int32 -> (Nat -> Int32) -> (Nat -> Int32) -> Prop) (hw : wp_X10_fewest post bT aG bL bY dO qG m_x gR qR nG oO pJ sW sH) : Met l yX10_fewest (gw yX10_fewest cX10_fewest 1 (some .int)) rm_X10_fewest (va_Pc [.ref a_m] (gPre (dC, dI) (tyl cI cC cZ cB cJ) (wd_X10_fewest cI cC cZ cB cJ a_m nY sJ eG iY lY jR jW jZ jO oQ bR aY jQ gY iJ mQ lJ jA bG mK jB mW mJ eJ dG bT aG jC bL bY jD mLn oF rP dQ aJ aB bW bZ aR aE bI aW bU fJ dO bM bQ bO jY oX qG m_x gR qR nG oO pJ sW sH) sz)) (q_X10_fewest dC dI cI cC cZ cB cJ (va_A (wd_X10_fewest cI cC cZ cB cJ a_m nY sJ eG iY lY jR jW jZ jO oQ bR aY jQ gY iJ mQ lJ jA bG mK jB mW mJ eJ dG bT aG jC bL bY jD mLn oF rP dQ aJ aB bW bZ aR aE bI aW bU fJ dO bM bQ bO jY oX qG m_x gR qR nG oO pJ sW sH) sz) a_m nY sJ eG iY lY jR jW jZ jO oQ bR aY jQ gY iJ mQ lJ jA bG mK jB mW mJ eJ dG bT aG jC jD mLn oF rP dQ aJ aB bW bZ aR aE bI aW bU fJ bM bQ bO jY oX qG m_x gR qR nG oO pJ post) 0 0 (va_A (wd_X10_fewest cI cC cZ cB cJ a_m nY sJ eG iY lY jR jW jZ jO oQ bR aY jQ gY iJ mQ lJ jA bG mK jB mW mJ eJ dG bT aG jC bL bY jD mLn oF rP dQ aJ aB bW bZ aR aE bI aW bU fJ dO bM bQ bO jY oX qG m_x gR qR nG oO pJ sW sH) sz) := by
  refine aBJ (own := zX) (dC, dI) (tyl cI cC cZ cB cJ) (wd_X10_fewest cI cC cZ cB cJ a_m nY sJ eG iY lY jR jW jZ jO oQ bR aY jQ gY iJ mQ lJ jA bG mK jB mW mJ eJ dG bT aG jC bL bY jD mLn oF rP dQ aJ aB bW bZ aR aE bI aW bU fJ dO bM bQ bO jY oX qG m_x gR qR nG oO pJ sW sH) sz [.ref a_m] (fun A => q_X10_fewest dC dI cI cC cZ cB cJ A a_m nY sJ eG iY lY jR jW jZ jO oQ bR aY jQ gY iJ mQ lJ jA bG mK jB mW mJ eJ dG bT aG jC jD mLn oF rP dQ aJ aB bW bZ aR aE bI aW bU fJ bM bQ bO jY oX qG m_x gR qR nG oO pJ post) aFY rfl (lbz rfl) ?_
  intro p e s m args below meth c A H locs ls C0 hP hD hS hl
  have hl : lv_has ls 1 [(0, .ref a_m)] := hl
  obtain ⟨hx, hb, hr, hml, hown, hts, hlocks, hA, hK, hN, tL, tM, hZL, hTL, hZM, hTM, hZX⟩ := id C0
  have hp := hw
  unfold wp_X10_fewest at hp
  refine lv_aload_n hx hb eX10_fewest_0.1 rfl (lv_at hl 0 rfl) ?_
  refine lv_iconst (v := 0) hx hb eX10_fewest_0.2.1 aCi ?_
  refine va_put (D := (dC, dI)) (ci := 10) (v := .int 0) (ty := .int) (C := zX) (T := aBe) (N := 51) hx hb hts aAt aD2 aAa aEC hown hK hP hD hS 0 rfl rfl 14 (lbz rfl) (hts _ q_638) (fun _ h9 => h9) rfl (aAa 14 (lbz rfl)) rfl rfl (lbz rfl) eX10_fewest_0.2.2.1 (fun H locs hP hD hS => ?_)
  have hPD := PDw (ws' := (wd_X10_fewest cI cC cZ cB cJ a_m nY sJ eG iY lY jR jW jZ jO oQ bR aY jQ gY iJ mQ lJ jA bG mK jB mW mJ eJ dG bT aG jC bL 0 jD mLn oF rP dQ aJ aB bW bZ aR aE bI aW bU fJ dO bM bQ bO jY oX qG m_x gR qR nG oO pJ sW sH)) hP hD rfl
  have hP := hPD.1
  have hD := hPD.2
  refine lv_aload_n hx hb eX10_fewest_0.2.2.2.1 rfl (lv_at hl 0 rfl) ?_
  have hm := mgk (wc := (aIe cI cC cZ cB cJ a_m nY sJ eG iY lY jR jW jZ jO oQ bR aY jQ gY iJ mQ lJ jA bG mK jB mW mJ eJ dG bT aG jC bL 0 jD mLn oF rP dQ aJ aB bW bZ aR aE bI aW bU fJ dO bM bQ bO jY oX qG m_x gR qR nG oO pJ sH)) hP aUv 10 rfl rfl rfl
  refine aBn hP hD hS hA (yS aUv) (aAi aUv) hm.1 hm.2 (aAk _) (zW _) (zF (As := []) (rest := []) C0 hP hD hS (yS aUv) hm.1 (aAl _) 0 10 rfl rfl (aPr l dC dI cI cC cZ cB cJ a_m nY sJ eG iY lY jR jW jZ jO oQ bR aY jQ gY iJ mQ lJ jA bG mK jB mW mJ eJ dG H.size bT aG jC bL 0 jD mLn oF rP dQ aJ aB bW bZ aR aE bI aW bU fJ dO bM bQ bO jY oX qG m_x gR qR nG oO pJ sH _ hp) q_883 q_886 q_884 q_885 aBL aQ3 rfl rfl ⟨lbz rfl, lbz rfl⟩ rfl rfl hl.1 rfl (lv_room (lbz rfl)) eX10_fewest_0.2.2.2.2.1 ⟨Nat.zero_le _, Nat.zero_le _⟩) (fun u H locs hp hP hD hS => ?_)
  obtain ⟨aDN, aII⟩ := u
  have hPD := PDm (ws' := (wd_X10_fewest cI cC cZ cB cJ a_m nY sJ eG iY lY jR jW jZ jO oQ bR aY jQ gY iJ mQ lJ jA bG mK jB mW mJ eJ dG bT aG jC bL 0 jD mLn oF rP dQ aJ aB bW bZ aR aE bI aW bU fJ aDN bM bQ bO jY oX qG m_x gR qR nG oO pJ sW aII)) hP hD 10 rfl rfl rfl
  have hP := hPD.1
  have hD := hPD.2
  refine lv_aload_n hx hb eX10_fewest_0.2.2.2.2.2.1 rfl (lv_at hl 0 rfl) ?_
  refine lv_aload_n hx hb eX10_fewest_0.2.2.2.2.2.2.1 rfl (lv_at hl 0 rfl) ?_
  refine va_get (D := (dC, dI)) (ci := 10) (v := .int aDN) (C := zX) (T := aBe) (N := 51) hx hb hts aAt hown hK hP 0 rfl rfl 37 (lbz rfl) (hts _ q_878) (fun _ h9 => h9) rfl eX10_fewest_0.2.2.2.2.2.2.2.1 ?_
  have hm := mgk (wc := (aHQ cI cC cZ cB cJ a_m nY sJ eG iY lY jR jW jZ jO oQ bR aY jQ gY iJ mQ lJ jA bG mK jB mW mJ eJ dG bT aG jC bL 0 jD mLn oF rP dQ aJ aB bW bZ aR aE bI aW bU fJ aDN bM bQ bO jY oX sW aII)) hP mk_255 10 rfl rfl rfl
  refine yW hP hD hS hA (yS mk_255) (aAi mk_255) hm.1 hm.2 (aAk _) (zW _) (zF (As := [.int aDN]) (rest := []) C0 hP hD hS (yS mk_255) hm.1 (aAl _) 0 10 rfl rfl (c_X10_tellCover l dC dI cI cC cZ cB cJ a_m nY sJ eG iY lY jR jW jZ jO oQ bR aY jQ gY iJ mQ lJ jA bG mK jB mW mJ eJ dG H.size aDN bT aG jC bL 0 jD mLn oF rP dQ aJ aB bW bZ aR aE bI aW bU fJ aDN bM bQ bO jY oX sW aII _ hp) q_902 q_905 q_903 q_904 aBL h_X10_tellCover rfl rfl ⟨lbz rfl, lbz rfl⟩ rfl rfl hl.1 rfl (lv_room (lbz rfl)) eX10_fewest_0.2.2.2.2.2.2.2.2.1 ⟨Nat.zero_le _, Nat.zero_le _⟩) (fun r_3 u H locs hp hP hD hS => ?_)
  obtain ⟨aMo, m_row_5⟩ := u
  have hPD := PDm (ws' := (wd_X10_fewest cI cC cZ cB cJ a_m nY sJ eG iY lY jR jW jZ jO oQ bR aY jQ gY iJ mQ lJ jA bG mK jB mW mJ eJ dG bT aG jC aMo 0 jD mLn oF rP dQ aJ aB bW bZ aR aE bI aW bU fJ aDN bM bQ bO jY oX qG m_x gR qR nG oO pJ m_row_5 aII)) hP hD 10 rfl rfl rfl
  have hP := hPD.1
  have hD := hPD.2
  exact W.iret (v := r_3) hx hb hr (fun t ht hW => ⟨⟨r_3, (aMo, 0, aDN, m_row_5, aII), rfl, hp, by rw [ht]; exact hP, va_K.moved hW.alike hK, hD⟩, hS.F ht⟩) hS.2.2 eX10_fewest_0.2.2.2.2.2.2.2.2.2
abbrev aEl (cI cC cZ cB cJ : ClassId) (a_m nY sJ eG iY lY jR jW jZ jO oQ bR aY jQ gY iJ mQ lJ jA bG mK jB mW mJ eJ dG : Nat) (bT aG jC bL bY : Int32) (jD : Nat) (mLn oF rP dQ aJ aB bW bZ aR aE bI aW bU fJ dO bM bQ bO jY oX : Int32) (qG m_x gR qR nG oO pJ sW sH : Nat -> Int32) : va_W := [(a_m, .inr (10, [.ref nY, .int bT, .ref sJ, .ref eG, .ref iY, .ref lY, .int aG, .ref jR, .ref jW, .ref jZ, .ref jO, .int jC, .ref oQ, .int bL, .int bY, rdv jO jQ jD, .int mLn, .int oF, .int rP, .int dQ, .ref bR, .ref aY, .int aJ, .int aB, .ref jQ, .int bW, .int bZ, .int aR, .int aE, .int bI, .int aW, .ref gY, .int bU, .ref iJ, .ref mQ, .int fJ, .ref lJ, .int dO, .ref jA, .ref bG, .int bM, .int bQ, .int bO, .ref mK, .ref jB, .ref mW, .int jY, .int oX, .ref mJ, .ref eJ, .ref dG])), (nY, .inl (cI, 21, .inl qG)), (sJ, .inl (cI, 16, .inl m_x)), (eG, .inl (cI, 16, .inl gR)), (lY, .inl (cI, 16, .inl qR)), (jR, .inl (cI, 8, .inl nG)), (jW, .inl (cI, 8, .inl oO)), (jZ, .inl (cI, 5, .inl pJ)), (oQ, .inl (cI, 32, .inl sW)), (lJ, .inl (cI, 8, .inl sH))]
abbrev aYd (dC : Nat -> ClassId) (dI : Nat -> Nat -> Nat) (cI cC cZ cB cJ : ClassId) (A : Nat -> Prop) (a_m nY sJ eG iY lY jR jW jZ jO oQ bR aY jQ gY iJ mQ lJ jA bG mK jB mW mJ eJ dG : Nat) (bT aG jC : Int32) (jD : Nat) (mLn oF rP dQ aJ aB bW bZ aR aE bI aW bU fJ bM bQ bO jY oX : Int32) (qG m_x gR qR nG oO pJ : Nat -> Int32) (post : Int32 -> Int32 -> Int32 -> Int32 -> (Nat -> Int32) -> (Nat -> Int32) -> Prop) : Array Value -> State -> Outcome -> State -> Prop := va_Qi (fun (r : Int32) (u : Int32 × Int32 × Int32 × (Nat -> Int32) × (Nat -> Int32)) => post r u.1 u.2.1 u.2.2.1 u.2.2.2.1 u.2.2.2.2) (fun u t => gB (dC, dI) (tyl cI cC cZ cB cJ) A (aEl cI cC cZ cB cJ a_m nY sJ eG iY lY jR jW jZ jO oQ bR aY jQ gY iJ mQ lJ jA bG mK jB mW mJ eJ dG bT aG jC u.1 u.2.1 jD mLn oF rP dQ aJ aB bW bZ aR aE bI aW bU fJ u.2.2.1 bM bQ bO jY oX qG m_x gR qR nG oO pJ u.2.2.2.1 u.2.2.2.2) t) A
abbrev aX6 : Room := { frames := 6, cells := 0, slots := 0, locals := 133 }
section S_X10_needed
variable {p : Program} {l : Launch} {e : Env} {s : State} {m : MethodId} {args : Array Value} {below : List Frame} {meth : Method} {c : Code} {dC : Nat -> ClassId} {dI : Nat -> Nat -> Nat} {cI cC cZ cB cJ : ClassId} {A : Nat -> Prop} {a_m nY sJ eG iY lY jR jW jZ jO oQ bR aY jQ gY iJ mQ lJ jA bG mK jB mW mJ eJ dG : Nat} {bT aG jC : Int32} {jD : Nat} {mLn oF rP dQ aJ aB bW bZ aR aE bI aW bU fJ bM bQ bO jY oX : Int32} {qG m_x gR qR nG oO pJ : Nat -> Int32} {post : Int32 -> Int32 -> Int32 -> Int32 -> (Nat -> Int32) -> (Nat -> Int32) -> Prop}
def ws_X10_needed_105 (post : Int32 -> Int32 -> Int32 -> Int32 -> (Nat -> Int32) -> (Nat -> Int32) -> Prop) (K15 : Int32 -> Int32 -> Int32 -> Int32 -> Int32 -> Int32 -> (Nat -> Int32) -> (Nat -> Int32) -> Prop) (bT aG : Int32) (qG m_x gR qR nG oO pJ : Nat -> Int32) (x1 x2 x3 bL bY dO : Int32) (sW sH : Nat -> Int32) : Prop := ∀ v_6 : Int32, v_6 = x3 + 1 -> K15 x1 x2 v_6 bL bY dO sW sH
set_option maxHeartbeats 4000000 in
set_option maxRecDepth 100000 in
theorem ks_X10_needed_105 (C0 : gc aCq (some .int) 6 zX (dC, dI) (tyl cI cC cZ cB cJ) A p s m args meth c) {K15 : Int32 -> Int32 -> Int32 -> Int32 -> Int32 -> Int32 -> (Nat -> Int32) -> (Nat -> Int32) -> Prop} (hK15 : ∀ (x1 : Int32) (x2 : Int32) (x3 : Int32) (bL : Int32) (bY : Int32) (dO : Int32) (sW : Nat -> Int32) (sH : Nat -> Int32) (H : Heap) (locs : List Loc) (ls : Array Slot), K15 x1 x2 x3 bL bY dO sW sH -> va_P (dC, dI) classes (aEl cI cC cZ cB cJ a_m nY sJ eG iY lY jR jW jZ jO oQ bR aY jQ gY iJ mQ lJ jA bG mK jB mW mJ eJ dG bT aG jC bL bY jD mLn oF rP dQ aJ aB bW bZ aR aE bI aW bU fJ dO bM bQ bO jY oX qG m_x gR qR nG oO pJ sW sH) H -> va_D A (aEl cI cC cZ cB cJ a_m nY sJ eG iY lY jR jW jZ jO oQ bR aY jQ gY iJ mQ lJ jA bG mK jB mW mJ eJ dG bT aG jC bL bY jD mLn oF rP dQ aJ aB bW bZ aR aE bI aW bU fJ dO bM bQ bO jY oX qG m_x gR qR nG oO pJ sW sH) -> va_S A s.heap H locs -> lv_has ls 6 [(0, .ref a_m), (1, .int x1), (2, .int x2), (3, .int x3)] -> W p l e aX6 s m args below meth c H locs 0 0 (MQ below (aYd dC dI cI cC cZ cB cJ A a_m nY sJ eG iY lY jR jW jZ jO oQ bR aY jQ gY iJ mQ lJ jA bG mK jB mW mJ eJ dG bT aG jC jD mLn oF rP dQ aJ aB bW bZ aR aE bI aW bU fJ bM bQ bO jY oX qG m_x gR qR nG oO pJ post) args s 0 0 A) (F0 m 15 ls [])) : ∀ (x1 x2 x3 bL bY dO : Int32) (sW sH : Nat -> Int32) (H : Heap) (locs : List Loc) (ls : Array Slot), (ws_X10_needed_105 post K15 bT aG qG m_x gR qR nG oO pJ) x1 x2 x3 bL bY dO sW sH -> va_P (dC, dI) classes (aEl cI cC cZ cB cJ a_m nY sJ eG iY lY jR jW jZ jO oQ bR aY jQ gY iJ mQ lJ jA bG mK jB mW mJ eJ dG bT aG jC bL bY jD mLn oF rP dQ aJ aB bW bZ aR aE bI aW bU fJ dO bM bQ bO jY oX qG m_x gR qR nG oO pJ sW sH) H -> va_D A (aEl cI cC cZ cB cJ a_m nY sJ eG iY lY jR jW jZ jO oQ bR aY jQ gY iJ mQ lJ jA bG mK jB mW mJ eJ dG bT aG jC bL bY jD mLn oF rP dQ aJ aB bW bZ aR aE bI aW bU fJ dO bM bQ bO jY oX qG m_x gR qR nG oO pJ sW sH) -> va_S A s.heap H locs -> lv_has ls 6 [(0, .ref a_m), (1, .int x1), (2, .int x2), (3, .int x3)] -> W p l e aX6 s m args below meth c H locs 0 0 (MQ below (aYd dC dI cI cC cZ cB cJ A a_m nY sJ eG iY lY jR jW jZ jO oQ bR aY jQ gY iJ mQ lJ jA bG mK jB mW mJ eJ dG bT aG jC jD mLn oF rP dQ aJ aB bW bZ aR aE bI aW bU fJ bM bQ bO jY oX qG m_x gR qR nG oO pJ post) args s 0 0 A) (F0 m 105 ls []) := by
  obtain ⟨hx, hb, hr, hml, hown, hts, hlocks, hA, hK, hN, tL, tM, hZL, hTL, hZM, hTM, hZX⟩ := id C0
  intro x1 x2 x3 bL bY dO sW sH H locs ls hp hP hD hS hl
  unfold ws_X10_needed_105 at hp
  obtain ⟨v_6, ev_6⟩ : ∃ y : Int32, y = x3 + 1 := ⟨_, rfl⟩
  refine lv_iinc (v := v_6) (lv' := [(3, .int v_6), (0, .ref a_m), (1, .int x1), (2, .int x2)]) hx hb aQN.2.2.2.2.2.2.2.2.2.2.2.2.1 hl (k := 3) rfl (by rw [ev_6]; rfl) (by decide) rfl (fun ls hl => ?_)
  have hp := hp v_6 ev_6
  refine lv_goto (tgt := 15) hx hb aQN.2.2.2.2.2.2.2.2.2.2.2.2.2.1 (by decide) ?_
  exact hK15 x1 x2 v_6 bL bY dO sW sH H locs ls hp hP hD hS (lv_sub hl [1, 2, 3, 0] rfl)
def ws_X10_needed_62 (post : Int32 -> Int32 -> Int32 -> Int32 -> (Nat -> Int32) -> (Nat -> Int32) -> Prop) (K15 : Int32 -> Int32 -> Int32 -> Int32 -> Int32 -> Int32 -> (Nat -> Int32) -> (Nat -> Int32) -> Prop) (K29 : Int32 -> Int32 -> Int32 -> Int32 -> Int32 -> Int32 -> Int32 -> Int32 -> (Nat -> Int32) -> (Nat -> Int32) -> Prop) (bT aG : Int32) (qG m_x gR qR nG oO pJ : Nat -> Int32) (x1 x2 x3 x5 k0 k1 bL bY dO : Int32) (sW sH : Nat -> Int32) : Prop := ∀ aEp : Int32, aEp = k0 ||| k1 -> ∀ aIQ : Int32, aIQ = x5 + 1 -> K29 x1 x2 x3 aEp aIQ bL bY dO sW sH
set_option maxHeartbeats 4000000 in
set_option maxRecDepth 100000 in
theorem ks_X10_needed_62 (C0 : gc aCq (some .int) 6 zX (dC, dI) (tyl cI cC cZ cB cJ) A p s m args meth c) {K15 : Int32 -> Int32 -> Int32 -> Int32 -> Int32 -> Int32 -> (Nat -> Int32) -> (Nat -> Int32) -> Prop} {K29 : Int32 -> Int32 -> Int32 -> Int32 -> Int32 -> Int32 -> Int32 -> Int32 -> (Nat -> Int32) -> (Nat -> Int32) -> Prop} (hK15 : ∀ (x1 : Int32) (x2 : Int32) (x3 : Int32) (bL : Int32) (bY : Int32) (dO : Int32) (sW : Nat -> Int32) (sH : Nat -> Int32) (H : Heap) (locs : List Loc) (ls : Array Slot), K15 x1 x2 x3 bL bY dO sW sH -> va_P (dC, dI) classes (aEl cI cC cZ cB cJ a_m nY sJ eG iY lY jR jW jZ jO oQ bR aY jQ gY iJ mQ lJ jA bG mK jB mW mJ eJ dG bT aG jC bL bY jD mLn oF rP dQ aJ aB bW bZ aR aE bI aW bU fJ dO bM bQ bO jY oX qG m_x gR qR nG oO pJ sW sH) H -> va_D A (aEl cI cC cZ cB cJ a_m nY sJ eG iY lY jR jW jZ jO oQ bR aY jQ gY iJ mQ lJ jA bG mK jB mW mJ eJ dG bT aG jC bL bY jD mLn oF rP dQ aJ aB bW bZ aR aE bI aW bU fJ dO bM bQ bO jY oX qG m_x gR qR nG oO pJ sW sH) -> va_S A s.heap H locs -> lv_has ls 6 [(0, .ref a_m), (1, .int x1), (2, .int x2), (3, .int x3)] -> W p l e aX6 s m args below meth c H locs 0 0 (MQ below (aYd dC dI cI cC cZ cB cJ A a_m nY sJ eG iY lY jR jW jZ jO oQ bR aY jQ gY iJ mQ lJ jA bG mK jB mW mJ eJ dG bT aG jC jD mLn oF rP dQ aJ aB bW bZ aR aE bI aW bU fJ bM bQ bO jY oX qG m_x gR qR nG oO pJ post) args s 0 0 A) (F0 m 15 ls [])) (hK29 : ∀ (x1 : Int32) (x2 : Int32) (x3 : Int32) (x4 : Int32) (x5 : Int32) (bL : Int32) (bY : Int32) (dO : Int32) (sW : Nat -> Int32) (sH : Nat -> Int32) (H : Heap) (locs : List Loc) (ls : Array Slot), K29 x1 x2 x3 x4 x5 bL bY dO sW sH -> va_P (dC, dI) classes (aEl cI cC cZ cB cJ a_m nY sJ eG iY lY jR jW jZ jO oQ bR aY jQ gY iJ mQ lJ jA bG mK jB mW mJ eJ dG bT aG jC bL bY jD mLn oF rP dQ aJ aB bW bZ aR aE bI aW bU fJ dO bM bQ bO jY oX qG m_x gR qR nG oO pJ sW sH) H -> va_D A (aEl cI cC cZ cB cJ a_m nY sJ eG iY lY jR jW jZ jO oQ bR aY jQ gY iJ mQ lJ jA bG mK jB mW mJ eJ dG bT aG jC bL bY jD mLn oF rP dQ aJ aB bW bZ aR aE bI aW bU fJ dO bM bQ bO jY oX qG m_x gR qR nG oO pJ sW sH) -> va_S A s.heap H locs -> lv_has ls 6 [(0, .ref a_m), (1, .int x1), (2, .int x2), (3, .int x3), (4, .int x4), (5, .int x5)] -> W p l e aX6 s m args below meth c H locs 0 0 (MQ below (aYd dC dI cI cC cZ cB cJ A a_m nY sJ eG iY lY jR jW jZ jO oQ bR aY jQ gY iJ mQ lJ jA bG mK jB mW mJ eJ dG bT aG jC jD mLn oF rP dQ aJ aB bW bZ aR aE bI aW bU fJ bM bQ bO jY oX qG m_x gR qR nG oO pJ post) args s 0 0 A) (F0 m 29 ls [])) : ∀ (x1 x2 x3 x5 k0 k1 bL bY dO : Int32) (sW sH : Nat -> Int32) (H : Heap) (locs : List Loc) (ls : Array Slot), (ws_X10_needed_62 post K15 K29 bT aG qG m_x gR qR nG oO pJ) x1 x2 x3 x5 k0 k1 bL bY dO sW sH -> va_P (dC, dI) classes (aEl cI cC cZ cB cJ a_m nY sJ eG iY lY jR jW jZ jO oQ bR aY jQ gY iJ mQ lJ jA bG mK jB mW mJ eJ dG bT aG jC bL bY jD mLn oF rP dQ aJ aB bW bZ aR aE bI aW bU fJ dO bM bQ bO jY oX qG m_x gR qR nG oO pJ sW sH) H -> va_D A (aEl cI cC cZ cB cJ a_m nY sJ eG iY lY jR jW jZ jO oQ bR aY jQ gY iJ mQ lJ jA bG mK jB mW mJ eJ dG bT aG jC bL bY jD mLn oF rP dQ aJ aB bW bZ aR aE bI aW bU fJ dO bM bQ bO jY oX qG m_x gR qR nG oO pJ sW sH) -> va_S A s.heap H locs -> lv_has ls 6 [(0, .ref a_m), (1, .int x1), (2, .int x2), (3, .int x3), (5, .int x5)] -> W p l e aX6 s m args below meth c H locs 0 0 (MQ below (aYd dC dI cI cC cZ cB cJ A a_m nY sJ eG iY lY jR jW jZ jO oQ bR aY jQ gY iJ mQ lJ jA bG mK jB mW mJ eJ dG bT aG jC jD mLn oF rP dQ aJ aB bW bZ aR aE bI aW bU fJ bM bQ bO jY oX qG m_x gR qR nG oO pJ post) args s 0 0 A) (F0 m 62 ls [.int k1, .int k0]) := by
  obtain ⟨hx, hb, hr, hml, hown, hts, hlocks, hA, hK, hN, tL, tM, hZL, hTL, hZM, hTM, hZX⟩ := id C0
  intro x1 x2 x3 x5 k0 k1 bL bY dO sW sH H locs ls hp hP hD hS hl
  unfold ws_X10_needed_62 at hp
  refine lv_ior hx hb aQM.2.2.2.2.1 ?_
  refine lv_topi (fun aEp ev_12 => ?_)
  have hp := hp aEp ev_12
  refine lv_istore (lv' := [(4, .int aEp), (0, .ref a_m), (1, .int x1), (2, .int x2), (3, .int x3), (5, .int x5)]) hx hb aQM.2.2.2.2.2.1 hl (by decide) rfl (fun ls hl => ?_)
  obtain ⟨aIQ, ev_13⟩ : ∃ y : Int32, y = x5 + 1 := ⟨_, rfl⟩
  refine lv_iinc (v := aIQ) (lv' := [(5, .int aIQ), (4, .int aEp), (0, .ref a_m), (1, .int x1), (2, .int x2), (3, .int x3)]) hx hb aQM.2.2.2.2.2.2.1 hl (k := 5) rfl (by rw [ev_13]; rfl) (by decide) rfl (fun ls hl => ?_)
  have hp := hp aIQ ev_13
  refine lv_goto (tgt := 29) hx hb aQM.2.2.2.2.2.2.2.1 (by decide) ?_
  exact hK29 x1 x2 x3 aEp aIQ bL bY dO sW sH H locs ls hp hP hD hS (lv_sub hl [2, 3, 4, 5, 1, 0] rfl)
def ws_X10_needed_29 (post : Int32 -> Int32 -> Int32 -> Int32 -> (Nat -> Int32) -> (Nat -> Int32) -> Prop) (K15 : Int32 -> Int32 -> Int32 -> Int32 -> Int32 -> Int32 -> (Nat -> Int32) -> (Nat -> Int32) -> Prop) (next : Int32 -> Int32 -> Int32 -> Int32 -> Int32 -> Int32 -> Int32 -> Int32 -> (Nat -> Int32) -> (Nat -> Int32) -> Prop) (bT aG : Int32) (qG m_x gR qR nG oO pJ : Nat -> Int32) (x1 x2 x3 x4 x5 bL bY dO : Int32) (sW sH : Nat -> Int32) : Prop := (aG <= x5 -> aKc (fun r_5 => (r_5 = 0 -> ws_X10_needed_105 post K15 bT aG qG m_x gR qR nG oO pJ x1 x2 x3 bL bY dO sW sH) /\ (¬ r_5 = 0 -> aBb (fun r_7 => (r_7 = 1 -> ∀ v_8 : Int32, v_8 = x1 ||| x4 -> ∀ v_9 : Int32, v_9 = x2 ||| (1 <<< (x3 &&& 31)) -> ws_X10_needed_105 post K15 bT aG qG m_x gR qR nG oO pJ v_8 v_9 x3 bL bY dO sW sH) /\ (¬ r_7 = 1 -> ws_X10_needed_105 post K15 bT aG qG m_x gR qR nG oO pJ x1 x2 x3 bL bY dO sW sH)) x4)) dO x3) /\ (¬ aG <= x5 -> vp_in x5 8 /\ (∀ aEr : Int32, aEr = sH x5.toNatClampNeg -> aKc (fun r_11 => (r_11 = 0 -> ws_X10_needed_62 post K15 next bT aG qG m_x gR qR nG oO pJ x1 x2 x3 x5 x4 0 bL bY dO sW sH) /\ (¬ r_11 = 0 -> ∀ aGC : Int32, aGC = 1 <<< (x5 &&& 31) -> ws_X10_needed_62 post K15 next bT aG qG m_x gR qR nG oO pJ x1 x2 x3 x5 x4 aGC bL bY dO sW sH)) aEr x3))
noncomputable def wb_X10_needed_29 (post : Int32 -> Int32 -> Int32 -> Int32 -> (Nat -> Int32) -> (Nat -> Int32) -> Prop) (K15 : Int32 -> Int32 -> Int32 -> Int32 -> Int32 -> Int32 -> (Nat -> Int32) -> (Nat -> Int32) -> Prop) (bT aG : Int32) (qG m_x gR qR nG oO pJ : Nat -> Int32) : Nat -> Int32 -> Int32 -> Int32 -> Int32 -> Int32 -> Int32 -> Int32 -> Int32 -> (Nat -> Int32) -> (Nat -> Int32) -> Prop := fun n => Nat.rec (motive := fun _ => Int32 -> Int32 -> Int32 -> Int32 -> Int32 -> Int32 -> Int32 -> Int32 -> (Nat -> Int32) -> (Nat -> Int32) -> Prop) (fun _ _ _ _ _ _ _ _ _ _ => False) (fun _ ih => ws_X10_needed_29 post K15 ih bT aG qG m_x gR qR nG oO pJ) n
set_option maxHeartbeats 4000000 in
set_option maxRecDepth 100000 in
theorem ks_X10_needed_29 (C0 : gc aCq (some .int) 6 zX (dC, dI) (tyl cI cC cZ cB cJ) A p s m args meth c) {K15 : Int32 -> Int32 -> Int32 -> Int32 -> Int32 -> Int32 -> (Nat -> Int32) -> (Nat -> Int32) -> Prop} {next : Int32 -> Int32 -> Int32 -> Int32 -> Int32 -> Int32 -> Int32 -> Int32 -> (Nat -> Int32) -> (Nat -> Int32) -> Prop} (hK15 : ∀ (x1 : Int32) (x2 : Int32) (x3 : Int32) (bL : Int32) (bY : Int32) (dO : Int32) (sW : Nat -> Int32) (sH : Nat -> Int32) (H : Heap) (locs : List Loc) (ls : Array Slot), K15 x1 x2 x3 bL bY dO sW sH -> va_P (dC, dI) classes (aEl cI cC cZ cB cJ a_m nY sJ eG iY lY jR jW jZ jO oQ bR aY jQ gY iJ mQ lJ jA bG mK jB mW mJ eJ dG bT aG jC bL bY jD mLn oF rP dQ aJ aB bW bZ aR aE bI aW bU fJ dO bM bQ bO jY oX qG m_x gR qR nG oO pJ sW sH) H -> va_D A (aEl cI cC cZ cB cJ a_m nY sJ eG iY lY jR jW jZ jO oQ bR aY jQ gY iJ mQ lJ jA bG mK jB mW mJ eJ dG bT aG jC bL bY jD mLn oF rP dQ aJ aB bW bZ aR aE bI aW bU fJ dO bM bQ bO jY oX qG m_x gR qR nG oO pJ sW sH) -> va_S A s.heap H locs -> lv_has ls 6 [(0, .ref a_m), (1, .int x1), (2, .int x2), (3, .int x3)] -> W p l e aX6 s m args below meth c H locs 0 0 (MQ below (aYd dC dI cI cC cZ cB cJ A a_m nY sJ eG iY lY jR jW jZ jO oQ bR aY jQ gY iJ mQ lJ jA bG mK jB mW mJ eJ dG bT aG jC jD mLn oF rP dQ aJ aB bW bZ aR aE bI aW bU fJ bM bQ bO jY oX qG m_x gR qR nG oO pJ post) args s 0 0 A) (F0 m 15 ls [])) (hKn : ∀ (x1 : Int32) (x2 : Int32) (x3 : Int32) (x4 : Int32) (x5 : Int32) (bL : Int32) (bY : Int32) (dO : Int32) (sW : Nat -> Int32) (sH : Nat -> Int32) (H : Heap) (locs : List Loc) (ls : Array Slot), next x1 x2 x3 x4 x5 bL bY dO sW sH -> va_P (dC, dI) classes (aEl cI cC cZ cB cJ a_m nY sJ eG iY lY jR jW jZ jO oQ bR aY jQ gY iJ mQ lJ jA bG mK jB mW mJ eJ dG bT aG jC bL bY jD mLn oF rP dQ aJ aB bW bZ aR aE bI aW bU fJ dO bM bQ bO jY oX qG m_x gR qR nG oO pJ sW sH) H -> va_D A (aEl cI cC cZ cB cJ a_m nY sJ eG iY lY jR jW jZ jO oQ bR aY jQ gY iJ mQ lJ jA bG mK jB mW mJ eJ dG bT aG jC bL bY jD mLn oF rP dQ aJ aB bW bZ aR aE bI aW bU fJ dO bM bQ bO jY oX qG m_x gR qR nG oO pJ sW sH) -> va_S A s.heap H locs -> lv_has ls 6 [(0, .ref a_m), (1, .int x1), (2, .int x2), (3, .int x3), (4, .int x4), (5, .int x5)] -> W p l e aX6 s m args below meth c H locs 0 0 (MQ below (aYd dC dI cI cC cZ cB cJ A a_m nY sJ eG iY lY jR jW jZ jO oQ bR aY jQ gY iJ mQ lJ jA bG mK jB mW mJ eJ dG bT aG jC jD mLn oF rP dQ aJ aB bW bZ aR aE bI aW bU fJ bM bQ bO jY oX qG m_x gR qR nG oO pJ post) args s 0 0 A) (F0 m 29 ls [])) : ∀ (x1 x2 x3 x4 x5 bL bY dO : Int32) (sW sH : Nat -> Int32) (H : Heap) (locs : List Loc) (ls : Array Slot), (ws_X10_needed_29 post K15 next bT aG qG m_x gR qR nG oO pJ) x1 x2 x3 x4 x5 bL bY dO sW sH -> va_P (dC, dI) classes (aEl cI cC cZ cB cJ a_m nY sJ eG iY lY jR jW jZ jO oQ bR aY jQ gY iJ mQ lJ jA bG mK jB mW mJ eJ dG bT aG jC bL bY jD mLn oF rP dQ aJ aB bW bZ aR aE bI aW bU fJ dO bM bQ bO jY oX qG m_x gR qR nG oO pJ sW sH) H -> va_D A (aEl cI cC cZ cB cJ a_m nY sJ eG iY lY jR jW jZ jO oQ bR aY jQ gY iJ mQ lJ jA bG mK jB mW mJ eJ dG bT aG jC bL bY jD mLn oF rP dQ aJ aB bW bZ aR aE bI aW bU fJ dO bM bQ bO jY oX qG m_x gR qR nG oO pJ sW sH) -> va_S A s.heap H locs -> lv_has ls 6 [(0, .ref a_m), (1, .int x1), (2, .int x2), (3, .int x3), (4, .int x4), (5, .int x5)] -> W p l e aX6 s m args below meth c H locs 0 0 (MQ below (aYd dC dI cI cC cZ cB cJ A a_m nY sJ eG iY lY jR jW jZ jO oQ bR aY jQ gY iJ mQ lJ jA bG mK jB mW mJ eJ dG bT aG jC jD mLn oF rP dQ aJ aB bW bZ aR aE bI aW bU fJ bM bQ bO jY oX qG m_x gR qR nG oO pJ post) args s 0 0 A) (F0 m 29 ls []) := by
  obtain ⟨hx, hb, hr, hml, hown, hts, hlocks, hA, hK, hN, tL, tM, hZL, hTL, hZM, hTM, hZX⟩ := id C0
  intro x1 x2 x3 x4 x5 bL bY dO sW sH H locs ls hp hP hD hS hl
  unfold ws_X10_needed_29 at hp
  refine lv_iload hx hb aQL.2.2.2.1 (lv_at hl 5 rfl) ?_
  refine lv_aload_n hx hb aQL.2.2.2.2.1 rfl (lv_at hl 0 rfl) ?_
  refine va_get (D := (dC, dI)) (ci := 10) (v := .int aG) (C := zX) (T := aBe) (N := 51) hx hb hts aAt hown hK hP 0 rfl rfl 6 (lbz rfl) (hts _ q_666) (fun _ h9 => h9) rfl aQL.2.2.2.2.2.1 ?_
  refine lv_icmp_ge (tgt := 71) hx hb aQL.2.2.2.2.2.2.1 (by decide) (fun hc => ?_) (fun hc => ?_)
  · have hp := hp.1 hc
    refine lv_aload_n hx hb aQM.2.2.2.2.2.2.2.2.1 rfl (lv_at hl 0 rfl) ?_
    refine va_get (D := (dC, dI)) (ci := 10) (v := .int dO) (C := zX) (T := aBe) (N := 51) hx hb hts aAt hown hK hP 0 rfl rfl 37 (lbz rfl) (hts _ q_878) (fun _ h9 => h9) rfl aQM.2.2.2.2.2.2.2.2.2.1 ?_
    refine lv_iload_n hx hb aQM.2.2.2.2.2.2.2.2.2.2.1 rfl (lv_at hl 3 rfl) ?_
    have hm := mgk (wc := (aLW cI cC cZ cB cJ)) hP aGk 10 rfl rfl rfl
    refine yW hP hD hS hA (yS aGk) (aAi aGk) hm.1 hm.2 (aAk _) (zW _) (aDn (As := [.int dO, .int x3]) (rest := []) C0 hP hD hS (yS aGk) hm.1 (aAl _) (aUP l dC dI cI cC cZ cB cJ H.size dO x3 _ hp) q_734 q_736 q_735 aBL aUT rfl rfl ⟨lbz rfl, lbz rfl⟩ rfl rfl hl.1 rfl (lv_room (lbz rfl)) aQM.2.2.2.2.2.2.2.2.2.2.2.1 ⟨Nat.zero_le _, Nat.zero_le _⟩) (fun r_5 u H locs hp hP hD hS => ?_)
    have hPD := PDm (ws' := (aEl cI cC cZ cB cJ a_m nY sJ eG iY lY jR jW jZ jO oQ bR aY jQ gY iJ mQ lJ jA bG mK jB mW mJ eJ dG bT aG jC bL bY jD mLn oF rP dQ aJ aB bW bZ aR aE bI aW bU fJ dO bM bQ bO jY oX qG m_x gR qR nG oO pJ sW sH)) hP hD 10 rfl rfl rfl
    have hP := hPD.1
    have hD := hPD.2
    refine lv_if_eq (tgt := 105) hx hb aQM.2.2.2.2.2.2.2.2.2.2.2.2.1 (by decide) (fun hc => ?_) (fun hc => ?_)
    · have hp := hp.1 hc
      exact ks_X10_needed_105 C0 hK15 x1 x2 x3 bL bY dO sW sH H locs ls hp hP hD hS (lv_sub hl [0, 1, 2, 3] rfl)
    · have hp := hp.2 hc
      refine lv_iload hx hb aQM.2.2.2.2.2.2.2.2.2.2.2.2.2.1 (lv_at hl 4 rfl) ?_
      have hm := mgk (wc := (aBh cI cC cZ cB cJ)) hP aGk 10 rfl rfl rfl
      refine yW hP hD hS hA (yS aGk) (aAi aGk) hm.1 hm.2 (aAk _) (zW _) (aDn (As := [.int x4]) (rest := []) C0 hP hD hS (yS aGk) hm.1 (aAl _) (aBv l dC dI cI cC cZ cB cJ H.size x4 _ hp) q_320 q_803 q_322 q_321 aBw rfl rfl ⟨lbz rfl, lbz rfl⟩ rfl rfl hl.1 rfl (lv_room (lbz rfl)) aQM.2.2.2.2.2.2.2.2.2.2.2.2.2.2.1 ⟨Nat.zero_le _, Nat.zero_le _⟩) (fun r_7 u H locs hp hP hD hS => ?_)
      have hPD := PDm (ws' := (aEl cI cC cZ cB cJ a_m nY sJ eG iY lY jR jW jZ jO oQ bR aY jQ gY iJ mQ lJ jA bG mK jB mW mJ eJ dG bT aG jC bL bY jD mLn oF rP dQ aJ aB bW bZ aR aE bI aW bU fJ dO bM bQ bO jY oX qG m_x gR qR nG oO pJ sW sH)) hP hD 10 rfl rfl rfl
      have hP := hPD.1
      have hD := hPD.2
      refine lv_iconst (v := 1) hx hb aQM.2.2.2.2.2.2.2.2.2.2.2.2.2.2.2 aDx ?_
      refine lv_icmp_eq (tgt := 94) hx hb aQN.1 (by decide) (fun hc => ?_) (fun hc => ?_)
      · have hp := hp.1 hc
        refine lv_iload_n hx hb aQN.2.2.1 rfl (lv_at hl 1 rfl) ?_
        refine lv_iload hx hb aQN.2.2.2.1 (lv_at hl 4 rfl) ?_
        refine lv_ior hx hb aQN.2.2.2.2.1 ?_
        refine lv_topi (fun v_8 ev_8 => ?_)
        have hp := hp v_8 ev_8
        refine lv_istore_n (lv' := [(1, .int v_8), (0, .ref a_m), (2, .int x2), (3, .int x3), (4, .int x4), (5, .int x5)]) hx hb aQN.2.2.2.2.2.1 rfl hl (by decide) rfl (fun ls hl => ?_)
        refine lv_iload_n hx hb aQN.2.2.2.2.2.2.1 rfl (lv_at hl 2 rfl) ?_
        refine lv_iconst (v := 1) hx hb aQN.2.2.2.2.2.2.2.1 aDx ?_
        refine lv_iload_n hx hb aQN.2.2.2.2.2.2.2.2.1 rfl (lv_at hl 3 rfl) ?_
        refine lv_ishl hx hb aQN.2.2.2.2.2.2.2.2.2.1 ?_
        refine lv_ior hx hb aQN.2.2.2.2.2.2.2.2.2.2.1 ?_
        refine lv_topi (fun v_9 ev_9 => ?_)
        have hp := hp v_9 ev_9
        refine lv_istore_n (lv' := [(2, .int v_9), (1, .int v_8), (0, .ref a_m), (3, .int x3), (4, .int x4), (5, .int x5)]) hx hb aQN.2.2.2.2.2.2.2.2.2.2.2.1 rfl hl (by decide) rfl (fun ls hl => ?_)
        exact ks_X10_needed_105 C0 hK15 v_8 v_9 x3 bL bY dO sW sH H locs ls hp hP hD hS (lv_sub hl [2, 1, 0, 3] rfl)
      · have hp := hp.2 hc
        refine lv_goto (tgt := 105) hx hb aQN.2.1 (by decide) ?_
        exact ks_X10_needed_105 C0 hK15 x1 x2 x3 bL bY dO sW sH H locs ls hp hP hD hS (lv_sub hl [0, 1, 2, 3] rfl)
  · have hp := hp.2 hc
    refine lv_iload hx hb aQL.2.2.2.2.2.2.2.1 (lv_at hl 4 rfl) ?_
    refine lv_aload_n hx hb aQL.2.2.2.2.2.2.2.2.1 rfl (lv_at hl 0 rfl) ?_
    refine va_get (D := (dC, dI)) (ci := 10) (v := .ref lJ) (C := zX) (T := aBe) (N := 51) hx hb hts aAt hown hK hP 0 rfl rfl 36 (lbz rfl) (hts _ q_869) (fun _ h9 => h9) rfl aQL.2.2.2.2.2.2.2.2.2.1 ?_
    refine lv_iload hx hb aQL.2.2.2.2.2.2.2.2.2.2.1 (lv_at hl 5 rfl) ?_
    have hin := hp.1
    have hp := hp.2
    refine va_iald hx hb hK hP 9 0 rfl rfl hin aQL.2.2.2.2.2.2.2.2.2.2.2.1 ?_
    refine lv_topi (fun aEr aNB => ?_)
    have hp := hp aEr aNB
    refine lv_iload_n hx hb aQL.2.2.2.2.2.2.2.2.2.2.2.2.1 rfl (lv_at hl 3 rfl) ?_
    have hm := mgk (wc := (aLW cI cC cZ cB cJ)) hP aGk 10 rfl rfl rfl
    refine yW hP hD hS hA (yS aGk) (aAi aGk) hm.1 hm.2 (aAk _) (zW _) (aDn (As := [.int aEr, .int x3]) (rest := [.int x4]) C0 hP hD hS (yS aGk) hm.1 (aAl _) (aUP l dC dI cI cC cZ cB cJ H.size aEr x3 _ hp) q_734 q_736 q_735 aBL aUT rfl rfl ⟨lbz rfl, lbz rfl⟩ rfl rfl hl.1 rfl (lv_room (lbz rfl)) aQL.2.2.2.2.2.2.2.2.2.2.2.2.2.1 ⟨Nat.zero_le _, Nat.zero_le _⟩) (fun r_11 u H locs hp hP hD hS => ?_)
    have hPD := PDm (ws' := (aEl cI cC cZ cB cJ a_m nY sJ eG iY lY jR jW jZ jO oQ bR aY jQ gY iJ mQ lJ jA bG mK jB mW mJ eJ dG bT aG jC bL bY jD mLn oF rP dQ aJ aB bW bZ aR aE bI aW bU fJ dO bM bQ bO jY oX qG m_x gR qR nG oO pJ sW sH)) hP hD 10 rfl rfl rfl
    have hP := hPD.1
    have hD := hPD.2
    refine lv_if_eq (tgt := 61) hx hb aQL.2.2.2.2.2.2.2.2.2.2.2.2.2.2.1 (by decide) (fun hc => ?_) (fun hc => ?_)
    · have hp := hp.1 hc
      refine lv_iconst (v := 0) hx hb aQM.2.2.2.1 aCi ?_
      exact ks_X10_needed_62 C0 hK15 hKn x1 x2 x3 x5 x4 0 bL bY dO sW sH H locs ls hp hP hD hS (lv_sub hl [0, 1, 2, 3, 5] rfl)
    · have hp := hp.2 hc
      refine lv_iconst (v := 1) hx hb aQL.2.2.2.2.2.2.2.2.2.2.2.2.2.2.2 aDx ?_
      refine lv_iload hx hb aQM.1 (lv_at hl 5 rfl) ?_
      refine lv_ishl hx hb aQM.2.1 ?_
      refine lv_topi (fun aGC ev_14 => ?_)
      have hp := hp aGC ev_14
      refine lv_goto (tgt := 62) hx hb aQM.2.2.1 (by decide) ?_
      exact ks_X10_needed_62 C0 hK15 hKn x1 x2 x3 x5 x4 aGC bL bY dO sW sH H locs ls hp hP hD hS (lv_sub hl [0, 1, 2, 3, 5] rfl)
set_option maxHeartbeats 4000000 in
set_option maxRecDepth 100000 in
theorem kb_X10_needed_29 (C0 : gc aCq (some .int) 6 zX (dC, dI) (tyl cI cC cZ cB cJ) A p s m args meth c) {K15 : Int32 -> Int32 -> Int32 -> Int32 -> Int32 -> Int32 -> (Nat -> Int32) -> (Nat -> Int32) -> Prop} (hK15 : ∀ (x1 : Int32) (x2 : Int32) (x3 : Int32) (bL : Int32) (bY : Int32) (dO : Int32) (sW : Nat -> Int32) (sH : Nat -> Int32) (H : Heap) (locs : List Loc) (ls : Array Slot), K15 x1 x2 x3 bL bY dO sW sH -> va_P (dC, dI) classes (aEl cI cC cZ cB cJ a_m nY sJ eG iY lY jR jW jZ jO oQ bR aY jQ gY iJ mQ lJ jA bG mK jB mW mJ eJ dG bT aG jC bL bY jD mLn oF rP dQ aJ aB bW bZ aR aE bI aW bU fJ dO bM bQ bO jY oX qG m_x gR qR nG oO pJ sW sH) H -> va_D A (aEl cI cC cZ cB cJ a_m nY sJ eG iY lY jR jW jZ jO oQ bR aY jQ gY iJ mQ lJ jA bG mK jB mW mJ eJ dG bT aG jC bL bY jD mLn oF rP dQ aJ aB bW bZ aR aE bI aW bU fJ dO bM bQ bO jY oX qG m_x gR qR nG oO pJ sW sH) -> va_S A s.heap H locs -> lv_has ls 6 [(0, .ref a_m), (1, .int x1), (2, .int x2), (3, .int x3)] -> W p l e aX6 s m args below meth c H locs 0 0 (MQ below (aYd dC dI cI cC cZ cB cJ A a_m nY sJ eG iY lY jR jW jZ jO oQ bR aY jQ gY iJ mQ lJ jA bG mK jB mW mJ eJ dG bT aG jC jD mLn oF rP dQ aJ aB bW bZ aR aE bI aW bU fJ bM bQ bO jY oX qG m_x gR qR nG oO pJ post) args s 0 0 A) (F0 m 15 ls [])) : ∀ (n : Nat), ∀ (x1 x2 x3 x4 x5 bL bY dO : Int32) (sW sH : Nat -> Int32) (H : Heap) (locs : List Loc) (ls : Array Slot), (wb_X10_needed_29 post K15 bT aG qG m_x gR qR nG oO pJ n) x1 x2 x3 x4 x5 bL bY dO sW sH -> va_P (dC, dI) classes (aEl cI cC cZ cB cJ a_m nY sJ eG iY lY jR jW jZ jO oQ bR aY jQ gY iJ mQ lJ jA bG mK jB mW mJ eJ dG bT aG jC bL bY jD mLn oF rP dQ aJ aB bW bZ aR aE bI aW bU fJ dO bM bQ bO jY oX qG m_x gR qR nG oO pJ sW sH) H -> va_D A (aEl cI cC cZ cB cJ a_m nY sJ eG iY lY jR jW jZ jO oQ bR aY jQ gY iJ mQ lJ jA bG mK jB mW mJ eJ dG bT aG jC bL bY jD mLn oF rP dQ aJ aB bW bZ aR aE bI aW bU fJ dO bM bQ bO jY oX qG m_x gR qR nG oO pJ sW sH) -> va_S A s.heap H locs -> lv_has ls 6 [(0, .ref a_m), (1, .int x1), (2, .int x2), (3, .int x3), (4, .int x4), (5, .int x5)] -> W p l e aX6 s m args below meth c H locs 0 0 (MQ below (aYd dC dI cI cC cZ cB cJ A a_m nY sJ eG iY lY jR jW jZ jO oQ bR aY jQ gY iJ mQ lJ jA bG mK jB mW mJ eJ dG bT aG jC jD mLn oF rP dQ aJ aB bW bZ aR aE bI aW bU fJ bM bQ bO jY oX qG m_x gR qR nG oO pJ post) args s 0 0 A) (F0 m 29 ls []) := by
  intro n
  induction n with
  | zero =>
    intro x1 x2 x3 x4 x5 bL bY dO sW sH H locs ls hp
    exact False.elim hp
  | succ n ih =>
    intro x1 x2 x3 x4 x5 bL bY dO sW sH H locs ls hp
    exact ks_X10_needed_29 C0 hK15 ih x1 x2 x3 x4 x5 bL bY dO sW sH H locs ls hp
def ws_X10_needed_15 (post : Int32 -> Int32 -> Int32 -> Int32 -> (Nat -> Int32) -> (Nat -> Int32) -> Prop) (next : Int32 -> Int32 -> Int32 -> Int32 -> Int32 -> Int32 -> (Nat -> Int32) -> (Nat -> Int32) -> Prop) (bT aG : Int32) (qG m_x gR qR nG oO pJ : Nat -> Int32) (x1 x2 x3 bL bY dO : Int32) (sW sH : Nat -> Int32) : Prop := (bT <= x3 -> aDs (fun aPZ m_row_4 => post x1 aPZ bY dO m_row_4 sH) x2 0 sW) /\ (¬ bT <= x3 -> ∃ n : Nat, wb_X10_needed_29 post next bT aG qG m_x gR qR nG oO pJ n x1 x2 x3 0 0 bL bY dO sW sH)
noncomputable def wb_X10_needed_15 (post : Int32 -> Int32 -> Int32 -> Int32 -> (Nat -> Int32) -> (Nat -> Int32) -> Prop) (bT aG : Int32) (qG m_x gR qR nG oO pJ : Nat -> Int32) : Nat -> Int32 -> Int32 -> Int32 -> Int32 -> Int32 -> Int32 -> (Nat -> Int32) -> (Nat -> Int32) -> Prop := fun n => Nat.rec (motive := fun _ => Int32 -> Int32 -> Int32 -> Int32 -> Int32 -> Int32 -> (Nat -> Int32) -> (Nat -> Int32) -> Prop) (fun _ _ _ _ _ _ _ _ => False) (fun _ ih => ws_X10_needed_15 post ih bT aG qG m_x gR qR nG oO pJ) n
set_option maxHeartbeats 4000000 in
set_option maxRecDepth 100000 in
theorem ks_X10_needed_15 (C0 : gc aCq (some .int) 6 zX (dC, dI) (tyl cI cC cZ cB cJ) A p s m args meth c) {next : Int32 -> Int32 -> Int32 -> Int32 -> Int32 -> Int32 -> (Nat -> Int32) -> (Nat -> Int32) -> Prop} (hKn : ∀ (x1 : Int32) (x2 : Int32) (x3 : Int32) (bL : Int32) (bY : Int32) (dO : Int32) (sW : Nat -> Int32) (sH : Nat -> Int32) (H : Heap) (locs : List Loc) (ls : Array Slot), next x1 x2 x3 bL bY dO sW sH -> va_P (dC, dI) classes (aEl cI cC cZ cB cJ a_m nY sJ eG iY lY jR jW jZ jO oQ bR aY jQ gY iJ mQ lJ jA bG mK jB mW mJ eJ dG bT aG jC bL bY jD mLn oF rP dQ aJ aB bW bZ aR aE bI aW bU fJ dO bM bQ bO jY oX qG m_x gR qR nG oO pJ sW sH) H -> va_D A (aEl cI cC cZ cB cJ a_m nY sJ eG iY lY jR jW jZ jO oQ bR aY jQ gY iJ mQ lJ jA bG mK jB mW mJ eJ dG bT aG jC bL bY jD mLn oF rP dQ aJ aB bW bZ aR aE bI aW bU fJ dO bM bQ bO jY oX qG m_x gR qR nG oO pJ sW sH) -> va_S A s.heap H locs -> lv_has ls 6 [(0, .ref a_m), (1, .int x1), (2, .int x2), (3, .int x3)] -> W p l e aX6 s m args below meth c H locs 0 0 (MQ below (aYd dC dI cI cC cZ cB cJ A a_m nY sJ eG iY lY jR jW jZ jO oQ bR aY jQ gY iJ mQ lJ jA bG mK jB mW mJ eJ dG bT aG jC jD mLn oF rP dQ aJ aB bW bZ aR aE bI aW bU fJ bM bQ bO jY oX qG m_x gR qR nG oO pJ post) args s 0 0 A) (F0 m 15 ls [])) : ∀ (x1 x2 x3 bL bY dO : Int32) (sW sH : Nat -> Int32) (H : Heap) (locs : List Loc) (ls : Array Slot), (ws_X10_needed_15 post next bT aG qG m_x gR qR nG oO pJ) x1 x2 x3 bL bY dO sW sH -> va_P (dC, dI) classes (aEl cI cC cZ cB cJ a_m nY sJ eG iY lY jR jW jZ jO oQ bR aY jQ gY iJ mQ lJ jA bG mK jB mW mJ eJ dG bT aG jC bL bY jD mLn oF rP dQ aJ aB bW bZ aR aE bI aW bU fJ dO bM bQ bO jY oX qG m_x gR qR nG oO pJ sW sH) H -> va_D A (aEl cI cC cZ cB cJ a_m nY sJ eG iY lY jR jW jZ jO oQ bR aY jQ gY iJ mQ lJ jA bG mK jB mW mJ eJ dG bT aG jC bL bY jD mLn oF rP dQ aJ aB bW bZ aR aE bI aW bU fJ dO bM bQ bO jY oX qG m_x gR qR nG oO pJ sW sH) -> va_S A s.heap H locs -> lv_has ls 6 [(0, .ref a_m), (1, .int x1), (2, .int x2), (3, .int x3)] -> W p l e aX6 s m args below meth c H locs 0 0 (MQ below (aYd dC dI cI cC cZ cB cJ A a_m nY sJ eG iY lY jR jW jZ jO oQ bR aY jQ gY iJ mQ lJ jA bG mK jB mW mJ eJ dG bT aG jC jD mLn oF rP dQ aJ aB bW bZ aR aE bI aW bU fJ bM bQ bO jY oX qG m_x gR qR nG oO pJ post) args s 0 0 A) (F0 m 15 ls []) := by
  obtain ⟨hx, hb, hr, hml, hown, hts, hlocks, hA, hK, hN, tL, tM, hZL, hTL, hZM, hTM, hZX⟩ := id C0
  intro x1 x2 x3 bL bY dO sW sH H locs ls hp hP hD hS hl
  unfold ws_X10_needed_15 at hp
  refine lv_iload_n hx hb aS8.2.2.2.2.2.2.2.2.2.2.2.1 rfl (lv_at hl 3 rfl) ?_
  refine lv_aload_n hx hb aS8.2.2.2.2.2.2.2.2.2.2.2.2.1 rfl (lv_at hl 0 rfl) ?_
  refine va_get (D := (dC, dI)) (ci := 10) (v := .int bT) (C := zX) (T := aBe) (N := 51) hx hb hts aAt hown hK hP 0 rfl rfl 1 (lbz rfl) (hts _ q_677) (fun _ h9 => h9) rfl aS8.2.2.2.2.2.2.2.2.2.2.2.2.2.1 ?_
  refine lv_icmp_ge (tgt := 111) hx hb aS8.2.2.2.2.2.2.2.2.2.2.2.2.2.2.1 (by decide) (fun hc => ?_) (fun hc => ?_)
  · have hp := hp.1 hc
    refine lv_aload_n hx hb aQN.2.2.2.2.2.2.2.2.2.2.2.2.2.2.1 rfl (lv_at hl 0 rfl) ?_
    refine lv_iconst (v := 0) hx hb aQN.2.2.2.2.2.2.2.2.2.2.2.2.2.2.2 aCi ?_
    refine va_put (D := (dC, dI)) (ci := 10) (v := .int 0) (ty := .int) (C := zX) (T := aBe) (N := 51) hx hb hts aAt aD2 aAa aEC hown hK hP hD hS 0 rfl rfl 13 (lbz rfl) (hts _ q_847) (fun _ h9 => h9) rfl (aAa 13 (lbz rfl)) rfl rfl (lbz rfl) eX10_needed_113.1 (fun H locs hP hD hS => ?_)
    have hPD := PDw (ws' := (aEl cI cC cZ cB cJ a_m nY sJ eG iY lY jR jW jZ jO oQ bR aY jQ gY iJ mQ lJ jA bG mK jB mW mJ eJ dG bT aG jC 0 bY jD mLn oF rP dQ aJ aB bW bZ aR aE bI aW bU fJ dO bM bQ bO jY oX qG m_x gR qR nG oO pJ sW sH)) hP hD rfl
    have hP := hPD.1
    have hD := hPD.2
    refine lv_aload_n hx hb eX10_needed_113.2.1 rfl (lv_at hl 0 rfl) ?_
    refine lv_iload_n hx hb eX10_needed_113.2.2.1 rfl (lv_at hl 2 rfl) ?_
    have hm := mgk (wc := (aD0 cI cC cZ cB cJ a_m nY sJ eG iY lY jR jW jZ jO oQ bR aY jQ gY iJ mQ lJ jA bG mK jB mW mJ eJ dG bT aG jC 0 bY jD mLn oF rP dQ aJ aB bW bZ aR aE bI aW bU fJ dO bM bQ bO jY oX sW)) hP aOv 10 rfl rfl rfl
    refine aBn hP hD hS hA (yS aOv) (aAi aOv) hm.1 hm.2 (aAk _) (zW _) (zF (As := [.int x2]) (rest := []) C0 hP hD hS (yS aOv) hm.1 (aAl _) 0 10 rfl rfl (aGE l dC dI cI cC cZ cB cJ a_m nY sJ eG iY lY jR jW jZ jO oQ bR aY jQ gY iJ mQ lJ jA bG mK jB mW mJ eJ dG H.size x2 bT aG jC 0 bY jD mLn oF rP dQ aJ aB bW bZ aR aE bI aW bU fJ dO bM bQ bO jY oX sW _ hp) q_849 q_852 q_850 q_851 aBL aGF rfl rfl ⟨lbz rfl, lbz rfl⟩ rfl rfl hl.1 rfl (lv_room (lbz rfl)) eX10_needed_113.2.2.2.1 ⟨Nat.zero_le _, Nat.zero_le _⟩) (fun u H locs hp hP hD hS => ?_)
    obtain ⟨aPZ, m_row_4⟩ := u
    have hPD := PDm (ws' := (aEl cI cC cZ cB cJ a_m nY sJ eG iY lY jR jW jZ jO oQ bR aY jQ gY iJ mQ lJ jA bG mK jB mW mJ eJ dG bT aG jC aPZ bY jD mLn oF rP dQ aJ aB bW bZ aR aE bI aW bU fJ dO bM bQ bO jY oX qG m_x gR qR nG oO pJ m_row_4 sH)) hP hD 10 rfl rfl rfl
    have hP := hPD.1
    have hD := hPD.2
    refine lv_iload_n hx hb eX10_needed_113.2.2.2.2.1 rfl (lv_at hl 1 rfl) ?_
    exact W.iret (v := x1) hx hb hr (fun t ht hW => ⟨⟨x1, (aPZ, bY, dO, m_row_4, sH), rfl, hp, by rw [ht]; exact hP, va_K.moved hW.alike hK, hD⟩, hS.F ht⟩) hS.2.2 eX10_needed_113.2.2.2.2.2
  · have hp := hp.2 hc
    refine lv_iconst (v := 0) hx hb aS8.2.2.2.2.2.2.2.2.2.2.2.2.2.2.2 aCi ?_
    refine lv_istore (lv' := [(4, .int 0), (0, .ref a_m), (1, .int x1), (2, .int x2), (3, .int x3)]) hx hb aQL.1 hl (by decide) rfl (fun ls hl => ?_)
    refine lv_iconst (v := 0) hx hb aQL.2.1 aCi ?_
    refine lv_istore (lv' := [(5, .int 0), (4, .int 0), (0, .ref a_m), (1, .int x1), (2, .int x2), (3, .int x3)]) hx hb aQL.2.2.1 hl (by decide) rfl (fun ls hl => ?_)
    obtain ⟨n9, hp⟩ := hp
    exact kb_X10_needed_29 C0 hKn n9 x1 x2 x3 0 0 bL bY dO sW sH H locs ls hp hP hD hS (lv_sub hl [2, 3, 4, 5, 1, 0] rfl)
set_option maxHeartbeats 4000000 in
set_option maxRecDepth 100000 in
theorem kb_X10_needed_15 (C0 : gc aCq (some .int) 6 zX (dC, dI) (tyl cI cC cZ cB cJ) A p s m args meth c) : ∀ (n : Nat), ∀ (x1 x2 x3 bL bY dO : Int32) (sW sH : Nat -> Int32) (H : Heap) (locs : List Loc) (ls : Array Slot), (wb_X10_needed_15 post bT aG qG m_x gR qR nG oO pJ n) x1 x2 x3 bL bY dO sW sH -> va_P (dC, dI) classes (aEl cI cC cZ cB cJ a_m nY sJ eG iY lY jR jW jZ jO oQ bR aY jQ gY iJ mQ lJ jA bG mK jB mW mJ eJ dG bT aG jC bL bY jD mLn oF rP dQ aJ aB bW bZ aR aE bI aW bU fJ dO bM bQ bO jY oX qG m_x gR qR nG oO pJ sW sH) H -> va_D A (aEl cI cC cZ cB cJ a_m nY sJ eG iY lY jR jW jZ jO oQ bR aY jQ gY iJ mQ lJ jA bG mK jB mW mJ eJ dG bT aG jC bL bY jD mLn oF rP dQ aJ aB bW bZ aR aE bI aW bU fJ dO bM bQ bO jY oX qG m_x gR qR nG oO pJ sW sH) -> va_S A s.heap H locs -> lv_has ls 6 [(0, .ref a_m), (1, .int x1), (2, .int x2), (3, .int x3)] -> W p l e aX6 s m args below meth c H locs 0 0 (MQ below (aYd dC dI cI cC cZ cB cJ A a_m nY sJ eG iY lY jR jW jZ jO oQ bR aY jQ gY iJ mQ lJ jA bG mK jB mW mJ eJ dG bT aG jC jD mLn oF rP dQ aJ aB bW bZ aR aE bI aW bU fJ bM bQ bO jY oX qG m_x gR qR nG oO pJ post) args s 0 0 A) (F0 m 15 ls []) := by
  intro n
  induction n with
  | zero =>
    intro x1 x2 x3 bL bY dO sW sH H locs ls hp
    exact False.elim hp
  | succ n ih =>
    intro x1 x2 x3 bL bY dO sW sH H locs ls hp
    exact ks_X10_needed_15 C0 ih x1 x2 x3 bL bY dO sW sH H locs ls hp
end S_X10_needed
def wp_X10_needed (post : Int32 -> Int32 -> Int32 -> Int32 -> (Nat -> Int32) -> (Nat -> Int32) -> Prop) (bT aG bL bY dO : Int32) (qG m_x gR qR nG oO pJ sW sH : Nat -> Int32) : Prop := aJm (fun aDN aII => ∃ n : Nat, wb_X10_needed_15 post bT aG qG m_x gR qR nG oO pJ n 0 0 0 bL 0 aDN sW aII) bT aG dO qG m_x gR qR nG oO pJ sH
set_option maxHeartbeats 4000000 in
set_option maxRecDepth 100000 in
theorem c_X10_needed (l : Launch) (dC : Nat -> ClassId) (dI : Nat -> Nat -> Nat) (cI cC cZ cB cJ : ClassId) (a_m nY sJ eG iY lY jR jW jZ jO oQ bR aY jQ gY iJ mQ lJ jA bG mK jB mW mJ eJ dG sz : Nat) (bT aG jC bL bY : Int32) (jD : Nat) (mLn oF rP dQ aJ aB bW bZ aR aE bI aW bU fJ dO bM bQ bO jY oX : Int32) (qG m_x gR qR nG oO pJ sW sH : Nat -> Int32) (post : Int32 -> Int32 -> Int32 -> Int32 -> (Nat -> Int32) -> (Nat -> Int32) -> Prop) (hw : wp_X10_needed post bT aG bL bY dO qG m_x gR qR nG oO pJ sW sH) : Met l yX10_needed (gw yX10_needed aCq 6 (some .int)) aX6 (va_Pc [.ref a_m] (gPre (dC, dI) (tyl cI cC cZ cB cJ) (aEl cI cC cZ cB cJ a_m nY sJ eG iY lY jR jW jZ jO oQ bR aY jQ gY iJ mQ lJ jA bG mK jB mW mJ eJ dG bT aG jC bL bY jD mLn oF rP dQ aJ aB bW bZ aR aE bI aW bU fJ dO bM bQ bO jY oX qG m_x gR qR nG oO pJ sW sH) sz)) (aYd dC dI cI cC cZ cB cJ (va_A (aEl cI cC cZ cB cJ a_m nY sJ eG iY lY jR jW jZ jO oQ bR aY jQ gY iJ mQ lJ jA bG mK jB mW mJ eJ dG bT aG jC bL bY jD mLn oF rP dQ aJ aB bW bZ aR aE bI aW bU fJ dO bM bQ bO jY oX qG m_x gR qR nG oO pJ sW sH) sz) a_m nY sJ eG iY lY jR jW jZ jO oQ bR aY jQ gY iJ mQ lJ jA bG mK jB mW mJ eJ dG bT aG jC jD mLn oF rP dQ aJ aB bW bZ aR aE bI aW bU fJ bM bQ bO jY oX qG m_x gR qR nG oO pJ post) 0 0 (va_A (aEl cI cC cZ cB cJ a_m nY sJ eG iY lY jR jW jZ jO oQ bR aY jQ gY iJ mQ lJ jA bG mK jB mW mJ eJ dG bT aG jC bL bY jD mLn oF rP dQ aJ aB bW bZ aR aE bI aW bU fJ dO bM bQ bO jY oX qG m_x gR qR nG oO pJ sW sH) sz) := by
  refine aBJ (own := zX) (dC, dI) (tyl cI cC cZ cB cJ) (aEl cI cC cZ cB cJ a_m nY sJ eG iY lY jR jW jZ jO oQ bR aY jQ gY iJ mQ lJ jA bG mK jB mW mJ eJ dG bT aG jC bL bY jD mLn oF rP dQ aJ aB bW bZ aR aE bI aW bU fJ dO bM bQ bO jY oX qG m_x gR qR nG oO pJ sW sH) sz [.ref a_m] (fun A => aYd dC dI cI cC cZ cB cJ A a_m nY sJ eG iY lY jR jW jZ jO oQ bR aY jQ gY iJ mQ lJ jA bG mK jB mW mJ eJ dG bT aG jC jD mLn oF rP dQ aJ aB bW bZ aR aE bI aW bU fJ bM bQ bO jY oX qG m_x gR qR nG oO pJ post) aFY rfl (lbz rfl) ?_
  intro p e s m args below meth c A H locs ls C0 hP hD hS hl
  have hl : lv_has ls 6 [(0, .ref a_m)] := hl
  obtain ⟨hx, hb, hr, hml, hown, hts, hlocks, hA, hK, hN, tL, tM, hZL, hTL, hZM, hTM, hZX⟩ := id C0
  have hp := hw
  unfold wp_X10_needed at hp
  refine lv_aload_n hx hb aS8.1 rfl (lv_at hl 0 rfl) ?_
  refine lv_iconst (v := 0) hx hb aS8.2.1 aCi ?_
  refine va_put (D := (dC, dI)) (ci := 10) (v := .int 0) (ty := .int) (C := zX) (T := aBe) (N := 51) hx hb hts aAt aD2 aAa aEC hown hK hP hD hS 0 rfl rfl 14 (lbz rfl) (hts _ q_638) (fun _ h9 => h9) rfl (aAa 14 (lbz rfl)) rfl rfl (lbz rfl) aS8.2.2.1 (fun H locs hP hD hS => ?_)
  have hPD := PDw (ws' := (aEl cI cC cZ cB cJ a_m nY sJ eG iY lY jR jW jZ jO oQ bR aY jQ gY iJ mQ lJ jA bG mK jB mW mJ eJ dG bT aG jC bL 0 jD mLn oF rP dQ aJ aB bW bZ aR aE bI aW bU fJ dO bM bQ bO jY oX qG m_x gR qR nG oO pJ sW sH)) hP hD rfl
  have hP := hPD.1
  have hD := hPD.2
  refine lv_aload_n hx hb aS8.2.2.2.1 rfl (lv_at hl 0 rfl) ?_
  have hm := mgk (wc := (aIe cI cC cZ cB cJ a_m nY sJ eG iY lY jR jW jZ jO oQ bR aY jQ gY iJ mQ lJ jA bG mK jB mW mJ eJ dG bT aG jC bL 0 jD mLn oF rP dQ aJ aB bW bZ aR aE bI aW bU fJ dO bM bQ bO jY oX qG m_x gR qR nG oO pJ sH)) hP aUv 10 rfl rfl rfl
  refine aBn hP hD hS hA (yS aUv) (aAi aUv) hm.1 hm.2 (aAk _) (zW _) (zF (As := []) (rest := []) C0 hP hD hS (yS aUv) hm.1 (aAl _) 0 10 rfl rfl (aPr l dC dI cI cC cZ cB cJ a_m nY sJ eG iY lY jR jW jZ jO oQ bR aY jQ gY iJ mQ lJ jA bG mK jB mW mJ eJ dG H.size bT aG jC bL 0 jD mLn oF rP dQ aJ aB bW bZ aR aE bI aW bU fJ dO bM bQ bO jY oX qG m_x gR qR nG oO pJ sH _ hp) q_883 q_886 q_884 q_885 aBL aQ3 rfl rfl ⟨lbz rfl, lbz rfl⟩ rfl rfl hl.1 rfl (lv_room (lbz rfl)) aS8.2.2.2.2.1 ⟨Nat.zero_le _, Nat.zero_le _⟩) (fun u H locs hp hP hD hS => ?_)
  obtain ⟨aDN, aII⟩ := u
  have hPD := PDm (ws' := (aEl cI cC cZ cB cJ a_m nY sJ eG iY lY jR jW jZ jO oQ bR aY jQ gY iJ mQ lJ jA bG mK jB mW mJ eJ dG bT aG jC bL 0 jD mLn oF rP dQ aJ aB bW bZ aR aE bI aW bU fJ aDN bM bQ bO jY oX qG m_x gR qR nG oO pJ sW aII)) hP hD 10 rfl rfl rfl
  have hP := hPD.1
  have hD := hPD.2
  refine lv_iconst (v := 0) hx hb aS8.2.2.2.2.2.1 aCi ?_
  refine lv_istore_n (lv' := [(1, .int 0), (0, .ref a_m)]) hx hb aS8.2.2.2.2.2.2.1 rfl hl (by decide) rfl (fun ls hl => ?_)
  refine lv_iconst (v := 0) hx hb aS8.2.2.2.2.2.2.2.1 aCi ?_
  refine lv_istore_n (lv' := [(2, .int 0), (1, .int 0), (0, .ref a_m)]) hx hb aS8.2.2.2.2.2.2.2.2.1 rfl hl (by decide) rfl (fun ls hl => ?_)
  refine lv_iconst (v := 0) hx hb aS8.2.2.2.2.2.2.2.2.2.1 aCi ?_
  refine lv_istore_n (lv' := [(3, .int 0), (2, .int 0), (1, .int 0), (0, .ref a_m)]) hx hb aS8.2.2.2.2.2.2.2.2.2.2.1 rfl hl (by decide) rfl (fun ls hl => ?_)
  obtain ⟨n9, hp⟩ := hp
  exact kb_X10_needed_15 C0 n9 0 0 0 bL 0 aDN sW aII H locs ls hp hP hD hS (lv_sub hl [3, 2, 1, 0] rfl)
abbrev aYD (cI cC cZ cB cJ : ClassId) (a_m nY sJ eG iY lY jR jW jZ jO oQ bR aY jQ gY iJ mQ lJ jA bG mK jB mW mJ eJ dG : Nat) (bT aG jC bL bY : Int32) (jD : Nat) (mLn oF rP dQ aJ aB bW bZ aR aE bI aW bU fJ dO bM bQ bO jY oX : Int32) (qG pW sH : Nat -> Int32) : va_W := [(a_m, .inr (10, [.ref nY, .int bT, .ref sJ, .ref eG, .ref iY, .ref lY, .int aG, .ref jR, .ref jW, .ref jZ, .ref jO, .int jC, .ref oQ, .int bL, .int bY, rdv jO jQ jD, .int mLn, .int oF, .int rP, .int dQ, .ref bR, .ref aY, .int aJ, .int aB, .ref jQ, .int bW, .int bZ, .int aR, .int aE, .int bI, .int aW, .ref gY, .int bU, .ref iJ, .ref mQ, .int fJ, .ref lJ, .int dO, .ref jA, .ref bG, .int bM, .int bQ, .int bO, .ref mK, .ref jB, .ref mW, .int jY, .int oX, .ref mJ, .ref eJ, .ref dG])), (nY, .inl (cI, 21, .inl qG)), (iY, .inl (cI, 16, .inl pW)), (lJ, .inl (cI, 8, .inl sH))]
abbrev q_X10_leftBy (dC : Nat -> ClassId) (dI : Nat -> Nat -> Nat) (cI cC cZ cB cJ : ClassId) (A : Nat -> Prop) (a_m nY sJ eG iY lY jR jW jZ jO oQ bR aY jQ gY iJ mQ lJ jA bG mK jB mW mJ eJ dG : Nat) (bT aG jC bL bY : Int32) (jD : Nat) (mLn oF rP dQ aJ aB bW bZ aR aE bI aW bU fJ dO bM bQ bO jY oX : Int32) (qG pW sH : Nat -> Int32) (post : Int32 -> Prop) : Array Value -> State -> Outcome -> State -> Prop := va_Qi (fun (r : Int32) (u : Unit) => post r) (fun u t => gB (dC, dI) (tyl cI cC cZ cB cJ) A (aYD cI cC cZ cB cJ a_m nY sJ eG iY lY jR jW jZ jO oQ bR aY jQ gY iJ mQ lJ jA bG mK jB mW mJ eJ dG bT aG jC bL bY jD mLn oF rP dQ aJ aB bW bZ aR aE bI aW bU fJ dO bM bQ bO jY oX qG pW sH) t) A
abbrev rm_X10_leftBy : Room := { frames := 3, cells := 0, slots := 0, locals := 67 }
def wp_X10_leftBy (post : Int32 -> Prop) (p0 bT aG dO : Int32) (qG pW sH : Nat -> Int32) : Prop := aRt (fun r_1 => ∀ v_2 : Int32, v_2 = dO &&& (r_1 ^^^ (-1)) -> ∀ v_3 : Int32, v_3 = qG (16 : Int32).toNatClampNeg -> aMp (fun r_4 => post r_4) v_2 v_3 bT pW) p0 aG sH
set_option maxHeartbeats 4000000 in
set_option maxRecDepth 100000 in
theorem c_X10_leftBy (l : Launch) (dC : Nat -> ClassId) (dI : Nat -> Nat -> Nat) (cI cC cZ cB cJ : ClassId) (a_m nY sJ eG iY lY jR jW jZ jO oQ bR aY jQ gY iJ mQ lJ jA bG mK jB mW mJ eJ dG sz : Nat) (p0 bT aG jC bL bY : Int32) (jD : Nat) (mLn oF rP dQ aJ aB bW bZ aR aE bI aW bU fJ dO bM bQ bO jY oX : Int32) (qG pW sH : Nat -> Int32) (post : Int32 -> Prop) (hw : wp_X10_leftBy post p0 bT aG dO qG pW sH) : Met l yX10_leftBy (gw yX10_leftBy aYL 2 (some .int)) rm_X10_leftBy (va_Pc [.ref a_m, .int p0] (gPre (dC, dI) (tyl cI cC cZ cB cJ) (aYD cI cC cZ cB cJ a_m nY sJ eG iY lY jR jW jZ jO oQ bR aY jQ gY iJ mQ lJ jA bG mK jB mW mJ eJ dG bT aG jC bL bY jD mLn oF rP dQ aJ aB bW bZ aR aE bI aW bU fJ dO bM bQ bO jY oX qG pW sH) sz)) (q_X10_leftBy dC dI cI cC cZ cB cJ (va_A (aYD cI cC cZ cB cJ a_m nY sJ eG iY lY jR jW jZ jO oQ bR aY jQ gY iJ mQ lJ jA bG mK jB mW mJ eJ dG bT aG jC bL bY jD mLn oF rP dQ aJ aB bW bZ aR aE bI aW bU fJ dO bM bQ bO jY oX qG pW sH) sz) a_m nY sJ eG iY lY jR jW jZ jO oQ bR aY jQ gY iJ mQ lJ jA bG mK jB mW mJ eJ dG bT aG jC bL bY jD mLn oF rP dQ aJ aB bW bZ aR aE bI aW bU fJ dO bM bQ bO jY oX qG pW sH post) 0 0 (va_A (aYD cI cC cZ cB cJ a_m nY sJ eG iY lY jR jW jZ jO oQ bR aY jQ gY iJ mQ lJ jA bG mK jB mW mJ eJ dG bT aG jC bL bY jD mLn oF rP dQ aJ aB bW bZ aR aE bI aW bU fJ dO bM bQ bO jY oX qG pW sH) sz) := by
  refine aBJ (own := zX) (dC, dI) (tyl cI cC cZ cB cJ) (aYD cI cC cZ cB cJ a_m nY sJ eG iY lY jR jW jZ jO oQ bR aY jQ gY iJ mQ lJ jA bG mK jB mW mJ eJ dG bT aG jC bL bY jD mLn oF rP dQ aJ aB bW bZ aR aE bI aW bU fJ dO bM bQ bO jY oX qG pW sH) sz [.ref a_m, .int p0] (fun A => q_X10_leftBy dC dI cI cC cZ cB cJ A a_m nY sJ eG iY lY jR jW jZ jO oQ bR aY jQ gY iJ mQ lJ jA bG mK jB mW mJ eJ dG bT aG jC bL bY jD mLn oF rP dQ aJ aB bW bZ aR aE bI aW bU fJ dO bM bQ bO jY oX qG pW sH post) aFY rfl (lbz rfl) ?_
  intro p e s m args below meth c A H locs ls C0 hP hD hS hl
  have hl : lv_has ls 2 [(0, .ref a_m), (1, .int p0)] := hl
  obtain ⟨hx, hb, hr, hml, hown, hts, hlocks, hA, hK, hN, tL, tM, hZL, hTL, hZM, hTM, hZX⟩ := id C0
  have hp := hw
  unfold wp_X10_leftBy at hp
  refine lv_aload_n hx hb aVE.1 rfl (lv_at hl 0 rfl) ?_
  refine lv_aload_n hx hb aVE.2.1 rfl (lv_at hl 0 rfl) ?_
  refine va_get (D := (dC, dI)) (ci := 10) (v := .int dO) (C := zX) (T := aBe) (N := 51) hx hb hts aAt hown hK hP 0 rfl rfl 37 (lbz rfl) (hts _ q_878) (fun _ h9 => h9) rfl aVE.2.2.1 ?_
  refine lv_aload_n hx hb aVE.2.2.2.1 rfl (lv_at hl 0 rfl) ?_
  refine lv_iload_n hx hb aVE.2.2.2.2.1 rfl (lv_at hl 1 rfl) ?_
  have hm := mgk (wc := (aH9 cI cC cZ cB cJ a_m nY sJ eG iY lY jR jW jZ jO oQ bR aY jQ gY iJ mQ lJ jA bG mK jB mW mJ eJ dG bT aG jC bL bY jD mLn oF rP dQ aJ aB bW bZ aR aE bI aW bU fJ dO bM bQ bO jY oX sH)) hP mk_256 4 rfl rfl rfl
  refine yW hP hD hS hA (yS mk_256) (aAi mk_256) hm.1 hm.2 (aAk _) (zW _) (zF (As := [.int p0]) (rest := [.int dO, .ref a_m]) C0 hP hD hS (yS mk_256) hm.1 (aAl _) 0 10 rfl rfl (c_X10_handOf l dC dI cI cC cZ cB cJ a_m nY sJ eG iY lY jR jW jZ jO oQ bR aY jQ gY iJ mQ lJ jA bG mK jB mW mJ eJ dG H.size p0 bT aG jC bL bY jD mLn oF rP dQ aJ aB bW bZ aR aE bI aW bU fJ dO bM bQ bO jY oX sH _ hp) q_874 q_877 q_875 q_876 aBL h_X10_handOf rfl rfl ⟨lbz rfl, lbz rfl⟩ rfl rfl hl.1 rfl (lv_room (lbz rfl)) aVE.2.2.2.2.2.1 ⟨Nat.zero_le _, Nat.zero_le _⟩) (fun r_1 u H locs hp hP hD hS => ?_)
  have hPD := PDm (ws' := (aYD cI cC cZ cB cJ a_m nY sJ eG iY lY jR jW jZ jO oQ bR aY jQ gY iJ mQ lJ jA bG mK jB mW mJ eJ dG bT aG jC bL bY jD mLn oF rP dQ aJ aB bW bZ aR aE bI aW bU fJ dO bM bQ bO jY oX qG pW sH)) hP hD 4 rfl rfl rfl
  have hP := hPD.1
  have hD := hPD.2
  refine lv_iconst (v := (-1)) hx hb aVE.2.2.2.2.2.2.1 aEJ ?_
  refine lv_ixor hx hb aVE.2.2.2.2.2.2.2.1 ?_
  refine lv_iand hx hb aVE.2.2.2.2.2.2.2.2.1 ?_
  refine lv_topi (fun v_2 aGO => ?_)
  have hp := hp v_2 aGO
  refine lv_aload_n hx hb aVE.2.2.2.2.2.2.2.2.2.1 rfl (lv_at hl 0 rfl) ?_
  refine va_get (D := (dC, dI)) (ci := 10) (v := .ref nY) (C := zX) (T := aBe) (N := 51) hx hb hts aAt hown hK hP 0 rfl rfl 0 (lbz rfl) (hts _ aHO) (fun _ h9 => h9) rfl aVE.2.2.2.2.2.2.2.2.2.2.1 ?_
  refine lv_bipush (v := 16) hx hb aVE.2.2.2.2.2.2.2.2.2.2.2.1 bp_16 ?_
  refine va_iald hx hb hK hP 1 0 rfl rfl (g_in rfl) aVE.2.2.2.2.2.2.2.2.2.2.2.2.1 ?_
  refine lv_topi (fun v_3 aGW => ?_)
  have hp := hp v_3 aGW
  have hm := mgk (wc := (aFo cI cC cZ cB cJ a_m nY sJ eG iY lY jR jW jZ jO oQ bR aY jQ gY iJ mQ lJ jA bG mK jB mW mJ eJ dG bT aG jC bL bY jD mLn oF rP dQ aJ aB bW bZ aR aE bI aW bU fJ dO bM bQ bO jY oX pW)) hP mk_194 4 rfl rfl rfl
  refine yW hP hD hS hA (yS mk_194) (aAi mk_194) hm.1 hm.2 (aAk _) (zW _) (zF (As := [.int v_2, .int v_3]) (rest := []) C0 hP hD hS (yS mk_194) hm.1 (aAl _) 0 10 rfl rfl (bCS l dC dI cI cC cZ cB cJ a_m nY sJ eG iY lY jR jW jZ jO oQ bR aY jQ gY iJ mQ lJ jA bG mK jB mW mJ eJ dG H.size v_2 v_3 bT aG jC bL bY jD mLn oF rP dQ aJ aB bW bZ aR aE bI aW bU fJ dO bM bQ bO jY oX pW _ hp) q_865 q_868 q_866 q_867 aBL bCV rfl rfl ⟨lbz rfl, lbz rfl⟩ rfl rfl hl.1 rfl (lv_room (lbz rfl)) aVE.2.2.2.2.2.2.2.2.2.2.2.2.2.1 ⟨Nat.zero_le _, Nat.zero_le _⟩) (fun r_4 u H locs hp hP hD hS => ?_)
  have hPD := PDm (ws' := (aYD cI cC cZ cB cJ a_m nY sJ eG iY lY jR jW jZ jO oQ bR aY jQ gY iJ mQ lJ jA bG mK jB mW mJ eJ dG bT aG jC bL bY jD mLn oF rP dQ aJ aB bW bZ aR aE bI aW bU fJ dO bM bQ bO jY oX qG pW sH)) hP hD 4 rfl rfl rfl
  have hP := hPD.1
  have hD := hPD.2
  exact W.iret (v := r_4) hx hb hr (fun t ht hW => ⟨⟨r_4, (), rfl, hp, by rw [ht]; exact hP, va_K.moved hW.alike hK, hD⟩, hS.F ht⟩) hS.2.2 aVE.2.2.2.2.2.2.2.2.2.2.2.2.2.2
abbrev aGe (cI cC cZ cB cJ : ClassId) (a_m nY sJ eG iY lY jR jW jZ jO oQ bR aY jQ gY iJ mQ lJ jA bG mK jB mW mJ eJ dG : Nat) (bT aG jC bL bY : Int32) (jD : Nat) (mLn oF rP dQ aJ aB bW bZ aR aE bI aW bU fJ dO bM bQ bO jY oX : Int32) (qG m_x gR pW qR nG oO pJ sW sH : Nat -> Int32) : va_W := [(a_m, .inr (10, [.ref nY, .int bT, .ref sJ, .ref eG, .ref iY, .ref lY, .int aG, .ref jR, .ref jW, .ref jZ, .ref jO, .int jC, .ref oQ, .int bL, .int bY, rdv jO jQ jD, .int mLn, .int oF, .int rP, .int dQ, .ref bR, .ref aY, .int aJ, .int aB, .ref jQ, .int bW, .int bZ, .int aR, .int aE, .int bI, .int aW, .ref gY, .int bU, .ref iJ, .ref mQ, .int fJ, .ref lJ, .int dO, .ref jA, .ref bG, .int bM, .int bQ, .int bO, .ref mK, .ref jB, .ref mW, .int jY, .int oX, .ref mJ, .ref eJ, .ref dG])), (nY, .inl (cI, 21, .inl qG)), (sJ, .inl (cI, 16, .inl m_x)), (eG, .inl (cI, 16, .inl gR)), (iY, .inl (cI, 16, .inl pW)), (lY, .inl (cI, 16, .inl qR)), (jR, .inl (cI, 8, .inl nG)), (jW, .inl (cI, 8, .inl oO)), (jZ, .inl (cI, 5, .inl pJ)), (oQ, .inl (cI, 32, .inl sW)), (lJ, .inl (cI, 8, .inl sH))]
abbrev q_X10_birds (dC : Nat -> ClassId) (dI : Nat -> Nat -> Nat) (cI cC cZ cB cJ : ClassId) (A : Nat -> Prop) (a_m nY sJ eG iY lY jR jW jZ jO oQ bR aY jQ gY iJ mQ lJ jA bG mK jB mW mJ eJ dG : Nat) (bT aG jC : Int32) (jD : Nat) (mLn oF rP dQ aJ aB bW bZ aR aE bI aW bU fJ bM bQ bO jY oX : Int32) (qG m_x gR pW qR nG oO pJ : Nat -> Int32) (post : Int32 -> Int32 -> Int32 -> Int32 -> (Nat -> Int32) -> (Nat -> Int32) -> Prop) : Array Value -> State -> Outcome -> State -> Prop := va_Qi (fun (r : Int32) (u : Int32 × Int32 × Int32 × (Nat -> Int32) × (Nat -> Int32)) => post r u.1 u.2.1 u.2.2.1 u.2.2.2.1 u.2.2.2.2) (fun u t => gB (dC, dI) (tyl cI cC cZ cB cJ) A (aGe cI cC cZ cB cJ a_m nY sJ eG iY lY jR jW jZ jO oQ bR aY jQ gY iJ mQ lJ jA bG mK jB mW mJ eJ dG bT aG jC u.1 u.2.1 jD mLn oF rP dQ aJ aB bW bZ aR aE bI aW bU fJ u.2.2.1 bM bQ bO jY oX qG m_x gR pW qR nG oO pJ u.2.2.2.1 u.2.2.2.2) t) A
abbrev rm_X10_birds : Room := { frames := 6, cells := 0, slots := 0, locals := 133 }
section S_X10_birds
variable {p : Program} {l : Launch} {e : Env} {s : State} {m : MethodId} {args : Array Value} {below : List Frame} {meth : Method} {c : Code} {dC : Nat -> ClassId} {dI : Nat -> Nat -> Nat} {cI cC cZ cB cJ : ClassId} {A : Nat -> Prop} {a_m nY sJ eG iY lY jR jW jZ jO oQ bR aY jQ gY iJ mQ lJ jA bG mK jB mW mJ eJ dG : Nat} {bT aG jC : Int32} {jD : Nat} {mLn oF rP dQ aJ aB bW bZ aR aE bI aW bU fJ bM bQ bO jY oX : Int32} {qG m_x gR pW qR nG oO pJ : Nat -> Int32} {post : Int32 -> Int32 -> Int32 -> Int32 -> (Nat -> Int32) -> (Nat -> Int32) -> Prop}
def ws_X10_birds_82 (post : Int32 -> Int32 -> Int32 -> Int32 -> (Nat -> Int32) -> (Nat -> Int32) -> Prop) (K25 : Int32 -> Int32 -> Int32 -> Int32 -> Int32 -> Int32 -> (Nat -> Int32) -> (Nat -> Int32) -> Prop) (bT aG : Int32) (qG m_x gR pW qR nG oO pJ : Nat -> Int32) (x1 x2 x3 bL bY dO : Int32) (sW sH : Nat -> Int32) : Prop := ∀ aHb : Int32, aHb = x3 + 1 -> K25 x1 x2 aHb bL bY dO sW sH
set_option maxHeartbeats 4000000 in
set_option maxRecDepth 100000 in
theorem ks_X10_birds_82 (C0 : gc aDH (some .int) 6 zX (dC, dI) (tyl cI cC cZ cB cJ) A p s m args meth c) {K25 : Int32 -> Int32 -> Int32 -> Int32 -> Int32 -> Int32 -> (Nat -> Int32) -> (Nat -> Int32) -> Prop} (hK25 : ∀ (x1 : Int32) (x2 : Int32) (x3 : Int32) (bL : Int32) (bY : Int32) (dO : Int32) (sW : Nat -> Int32) (sH : Nat -> Int32) (H : Heap) (locs : List Loc) (ls : Array Slot), K25 x1 x2 x3 bL bY dO sW sH -> va_P (dC, dI) classes (aGe cI cC cZ cB cJ a_m nY sJ eG iY lY jR jW jZ jO oQ bR aY jQ gY iJ mQ lJ jA bG mK jB mW mJ eJ dG bT aG jC bL bY jD mLn oF rP dQ aJ aB bW bZ aR aE bI aW bU fJ dO bM bQ bO jY oX qG m_x gR pW qR nG oO pJ sW sH) H -> va_D A (aGe cI cC cZ cB cJ a_m nY sJ eG iY lY jR jW jZ jO oQ bR aY jQ gY iJ mQ lJ jA bG mK jB mW mJ eJ dG bT aG jC bL bY jD mLn oF rP dQ aJ aB bW bZ aR aE bI aW bU fJ dO bM bQ bO jY oX qG m_x gR pW qR nG oO pJ sW sH) -> va_S A s.heap H locs -> lv_has ls 6 [(0, .ref a_m), (1, .int x1), (2, .int x2), (3, .int x3)] -> W p l e rm_X10_birds s m args below meth c H locs 0 0 (MQ below (q_X10_birds dC dI cI cC cZ cB cJ A a_m nY sJ eG iY lY jR jW jZ jO oQ bR aY jQ gY iJ mQ lJ jA bG mK jB mW mJ eJ dG bT aG jC jD mLn oF rP dQ aJ aB bW bZ aR aE bI aW bU fJ bM bQ bO jY oX qG m_x gR pW qR nG oO pJ post) args s 0 0 A) (F0 m 25 ls [])) : ∀ (x1 x2 x3 bL bY dO : Int32) (sW sH : Nat -> Int32) (H : Heap) (locs : List Loc) (ls : Array Slot), (ws_X10_birds_82 post K25 bT aG qG m_x gR pW qR nG oO pJ) x1 x2 x3 bL bY dO sW sH -> va_P (dC, dI) classes (aGe cI cC cZ cB cJ a_m nY sJ eG iY lY jR jW jZ jO oQ bR aY jQ gY iJ mQ lJ jA bG mK jB mW mJ eJ dG bT aG jC bL bY jD mLn oF rP dQ aJ aB bW bZ aR aE bI aW bU fJ dO bM bQ bO jY oX qG m_x gR pW qR nG oO pJ sW sH) H -> va_D A (aGe cI cC cZ cB cJ a_m nY sJ eG iY lY jR jW jZ jO oQ bR aY jQ gY iJ mQ lJ jA bG mK jB mW mJ eJ dG bT aG jC bL bY jD mLn oF rP dQ aJ aB bW bZ aR aE bI aW bU fJ dO bM bQ bO jY oX qG m_x gR pW qR nG oO pJ sW sH) -> va_S A s.heap H locs -> lv_has ls 6 [(0, .ref a_m), (1, .int x1), (2, .int x2), (3, .int x3)] -> W p l e rm_X10_birds s m args below meth c H locs 0 0 (MQ below (q_X10_birds dC dI cI cC cZ cB cJ A a_m nY sJ eG iY lY jR jW jZ jO oQ bR aY jQ gY iJ mQ lJ jA bG mK jB mW mJ eJ dG bT aG jC jD mLn oF rP dQ aJ aB bW bZ aR aE bI aW bU fJ bM bQ bO jY oX qG m_x gR pW qR nG oO pJ post) args s 0 0 A) (F0 m 82 ls []) := by
  obtain ⟨hx, hb, hr, hml, hown, hts, hlocks, hA, hK, hN, tL, tM, hZL, hTL, hZM, hTM, hZX⟩ := id C0
  intro x1 x2 x3 bL bY dO sW sH H locs ls hp hP hD hS hl
  unfold ws_X10_birds_82 at hp
  obtain ⟨aHb, ev_16⟩ : ∃ y : Int32, y = x3 + 1 := ⟨_, rfl⟩
  refine lv_iinc (v := aHb) (lv' := [(3, .int aHb), (0, .ref a_m), (1, .int x1), (2, .int x2)]) hx hb aSd.2.2.2.2.2.2.2.2.2.2.2.2.2.1 hl (k := 3) rfl (by rw [ev_16]; rfl) (by decide) rfl (fun ls hl => ?_)
  have hp := hp aHb ev_16
  refine lv_goto (tgt := 25) hx hb aSd.2.2.2.2.2.2.2.2.2.2.2.2.2.2.1 (by decide) ?_
  exact hK25 x1 x2 aHb bL bY dO sW sH H locs ls hp hP hD hS (lv_sub hl [1, 2, 3, 0] rfl)
def ws_X10_birds_80 (post : Int32 -> Int32 -> Int32 -> Int32 -> (Nat -> Int32) -> (Nat -> Int32) -> Prop) (K25 : Int32 -> Int32 -> Int32 -> Int32 -> Int32 -> Int32 -> (Nat -> Int32) -> (Nat -> Int32) -> Prop) (bT aG : Int32) (qG m_x gR pW qR nG oO pJ : Nat -> Int32) (x1 x3 bL bY dO : Int32) (sW sH : Nat -> Int32) : Prop := ws_X10_birds_82 post K25 bT aG qG m_x gR pW qR nG oO pJ x1 x3 x3 bL bY dO sW sH
set_option maxHeartbeats 4000000 in
set_option maxRecDepth 100000 in
theorem ks_X10_birds_80 (C0 : gc aDH (some .int) 6 zX (dC, dI) (tyl cI cC cZ cB cJ) A p s m args meth c) {K25 : Int32 -> Int32 -> Int32 -> Int32 -> Int32 -> Int32 -> (Nat -> Int32) -> (Nat -> Int32) -> Prop} (hK25 : ∀ (x1 : Int32) (x2 : Int32) (x3 : Int32) (bL : Int32) (bY : Int32) (dO : Int32) (sW : Nat -> Int32) (sH : Nat -> Int32) (H : Heap) (locs : List Loc) (ls : Array Slot), K25 x1 x2 x3 bL bY dO sW sH -> va_P (dC, dI) classes (aGe cI cC cZ cB cJ a_m nY sJ eG iY lY jR jW jZ jO oQ bR aY jQ gY iJ mQ lJ jA bG mK jB mW mJ eJ dG bT aG jC bL bY jD mLn oF rP dQ aJ aB bW bZ aR aE bI aW bU fJ dO bM bQ bO jY oX qG m_x gR pW qR nG oO pJ sW sH) H -> va_D A (aGe cI cC cZ cB cJ a_m nY sJ eG iY lY jR jW jZ jO oQ bR aY jQ gY iJ mQ lJ jA bG mK jB mW mJ eJ dG bT aG jC bL bY jD mLn oF rP dQ aJ aB bW bZ aR aE bI aW bU fJ dO bM bQ bO jY oX qG m_x gR pW qR nG oO pJ sW sH) -> va_S A s.heap H locs -> lv_has ls 6 [(0, .ref a_m), (1, .int x1), (2, .int x2), (3, .int x3)] -> W p l e rm_X10_birds s m args below meth c H locs 0 0 (MQ below (q_X10_birds dC dI cI cC cZ cB cJ A a_m nY sJ eG iY lY jR jW jZ jO oQ bR aY jQ gY iJ mQ lJ jA bG mK jB mW mJ eJ dG bT aG jC jD mLn oF rP dQ aJ aB bW bZ aR aE bI aW bU fJ bM bQ bO jY oX qG m_x gR pW qR nG oO pJ post) args s 0 0 A) (F0 m 25 ls [])) : ∀ (x1 x3 bL bY dO : Int32) (sW sH : Nat -> Int32) (H : Heap) (locs : List Loc) (ls : Array Slot), (ws_X10_birds_80 post K25 bT aG qG m_x gR pW qR nG oO pJ) x1 x3 bL bY dO sW sH -> va_P (dC, dI) classes (aGe cI cC cZ cB cJ a_m nY sJ eG iY lY jR jW jZ jO oQ bR aY jQ gY iJ mQ lJ jA bG mK jB mW mJ eJ dG bT aG jC bL bY jD mLn oF rP dQ aJ aB bW bZ aR aE bI aW bU fJ dO bM bQ bO jY oX qG m_x gR pW qR nG oO pJ sW sH) H -> va_D A (aGe cI cC cZ cB cJ a_m nY sJ eG iY lY jR jW jZ jO oQ bR aY jQ gY iJ mQ lJ jA bG mK jB mW mJ eJ dG bT aG jC bL bY jD mLn oF rP dQ aJ aB bW bZ aR aE bI aW bU fJ dO bM bQ bO jY oX qG m_x gR pW qR nG oO pJ sW sH) -> va_S A s.heap H locs -> lv_has ls 6 [(0, .ref a_m), (1, .int x1), (3, .int x3)] -> W p l e rm_X10_birds s m args below meth c H locs 0 0 (MQ below (q_X10_birds dC dI cI cC cZ cB cJ A a_m nY sJ eG iY lY jR jW jZ jO oQ bR aY jQ gY iJ mQ lJ jA bG mK jB mW mJ eJ dG bT aG jC jD mLn oF rP dQ aJ aB bW bZ aR aE bI aW bU fJ bM bQ bO jY oX qG m_x gR pW qR nG oO pJ post) args s 0 0 A) (F0 m 80 ls []) := by
  obtain ⟨hx, hb, hr, hml, hown, hts, hlocks, hA, hK, hN, tL, tM, hZL, hTL, hZM, hTM, hZX⟩ := id C0
  intro x1 x3 bL bY dO sW sH H locs ls hp hP hD hS hl
  unfold ws_X10_birds_80 at hp
  refine lv_iload_n hx hb aSd.2.2.2.2.2.2.2.2.2.2.2.1 rfl (lv_at hl 2 rfl) ?_
  refine lv_istore_n (lv' := [(2, .int x3), (0, .ref a_m), (1, .int x1), (3, .int x3)]) hx hb aSd.2.2.2.2.2.2.2.2.2.2.2.2.1 rfl hl (by decide) rfl (fun ls hl => ?_)
  exact ks_X10_birds_82 C0 hK25 x1 x3 x3 bL bY dO sW sH H locs ls hp hP hD hS (lv_sub hl [1, 2, 0, 3] rfl)
def ws_X10_birds_25 (post : Int32 -> Int32 -> Int32 -> Int32 -> (Nat -> Int32) -> (Nat -> Int32) -> Prop) (next : Int32 -> Int32 -> Int32 -> Int32 -> Int32 -> Int32 -> (Nat -> Int32) -> (Nat -> Int32) -> Prop) (bT aG : Int32) (qG m_x gR pW qR nG oO pJ : Nat -> Int32) (x1 x2 x3 bL bY dO : Int32) (sW sH : Nat -> Int32) : Prop := aGu (fun r_4 => (r_4 < x3 -> aDs (fun aSZ m_row_6 => aRt (fun r_7 => ∀ v_8 : Int32, v_8 = dO &&& (r_7 ^^^ (-1)) -> aDs (fun m_rowMany_9 m_row_10 => wp_X10_leftBy (fun r_11 => post r_11 m_rowMany_9 bY dO m_row_10 sH) x2 bT aG dO qG pW sH) v_8 aSZ m_row_6) x2 aG sH) x2 0 sW) /\ (¬ r_4 < x3 -> aBb (fun r_12 => (r_12 <= x1 -> wp_X10_leftBy (fun r_13 => wp_X10_leftBy (fun r_14 => ∀ aHe : Int32, aHe = r_13 - r_14 -> (aHe < 0 -> ws_X10_birds_80 post next bT aG qG m_x gR pW qR nG oO pJ x1 x3 bL bY dO sW sH) /\ (¬ aHe < 0 -> (¬ aHe = 0 -> ws_X10_birds_82 post next bT aG qG m_x gR pW qR nG oO pJ x1 x2 x3 bL bY dO sW sH) /\ (aHe = 0 -> aBb (fun r_17 => (r_17 <= r_12 -> ws_X10_birds_82 post next bT aG qG m_x gR pW qR nG oO pJ x1 x2 x3 bL bY dO sW sH) /\ (¬ r_17 <= r_12 -> ws_X10_birds_80 post next bT aG qG m_x gR pW qR nG oO pJ x1 x3 bL bY dO sW sH)) x2))) x2 bT aG dO qG pW sH) x3 bT aG dO qG pW sH) /\ (¬ r_12 <= x1 -> ws_X10_birds_82 post next bT aG qG m_x gR pW qR nG oO pJ x1 x2 x3 bL bY dO sW sH)) x3)) aG
noncomputable def wb_X10_birds_25 (post : Int32 -> Int32 -> Int32 -> Int32 -> (Nat -> Int32) -> (Nat -> Int32) -> Prop) (bT aG : Int32) (qG m_x gR pW qR nG oO pJ : Nat -> Int32) : Nat -> Int32 -> Int32 -> Int32 -> Int32 -> Int32 -> Int32 -> (Nat -> Int32) -> (Nat -> Int32) -> Prop := fun n => Nat.rec (motive := fun _ => Int32 -> Int32 -> Int32 -> Int32 -> Int32 -> Int32 -> (Nat -> Int32) -> (Nat -> Int32) -> Prop) (fun _ _ _ _ _ _ _ _ => False) (fun _ ih => ws_X10_birds_25 post ih bT aG qG m_x gR pW qR nG oO pJ) n
set_option maxHeartbeats 4000000 in
set_option maxRecDepth 100000 in
theorem ks_X10_birds_25 (C0 : gc aDH (some .int) 6 zX (dC, dI) (tyl cI cC cZ cB cJ) A p s m args meth c) {next : Int32 -> Int32 -> Int32 -> Int32 -> Int32 -> Int32 -> (Nat -> Int32) -> (Nat -> Int32) -> Prop} (hKn : ∀ (x1 : Int32) (x2 : Int32) (x3 : Int32) (bL : Int32) (bY : Int32) (dO : Int32) (sW : Nat -> Int32) (sH : Nat -> Int32) (H : Heap) (locs : List Loc) (ls : Array Slot), next x1 x2 x3 bL bY dO sW sH -> va_P (dC, dI) classes (aGe cI cC cZ cB cJ a_m nY sJ eG iY lY jR jW jZ jO oQ bR aY jQ gY iJ mQ lJ jA bG mK jB mW mJ eJ dG bT aG jC bL bY jD mLn oF rP dQ aJ aB bW bZ aR aE bI aW bU fJ dO bM bQ bO jY oX qG m_x gR pW qR nG oO pJ sW sH) H -> va_D A (aGe cI cC cZ cB cJ a_m nY sJ eG iY lY jR jW jZ jO oQ bR aY jQ gY iJ mQ lJ jA bG mK jB mW mJ eJ dG bT aG jC bL bY jD mLn oF rP dQ aJ aB bW bZ aR aE bI aW bU fJ dO bM bQ bO jY oX qG m_x gR pW qR nG oO pJ sW sH) -> va_S A s.heap H locs -> lv_has ls 6 [(0, .ref a_m), (1, .int x1), (2, .int x2), (3, .int x3)] -> W p l e rm_X10_birds s m args below meth c H locs 0 0 (MQ below (q_X10_birds dC dI cI cC cZ cB cJ A a_m nY sJ eG iY lY jR jW jZ jO oQ bR aY jQ gY iJ mQ lJ jA bG mK jB mW mJ eJ dG bT aG jC jD mLn oF rP dQ aJ aB bW bZ aR aE bI aW bU fJ bM bQ bO jY oX qG m_x gR pW qR nG oO pJ post) args s 0 0 A) (F0 m 25 ls [])) : ∀ (x1 x2 x3 bL bY dO : Int32) (sW sH : Nat -> Int32) (H : Heap) (locs : List Loc) (ls : Array Slot), (ws_X10_birds_25 post next bT aG qG m_x gR pW qR nG oO pJ) x1 x2 x3 bL bY dO sW sH -> va_P (dC, dI) classes (aGe cI cC cZ cB cJ a_m nY sJ eG iY lY jR jW jZ jO oQ bR aY jQ gY iJ mQ lJ jA bG mK jB mW mJ eJ dG bT aG jC bL bY jD mLn oF rP dQ aJ aB bW bZ aR aE bI aW bU fJ dO bM bQ bO jY oX qG m_x gR pW qR nG oO pJ sW sH) H -> va_D A (aGe cI cC cZ cB cJ a_m nY sJ eG iY lY jR jW jZ jO oQ bR aY jQ gY iJ mQ lJ jA bG mK jB mW mJ eJ dG bT aG jC bL bY jD mLn oF rP dQ aJ aB bW bZ aR aE bI aW bU fJ dO bM bQ bO jY oX qG m_x gR pW qR nG oO pJ sW sH) -> va_S A s.heap H locs -> lv_has ls 6 [(0, .ref a_m), (1, .int x1), (2, .int x2), (3, .int x3)] -> W p l e rm_X10_birds s m args below meth c H locs 0 0 (MQ below (q_X10_birds dC dI cI cC cZ cB cJ A a_m nY sJ eG iY lY jR jW jZ jO oQ bR aY jQ gY iJ mQ lJ jA bG mK jB mW mJ eJ dG bT aG jC jD mLn oF rP dQ aJ aB bW bZ aR aE bI aW bU fJ bM bQ bO jY oX qG m_x gR pW qR nG oO pJ post) args s 0 0 A) (F0 m 25 ls []) := by
  obtain ⟨hx, hb, hr, hml, hown, hts, hlocks, hA, hK, hN, tL, tM, hZL, hTL, hZM, hTM, hZX⟩ := id C0
  intro x1 x2 x3 bL bY dO sW sH H locs ls hp hP hD hS hl
  unfold ws_X10_birds_25 at hp
  refine lv_iload_n hx hb aSc.1 rfl (lv_at hl 3 rfl) ?_
  refine lv_aload_n hx hb aSc.2.1 rfl (lv_at hl 0 rfl) ?_
  have hm := mgk (wc := (aGj cI cC cZ cB cJ a_m nY sJ eG iY lY jR jW jZ jO oQ bR aY jQ gY iJ mQ lJ jA bG mK jB mW mJ eJ dG bT aG jC bL bY jD mLn oF rP dQ aJ aB bW bZ aR aE bI aW bU fJ dO bM bQ bO jY oX)) hP mk_257 11 rfl rfl rfl
  refine yW hP hD hS hA (yS mk_257) (aAi mk_257) hm.1 hm.2 (aAk _) (zW _) (zF (As := []) (rest := [.int x3]) C0 hP hD hS (yS mk_257) hm.1 (aAl _) 0 10 rfl rfl (aKY l dC dI cI cC cZ cB cJ a_m nY sJ eG iY lY jR jW jZ jO oQ bR aY jQ gY iJ mQ lJ jA bG mK jB mW mJ eJ dG H.size bT aG jC bL bY jD mLn oF rP dQ aJ aB bW bZ aR aE bI aW bU fJ dO bM bQ bO jY oX _ hp) q_870 q_873 q_871 q_872 aBL aKa rfl rfl ⟨lbz rfl, lbz rfl⟩ rfl rfl hl.1 rfl (lv_room (lbz rfl)) aSc.2.2.1 ⟨Nat.zero_le _, Nat.zero_le _⟩) (fun r_4 u H locs hp hP hD hS => ?_)
  have hPD := PDm (ws' := (aGe cI cC cZ cB cJ a_m nY sJ eG iY lY jR jW jZ jO oQ bR aY jQ gY iJ mQ lJ jA bG mK jB mW mJ eJ dG bT aG jC bL bY jD mLn oF rP dQ aJ aB bW bZ aR aE bI aW bU fJ dO bM bQ bO jY oX qG m_x gR pW qR nG oO pJ sW sH)) hP hD 11 rfl rfl rfl
  have hP := hPD.1
  have hD := hPD.2
  refine lv_icmp_gt (tgt := 88) hx hb aSc.2.2.2.1 (by decide) (fun hc => ?_) (fun hc => ?_)
  · have hp := hp.1 hc
    refine lv_aload_n hx hb aSd.2.2.2.2.2.2.2.2.2.2.2.2.2.2.2 rfl (lv_at hl 0 rfl) ?_
    refine lv_iconst (v := 0) hx hb aSe.1 aCi ?_
    refine va_put (D := (dC, dI)) (ci := 10) (v := .int 0) (ty := .int) (C := zX) (T := aBe) (N := 51) hx hb hts aAt aD2 aAa aEC hown hK hP hD hS 0 rfl rfl 13 (lbz rfl) (hts _ q_847) (fun _ h9 => h9) rfl (aAa 13 (lbz rfl)) rfl rfl (lbz rfl) aSe.2.1 (fun H locs hP hD hS => ?_)
    have hPD := PDw (ws' := (aGe cI cC cZ cB cJ a_m nY sJ eG iY lY jR jW jZ jO oQ bR aY jQ gY iJ mQ lJ jA bG mK jB mW mJ eJ dG bT aG jC 0 bY jD mLn oF rP dQ aJ aB bW bZ aR aE bI aW bU fJ dO bM bQ bO jY oX qG m_x gR pW qR nG oO pJ sW sH)) hP hD rfl
    have hP := hPD.1
    have hD := hPD.2
    refine lv_aload_n hx hb aSe.2.2.1 rfl (lv_at hl 0 rfl) ?_
    refine lv_iload_n hx hb aSe.2.2.2.1 rfl (lv_at hl 2 rfl) ?_
    have hm := mgk (wc := (aD0 cI cC cZ cB cJ a_m nY sJ eG iY lY jR jW jZ jO oQ bR aY jQ gY iJ mQ lJ jA bG mK jB mW mJ eJ dG bT aG jC 0 bY jD mLn oF rP dQ aJ aB bW bZ aR aE bI aW bU fJ dO bM bQ bO jY oX sW)) hP mk_258 11 rfl rfl rfl
    refine aBn hP hD hS hA (yS mk_258) (aAi mk_258) hm.1 hm.2 (aAk _) (zW _) (zF (As := [.int x2]) (rest := []) C0 hP hD hS (yS mk_258) hm.1 (aAl _) 0 10 rfl rfl (aGE l dC dI cI cC cZ cB cJ a_m nY sJ eG iY lY jR jW jZ jO oQ bR aY jQ gY iJ mQ lJ jA bG mK jB mW mJ eJ dG H.size x2 bT aG jC 0 bY jD mLn oF rP dQ aJ aB bW bZ aR aE bI aW bU fJ dO bM bQ bO jY oX sW _ hp) q_849 q_852 q_850 q_851 aBL aGF rfl rfl ⟨lbz rfl, lbz rfl⟩ rfl rfl hl.1 rfl (lv_room (lbz rfl)) aSe.2.2.2.2.1 ⟨Nat.zero_le _, Nat.zero_le _⟩) (fun u H locs hp hP hD hS => ?_)
    obtain ⟨aSZ, m_row_6⟩ := u
    have hPD := PDm (ws' := (aGe cI cC cZ cB cJ a_m nY sJ eG iY lY jR jW jZ jO oQ bR aY jQ gY iJ mQ lJ jA bG mK jB mW mJ eJ dG bT aG jC aSZ bY jD mLn oF rP dQ aJ aB bW bZ aR aE bI aW bU fJ dO bM bQ bO jY oX qG m_x gR pW qR nG oO pJ m_row_6 sH)) hP hD 11 rfl rfl rfl
    have hP := hPD.1
    have hD := hPD.2
    refine lv_aload_n hx hb aSe.2.2.2.2.2.1 rfl (lv_at hl 0 rfl) ?_
    refine lv_aload_n hx hb aSe.2.2.2.2.2.2.1 rfl (lv_at hl 0 rfl) ?_
    refine va_get (D := (dC, dI)) (ci := 10) (v := .int dO) (C := zX) (T := aBe) (N := 51) hx hb hts aAt hown hK hP 0 rfl rfl 37 (lbz rfl) (hts _ q_878) (fun _ h9 => h9) rfl aSe.2.2.2.2.2.2.2.1 ?_
    refine lv_aload_n hx hb aSe.2.2.2.2.2.2.2.2.1 rfl (lv_at hl 0 rfl) ?_
    refine lv_iload_n hx hb aSe.2.2.2.2.2.2.2.2.2.1 rfl (lv_at hl 2 rfl) ?_
    have hm := mgk (wc := (aH9 cI cC cZ cB cJ a_m nY sJ eG iY lY jR jW jZ jO oQ bR aY jQ gY iJ mQ lJ jA bG mK jB mW mJ eJ dG bT aG jC aSZ bY jD mLn oF rP dQ aJ aB bW bZ aR aE bI aW bU fJ dO bM bQ bO jY oX sH)) hP mk_259 11 rfl rfl rfl
    refine yW hP hD hS hA (yS mk_259) (aAi mk_259) hm.1 hm.2 (aAk _) (zW _) (zF (As := [.int x2]) (rest := [.int dO, .ref a_m]) C0 hP hD hS (yS mk_259) hm.1 (aAl _) 0 10 rfl rfl (c_X10_handOf l dC dI cI cC cZ cB cJ a_m nY sJ eG iY lY jR jW jZ jO oQ bR aY jQ gY iJ mQ lJ jA bG mK jB mW mJ eJ dG H.size x2 bT aG jC aSZ bY jD mLn oF rP dQ aJ aB bW bZ aR aE bI aW bU fJ dO bM bQ bO jY oX sH _ hp) q_874 q_877 q_875 q_876 aBL h_X10_handOf rfl rfl ⟨lbz rfl, lbz rfl⟩ rfl rfl hl.1 rfl (lv_room (lbz rfl)) aSe.2.2.2.2.2.2.2.2.2.2.1 ⟨Nat.zero_le _, Nat.zero_le _⟩) (fun r_7 u H locs hp hP hD hS => ?_)
    have hPD := PDm (ws' := (aGe cI cC cZ cB cJ a_m nY sJ eG iY lY jR jW jZ jO oQ bR aY jQ gY iJ mQ lJ jA bG mK jB mW mJ eJ dG bT aG jC aSZ bY jD mLn oF rP dQ aJ aB bW bZ aR aE bI aW bU fJ dO bM bQ bO jY oX qG m_x gR pW qR nG oO pJ m_row_6 sH)) hP hD 11 rfl rfl rfl
    have hP := hPD.1
    have hD := hPD.2
    refine lv_iconst (v := (-1)) hx hb aSe.2.2.2.2.2.2.2.2.2.2.2.1 aEJ ?_
    refine lv_ixor hx hb aSe.2.2.2.2.2.2.2.2.2.2.2.2.1 ?_
    refine lv_iand hx hb aSe.2.2.2.2.2.2.2.2.2.2.2.2.2.1 ?_
    refine lv_topi (fun v_8 ev_8 => ?_)
    have hp := hp v_8 ev_8
    have hm := mgk (wc := (aD0 cI cC cZ cB cJ a_m nY sJ eG iY lY jR jW jZ jO oQ bR aY jQ gY iJ mQ lJ jA bG mK jB mW mJ eJ dG bT aG jC aSZ bY jD mLn oF rP dQ aJ aB bW bZ aR aE bI aW bU fJ dO bM bQ bO jY oX m_row_6)) hP mk_258 11 rfl rfl rfl
    refine aBn hP hD hS hA (yS mk_258) (aAi mk_258) hm.1 hm.2 (aAk _) (zW _) (zF (As := [.int v_8]) (rest := []) C0 hP hD hS (yS mk_258) hm.1 (aAl _) 0 10 rfl rfl (aGE l dC dI cI cC cZ cB cJ a_m nY sJ eG iY lY jR jW jZ jO oQ bR aY jQ gY iJ mQ lJ jA bG mK jB mW mJ eJ dG H.size v_8 bT aG jC aSZ bY jD mLn oF rP dQ aJ aB bW bZ aR aE bI aW bU fJ dO bM bQ bO jY oX m_row_6 _ hp) q_849 q_852 q_850 q_851 aBL aGF rfl rfl ⟨lbz rfl, lbz rfl⟩ rfl rfl hl.1 rfl (lv_room (lbz rfl)) aSe.2.2.2.2.2.2.2.2.2.2.2.2.2.2.1 ⟨Nat.zero_le _, Nat.zero_le _⟩) (fun u H locs hp hP hD hS => ?_)
    obtain ⟨m_rowMany_9, m_row_10⟩ := u
    have hPD := PDm (ws' := (aGe cI cC cZ cB cJ a_m nY sJ eG iY lY jR jW jZ jO oQ bR aY jQ gY iJ mQ lJ jA bG mK jB mW mJ eJ dG bT aG jC m_rowMany_9 bY jD mLn oF rP dQ aJ aB bW bZ aR aE bI aW bU fJ dO bM bQ bO jY oX qG m_x gR pW qR nG oO pJ m_row_10 sH)) hP hD 11 rfl rfl rfl
    have hP := hPD.1
    have hD := hPD.2
    refine lv_aload_n hx hb aSe.2.2.2.2.2.2.2.2.2.2.2.2.2.2.2 rfl (lv_at hl 0 rfl) ?_
    refine lv_iload_n hx hb eX10_birds_115.1 rfl (lv_at hl 2 rfl) ?_
    have hm := mgk (wc := (aYD cI cC cZ cB cJ a_m nY sJ eG iY lY jR jW jZ jO oQ bR aY jQ gY iJ mQ lJ jA bG mK jB mW mJ eJ dG bT aG jC m_rowMany_9 bY jD mLn oF rP dQ aJ aB bW bZ aR aE bI aW bU fJ dO bM bQ bO jY oX qG pW sH)) hP mk_260 11 rfl rfl rfl
    refine yW hP hD hS hA (yS mk_260) (aAi mk_260) hm.1 hm.2 (aAk _) (zW _) (zF (As := [.int x2]) (rest := []) C0 hP hD hS (yS mk_260) hm.1 (aAl _) 0 10 rfl rfl (c_X10_leftBy l dC dI cI cC cZ cB cJ a_m nY sJ eG iY lY jR jW jZ jO oQ bR aY jQ gY iJ mQ lJ jA bG mK jB mW mJ eJ dG H.size x2 bT aG jC m_rowMany_9 bY jD mLn oF rP dQ aJ aB bW bZ aR aE bI aW bU fJ dO bM bQ bO jY oX qG pW sH _ hp) q_906 q_909 q_907 q_908 aBL h_X10_leftBy rfl rfl ⟨lbz rfl, lbz rfl⟩ rfl rfl hl.1 rfl (lv_room (lbz rfl)) eX10_birds_115.2.1 ⟨Nat.zero_le _, Nat.zero_le _⟩) (fun r_11 u H locs hp hP hD hS => ?_)
    have hPD := PDm (ws' := (aGe cI cC cZ cB cJ a_m nY sJ eG iY lY jR jW jZ jO oQ bR aY jQ gY iJ mQ lJ jA bG mK jB mW mJ eJ dG bT aG jC m_rowMany_9 bY jD mLn oF rP dQ aJ aB bW bZ aR aE bI aW bU fJ dO bM bQ bO jY oX qG m_x gR pW qR nG oO pJ m_row_10 sH)) hP hD 11 rfl rfl rfl
    have hP := hPD.1
    have hD := hPD.2
    exact W.iret (v := r_11) hx hb hr (fun t ht hW => ⟨⟨r_11, (m_rowMany_9, bY, dO, m_row_10, sH), rfl, hp, by rw [ht]; exact hP, va_K.moved hW.alike hK, hD⟩, hS.F ht⟩) hS.2.2 eX10_birds_115.2.2
  · have hp := hp.2 hc
    refine lv_iload_n hx hb aSc.2.2.2.2.1 rfl (lv_at hl 3 rfl) ?_
    have hm := mgk (wc := (aBh cI cC cZ cB cJ)) hP mk_261 11 rfl rfl rfl
    refine yW hP hD hS hA (yS mk_261) (aAi mk_261) hm.1 hm.2 (aAk _) (zW _) (aDn (As := [.int x3]) (rest := []) C0 hP hD hS (yS mk_261) hm.1 (aAl _) (aBv l dC dI cI cC cZ cB cJ H.size x3 _ hp) q_320 q_803 q_322 q_321 aBw rfl rfl ⟨lbz rfl, lbz rfl⟩ rfl rfl hl.1 rfl (lv_room (lbz rfl)) aSc.2.2.2.2.2.1 ⟨Nat.zero_le _, Nat.zero_le _⟩) (fun r_12 u H locs hp hP hD hS => ?_)
    have hPD := PDm (ws' := (aGe cI cC cZ cB cJ a_m nY sJ eG iY lY jR jW jZ jO oQ bR aY jQ gY iJ mQ lJ jA bG mK jB mW mJ eJ dG bT aG jC bL bY jD mLn oF rP dQ aJ aB bW bZ aR aE bI aW bU fJ dO bM bQ bO jY oX qG m_x gR pW qR nG oO pJ sW sH)) hP hD 11 rfl rfl rfl
    have hP := hPD.1
    have hD := hPD.2
    refine lv_istore (lv' := [(4, .int r_12), (0, .ref a_m), (1, .int x1), (2, .int x2), (3, .int x3)]) hx hb aSc.2.2.2.2.2.2.1 hl (by decide) rfl (fun ls hl => ?_)
    refine lv_iload hx hb aSc.2.2.2.2.2.2.2.1 (lv_at hl 0 rfl) ?_
    refine lv_iload_n hx hb aSc.2.2.2.2.2.2.2.2.1 rfl (lv_at hl 2 rfl) ?_
    refine lv_icmp_le (tgt := 48) hx hb aSc.2.2.2.2.2.2.2.2.2.1 (by decide) (fun hc => ?_) (fun hc => ?_)
    · have hp := hp.1 hc
      refine lv_aload_n hx hb aSc.2.2.2.2.2.2.2.2.2.2.2.1 rfl (lv_at hl 1 rfl) ?_
      refine lv_iload_n hx hb aSc.2.2.2.2.2.2.2.2.2.2.2.2.1 rfl (lv_at hl 4 rfl) ?_
      have hm := mgk (wc := (aYD cI cC cZ cB cJ a_m nY sJ eG iY lY jR jW jZ jO oQ bR aY jQ gY iJ mQ lJ jA bG mK jB mW mJ eJ dG bT aG jC bL bY jD mLn oF rP dQ aJ aB bW bZ aR aE bI aW bU fJ dO bM bQ bO jY oX qG pW sH)) hP mk_260 11 rfl rfl rfl
      refine yW hP hD hS hA (yS mk_260) (aAi mk_260) hm.1 hm.2 (aAk _) (zW _) (zF (As := [.int x3]) (rest := []) C0 hP hD hS (yS mk_260) hm.1 (aAl _) 0 10 rfl rfl (c_X10_leftBy l dC dI cI cC cZ cB cJ a_m nY sJ eG iY lY jR jW jZ jO oQ bR aY jQ gY iJ mQ lJ jA bG mK jB mW mJ eJ dG H.size x3 bT aG jC bL bY jD mLn oF rP dQ aJ aB bW bZ aR aE bI aW bU fJ dO bM bQ bO jY oX qG pW sH _ hp) q_906 q_909 q_907 q_908 aBL h_X10_leftBy rfl rfl ⟨lbz rfl, lbz rfl⟩ rfl rfl hl.1 rfl (lv_room (lbz rfl)) aSc.2.2.2.2.2.2.2.2.2.2.2.2.2.1 ⟨Nat.zero_le _, Nat.zero_le _⟩) (fun r_13 u H locs hp hP hD hS => ?_)
      have hPD := PDm (ws' := (aGe cI cC cZ cB cJ a_m nY sJ eG iY lY jR jW jZ jO oQ bR aY jQ gY iJ mQ lJ jA bG mK jB mW mJ eJ dG bT aG jC bL bY jD mLn oF rP dQ aJ aB bW bZ aR aE bI aW bU fJ dO bM bQ bO jY oX qG m_x gR pW qR nG oO pJ sW sH)) hP hD 11 rfl rfl rfl
      have hP := hPD.1
      have hD := hPD.2
      refine lv_aload_n hx hb aSc.2.2.2.2.2.2.2.2.2.2.2.2.2.2.1 rfl (lv_at hl 1 rfl) ?_
      refine lv_iload_n hx hb aSc.2.2.2.2.2.2.2.2.2.2.2.2.2.2.2 rfl (lv_at hl 3 rfl) ?_
      have hm := mgk (wc := (aYD cI cC cZ cB cJ a_m nY sJ eG iY lY jR jW jZ jO oQ bR aY jQ gY iJ mQ lJ jA bG mK jB mW mJ eJ dG bT aG jC bL bY jD mLn oF rP dQ aJ aB bW bZ aR aE bI aW bU fJ dO bM bQ bO jY oX qG pW sH)) hP mk_260 11 rfl rfl rfl
      refine yW hP hD hS hA (yS mk_260) (aAi mk_260) hm.1 hm.2 (aAk _) (zW _) (zF (As := [.int x2]) (rest := [.int r_13]) C0 hP hD hS (yS mk_260) hm.1 (aAl _) 0 10 rfl rfl (c_X10_leftBy l dC dI cI cC cZ cB cJ a_m nY sJ eG iY lY jR jW jZ jO oQ bR aY jQ gY iJ mQ lJ jA bG mK jB mW mJ eJ dG H.size x2 bT aG jC bL bY jD mLn oF rP dQ aJ aB bW bZ aR aE bI aW bU fJ dO bM bQ bO jY oX qG pW sH _ hp) q_906 q_909 q_907 q_908 aBL h_X10_leftBy rfl rfl ⟨lbz rfl, lbz rfl⟩ rfl rfl hl.1 rfl (lv_room (lbz rfl)) aSd.1 ⟨Nat.zero_le _, Nat.zero_le _⟩) (fun r_14 u H locs hp hP hD hS => ?_)
      have hPD := PDm (ws' := (aGe cI cC cZ cB cJ a_m nY sJ eG iY lY jR jW jZ jO oQ bR aY jQ gY iJ mQ lJ jA bG mK jB mW mJ eJ dG bT aG jC bL bY jD mLn oF rP dQ aJ aB bW bZ aR aE bI aW bU fJ dO bM bQ bO jY oX qG m_x gR pW qR nG oO pJ sW sH)) hP hD 11 rfl rfl rfl
      have hP := hPD.1
      have hD := hPD.2
      refine lv_isub hx hb aSd.2.1 ?_
      refine lv_topi (fun aHe ev_15 => ?_)
      have hp := hp aHe ev_15
      refine lv_istore (lv' := [(5, .int aHe), (4, .int r_12), (0, .ref a_m), (1, .int x1), (2, .int x2), (3, .int x3)]) hx hb aSd.2.2.1 hl (by decide) rfl (fun ls hl => ?_)
      refine lv_iload hx hb aSd.2.2.2.1 (lv_at hl 0 rfl) ?_
      refine lv_if_lt (tgt := 80) hx hb aSd.2.2.2.2.1 (by decide) (fun hc => ?_) (fun hc => ?_)
      · have hp := hp.1 hc
        exact ks_X10_birds_80 C0 hKn x1 x3 bL bY dO sW sH H locs ls hp hP hD hS (lv_sub hl [2, 3, 5] rfl)
      · have hp := hp.2 hc
        refine lv_iload hx hb aSd.2.2.2.2.2.1 (lv_at hl 0 rfl) ?_
        refine lv_if_ne (tgt := 82) hx hb aSd.2.2.2.2.2.2.1 (by decide) (fun hc => ?_) (fun hc => ?_)
        · have hp := hp.1 hc
          exact ks_X10_birds_82 C0 hKn x1 x2 x3 bL bY dO sW sH H locs ls hp hP hD hS (lv_sub hl [2, 3, 4, 5] rfl)
        · have hp := hp.2 hc
          refine lv_iload hx hb aSd.2.2.2.2.2.2.2.1 (lv_at hl 1 rfl) ?_
          refine lv_iload_n hx hb aSd.2.2.2.2.2.2.2.2.1 rfl (lv_at hl 4 rfl) ?_
          have hm := mgk (wc := (aBh cI cC cZ cB cJ)) hP mk_261 11 rfl rfl rfl
          refine yW hP hD hS hA (yS mk_261) (aAi mk_261) hm.1 hm.2 (aAk _) (zW _) (aDn (As := [.int x2]) (rest := [.int r_12]) C0 hP hD hS (yS mk_261) hm.1 (aAl _) (aBv l dC dI cI cC cZ cB cJ H.size x2 _ hp) q_320 q_803 q_322 q_321 aBw rfl rfl ⟨lbz rfl, lbz rfl⟩ rfl rfl hl.1 rfl (lv_room (lbz rfl)) aSd.2.2.2.2.2.2.2.2.2.1 ⟨Nat.zero_le _, Nat.zero_le _⟩) (fun r_17 u H locs hp hP hD hS => ?_)
          have hPD := PDm (ws' := (aGe cI cC cZ cB cJ a_m nY sJ eG iY lY jR jW jZ jO oQ bR aY jQ gY iJ mQ lJ jA bG mK jB mW mJ eJ dG bT aG jC bL bY jD mLn oF rP dQ aJ aB bW bZ aR aE bI aW bU fJ dO bM bQ bO jY oX qG m_x gR pW qR nG oO pJ sW sH)) hP hD 11 rfl rfl rfl
          have hP := hPD.1
          have hD := hPD.2
          refine lv_icmp_ge (tgt := 82) hx hb aSd.2.2.2.2.2.2.2.2.2.2.1 (by decide) (fun hc => ?_) (fun hc => ?_)
          · have hp := hp.1 hc
            exact ks_X10_birds_82 C0 hKn x1 x2 x3 bL bY dO sW sH H locs ls hp hP hD hS (lv_sub hl [2, 3, 4, 5] rfl)
          · have hp := hp.2 hc
            exact ks_X10_birds_80 C0 hKn x1 x3 bL bY dO sW sH H locs ls hp hP hD hS (lv_sub hl [2, 3, 5] rfl)
    · have hp := hp.2 hc
      refine lv_goto (tgt := 82) hx hb aSc.2.2.2.2.2.2.2.2.2.2.1 (by decide) ?_
      exact ks_X10_birds_82 C0 hKn x1 x2 x3 bL bY dO sW sH H locs ls hp hP hD hS (lv_sub hl [1, 2, 3, 4] rfl)
set_option maxHeartbeats 4000000 in
set_option maxRecDepth 100000 in
theorem kb_X10_birds_25 (C0 : gc aDH (some .int) 6 zX (dC, dI) (tyl cI cC cZ cB cJ) A p s m args meth c) : ∀ (n : Nat), ∀ (x1 x2 x3 bL bY dO : Int32) (sW sH : Nat -> Int32) (H : Heap) (locs : List Loc) (ls : Array Slot), (wb_X10_birds_25 post bT aG qG m_x gR pW qR nG oO pJ n) x1 x2 x3 bL bY dO sW sH -> va_P (dC, dI) classes (aGe cI cC cZ cB cJ a_m nY sJ eG iY lY jR jW jZ jO oQ bR aY jQ gY iJ mQ lJ jA bG mK jB mW mJ eJ dG bT aG jC bL bY jD mLn oF rP dQ aJ aB bW bZ aR aE bI aW bU fJ dO bM bQ bO jY oX qG m_x gR pW qR nG oO pJ sW sH) H -> va_D A (aGe cI cC cZ cB cJ a_m nY sJ eG iY lY jR jW jZ jO oQ bR aY jQ gY iJ mQ lJ jA bG mK jB mW mJ eJ dG bT aG jC bL bY jD mLn oF rP dQ aJ aB bW bZ aR aE bI aW bU fJ dO bM bQ bO jY oX qG m_x gR pW qR nG oO pJ sW sH) -> va_S A s.heap H locs -> lv_has ls 6 [(0, .ref a_m), (1, .int x1), (2, .int x2), (3, .int x3)] -> W p l e rm_X10_birds s m args below meth c H locs 0 0 (MQ below (q_X10_birds dC dI cI cC cZ cB cJ A a_m nY sJ eG iY lY jR jW jZ jO oQ bR aY jQ gY iJ mQ lJ jA bG mK jB mW mJ eJ dG bT aG jC jD mLn oF rP dQ aJ aB bW bZ aR aE bI aW bU fJ bM bQ bO jY oX qG m_x gR pW qR nG oO pJ post) args s 0 0 A) (F0 m 25 ls []) := by
  intro n
  induction n with
  | zero =>
    intro x1 x2 x3 bL bY dO sW sH H locs ls hp
    exact False.elim hp
  | succ n ih =>
    intro x1 x2 x3 bL bY dO sW sH H locs ls hp
    exact ks_X10_birds_25 C0 ih x1 x2 x3 bL bY dO sW sH H locs ls hp
end S_X10_birds
def wp_X10_birds (post : Int32 -> Int32 -> Int32 -> Int32 -> (Nat -> Int32) -> (Nat -> Int32) -> Prop) (p0 bT aG bL bY dO : Int32) (qG m_x gR pW qR nG oO pJ sW sH : Nat -> Int32) : Prop := aJY (fun r_1 => (¬ r_1 = 0 -> aJm (fun aDd aH4 => ∃ n : Nat, wb_X10_birds_25 post bT aG qG m_x gR pW qR nG oO pJ n p0 0 1 bL 0 aDd sW aH4) bT aG dO qG m_x gR qR nG oO pJ sH) /\ (r_1 = 0 -> post (-1) bL 0 dO sW sH)) p0 0 8
set_option maxHeartbeats 4000000 in
set_option maxRecDepth 100000 in
theorem c_X10_birds (l : Launch) (dC : Nat -> ClassId) (dI : Nat -> Nat -> Nat) (cI cC cZ cB cJ : ClassId) (a_m nY sJ eG iY lY jR jW jZ jO oQ bR aY jQ gY iJ mQ lJ jA bG mK jB mW mJ eJ dG sz : Nat) (p0 bT aG jC bL bY : Int32) (jD : Nat) (mLn oF rP dQ aJ aB bW bZ aR aE bI aW bU fJ dO bM bQ bO jY oX : Int32) (qG m_x gR pW qR nG oO pJ sW sH : Nat -> Int32) (post : Int32 -> Int32 -> Int32 -> Int32 -> (Nat -> Int32) -> (Nat -> Int32) -> Prop) (hw : wp_X10_birds post p0 bT aG bL bY dO qG m_x gR pW qR nG oO pJ sW sH) : Met l yX10_birds (gw yX10_birds aDH 6 (some .int)) rm_X10_birds (va_Pc [.ref a_m, .int p0] (gPre (dC, dI) (tyl cI cC cZ cB cJ) (aGe cI cC cZ cB cJ a_m nY sJ eG iY lY jR jW jZ jO oQ bR aY jQ gY iJ mQ lJ jA bG mK jB mW mJ eJ dG bT aG jC bL bY jD mLn oF rP dQ aJ aB bW bZ aR aE bI aW bU fJ dO bM bQ bO jY oX qG m_x gR pW qR nG oO pJ sW sH) sz)) (q_X10_birds dC dI cI cC cZ cB cJ (va_A (aGe cI cC cZ cB cJ a_m nY sJ eG iY lY jR jW jZ jO oQ bR aY jQ gY iJ mQ lJ jA bG mK jB mW mJ eJ dG bT aG jC bL bY jD mLn oF rP dQ aJ aB bW bZ aR aE bI aW bU fJ dO bM bQ bO jY oX qG m_x gR pW qR nG oO pJ sW sH) sz) a_m nY sJ eG iY lY jR jW jZ jO oQ bR aY jQ gY iJ mQ lJ jA bG mK jB mW mJ eJ dG bT aG jC jD mLn oF rP dQ aJ aB bW bZ aR aE bI aW bU fJ bM bQ bO jY oX qG m_x gR pW qR nG oO pJ post) 0 0 (va_A (aGe cI cC cZ cB cJ a_m nY sJ eG iY lY jR jW jZ jO oQ bR aY jQ gY iJ mQ lJ jA bG mK jB mW mJ eJ dG bT aG jC bL bY jD mLn oF rP dQ aJ aB bW bZ aR aE bI aW bU fJ dO bM bQ bO jY oX qG m_x gR pW qR nG oO pJ sW sH) sz) := by
  refine aBJ (own := zX) (dC, dI) (tyl cI cC cZ cB cJ) (aGe cI cC cZ cB cJ a_m nY sJ eG iY lY jR jW jZ jO oQ bR aY jQ gY iJ mQ lJ jA bG mK jB mW mJ eJ dG bT aG jC bL bY jD mLn oF rP dQ aJ aB bW bZ aR aE bI aW bU fJ dO bM bQ bO jY oX qG m_x gR pW qR nG oO pJ sW sH) sz [.ref a_m, .int p0] (fun A => q_X10_birds dC dI cI cC cZ cB cJ A a_m nY sJ eG iY lY jR jW jZ jO oQ bR aY jQ gY iJ mQ lJ jA bG mK jB mW mJ eJ dG bT aG jC jD mLn oF rP dQ aJ aB bW bZ aR aE bI aW bU fJ bM bQ bO jY oX qG m_x gR pW qR nG oO pJ post) aFY rfl (lbz rfl) ?_
  intro p e s m args below meth c A H locs ls C0 hP hD hS hl
  have hl : lv_has ls 6 [(0, .ref a_m), (1, .int p0)] := hl
  obtain ⟨hx, hb, hr, hml, hown, hts, hlocks, hA, hK, hN, tL, tM, hZL, hTL, hZM, hTM, hZX⟩ := id C0
  have hp := hw
  unfold wp_X10_birds at hp
  refine lv_aload_n hx hb aVq.1 rfl (lv_at hl 0 rfl) ?_
  refine lv_iconst (v := 0) hx hb aVq.2.1 aCi ?_
  refine va_put (D := (dC, dI)) (ci := 10) (v := .int 0) (ty := .int) (C := zX) (T := aBe) (N := 51) hx hb hts aAt aD2 aAa aEC hown hK hP hD hS 0 rfl rfl 14 (lbz rfl) (hts _ q_638) (fun _ h9 => h9) rfl (aAa 14 (lbz rfl)) rfl rfl (lbz rfl) aVq.2.2.1 (fun H locs hP hD hS => ?_)
  have hPD := PDw (ws' := (aGe cI cC cZ cB cJ a_m nY sJ eG iY lY jR jW jZ jO oQ bR aY jQ gY iJ mQ lJ jA bG mK jB mW mJ eJ dG bT aG jC bL 0 jD mLn oF rP dQ aJ aB bW bZ aR aE bI aW bU fJ dO bM bQ bO jY oX qG m_x gR pW qR nG oO pJ sW sH)) hP hD rfl
  have hP := hPD.1
  have hD := hPD.2
  refine lv_iload_n hx hb aVq.2.2.2.1 rfl (lv_at hl 1 rfl) ?_
  refine lv_iconst (v := 0) hx hb aVq.2.2.2.2.1 aCi ?_
  refine lv_bipush (v := 8) hx hb aVq.2.2.2.2.2.1 bp_8 ?_
  have hm := mgk (wc := (aKW cI cC cZ cB cJ)) hP mk_261 11 rfl rfl rfl
  refine yW hP hD hS hA (yS mk_261) (aAi mk_261) hm.1 hm.2 (aAk _) (zW _) (aDn (As := [.int p0, .int 0, .int 8]) (rest := []) C0 hP hD hS (yS mk_261) hm.1 (aAl _) (aRu l dC dI cI cC cZ cB cJ H.size p0 0 8 _ hp) q_641 q_644 q_643 aBL aRx rfl rfl ⟨lbz rfl, lbz rfl⟩ rfl rfl hl.1 rfl (lv_room (lbz rfl)) aVq.2.2.2.2.2.2.1 ⟨Nat.zero_le _, Nat.zero_le _⟩) (fun r_1 u H locs hp hP hD hS => ?_)
  have hPD := PDm (ws' := (aGe cI cC cZ cB cJ a_m nY sJ eG iY lY jR jW jZ jO oQ bR aY jQ gY iJ mQ lJ jA bG mK jB mW mJ eJ dG bT aG jC bL 0 jD mLn oF rP dQ aJ aB bW bZ aR aE bI aW bU fJ dO bM bQ bO jY oX qG m_x gR pW qR nG oO pJ sW sH)) hP hD 11 rfl rfl rfl
  have hP := hPD.1
  have hD := hPD.2
  refine lv_if_ne (tgt := 17) hx hb aVq.2.2.2.2.2.2.2.1 (by decide) (fun hc => ?_) (fun hc => ?_)
  · have hp := hp.1 hc
    refine lv_aload_n hx hb aVq.2.2.2.2.2.2.2.2.2.2.1 rfl (lv_at hl 0 rfl) ?_
    have hm := mgk (wc := (aIe cI cC cZ cB cJ a_m nY sJ eG iY lY jR jW jZ jO oQ bR aY jQ gY iJ mQ lJ jA bG mK jB mW mJ eJ dG bT aG jC bL 0 jD mLn oF rP dQ aJ aB bW bZ aR aE bI aW bU fJ dO bM bQ bO jY oX qG m_x gR qR nG oO pJ sH)) hP mk_262 11 rfl rfl rfl
    refine aBn hP hD hS hA (yS mk_262) (aAi mk_262) hm.1 hm.2 (aAk _) (zW _) (zF (As := []) (rest := []) C0 hP hD hS (yS mk_262) hm.1 (aAl _) 0 10 rfl rfl (aPr l dC dI cI cC cZ cB cJ a_m nY sJ eG iY lY jR jW jZ jO oQ bR aY jQ gY iJ mQ lJ jA bG mK jB mW mJ eJ dG H.size bT aG jC bL 0 jD mLn oF rP dQ aJ aB bW bZ aR aE bI aW bU fJ dO bM bQ bO jY oX qG m_x gR qR nG oO pJ sH _ hp) q_883 q_886 q_884 q_885 aBL aQ3 rfl rfl ⟨lbz rfl, lbz rfl⟩ rfl rfl hl.1 rfl (lv_room (lbz rfl)) aVq.2.2.2.2.2.2.2.2.2.2.2.1 ⟨Nat.zero_le _, Nat.zero_le _⟩) (fun u H locs hp hP hD hS => ?_)
    obtain ⟨aDd, aH4⟩ := u
    have hPD := PDm (ws' := (aGe cI cC cZ cB cJ a_m nY sJ eG iY lY jR jW jZ jO oQ bR aY jQ gY iJ mQ lJ jA bG mK jB mW mJ eJ dG bT aG jC bL 0 jD mLn oF rP dQ aJ aB bW bZ aR aE bI aW bU fJ aDd bM bQ bO jY oX qG m_x gR pW qR nG oO pJ sW aH4)) hP hD 11 rfl rfl rfl
    have hP := hPD.1
    have hD := hPD.2
    refine lv_iconst (v := 0) hx hb aVq.2.2.2.2.2.2.2.2.2.2.2.2.1 aCi ?_
    refine lv_istore_n (lv' := [(2, .int 0), (0, .ref a_m), (1, .int p0)]) hx hb aVq.2.2.2.2.2.2.2.2.2.2.2.2.2.1 rfl hl (by decide) rfl (fun ls hl => ?_)
    refine lv_iconst (v := 1) hx hb aVq.2.2.2.2.2.2.2.2.2.2.2.2.2.2.1 aDx ?_
    refine lv_istore_n (lv' := [(3, .int 1), (2, .int 0), (0, .ref a_m), (1, .int p0)]) hx hb aVq.2.2.2.2.2.2.2.2.2.2.2.2.2.2.2 rfl hl (by decide) rfl (fun ls hl => ?_)
    obtain ⟨n9, hp⟩ := hp
    exact kb_X10_birds_25 C0 n9 p0 0 1 bL 0 aDd sW aH4 H locs ls hp hP hD hS (lv_sub hl [2, 3, 1, 0] rfl)
  · have hp := hp.2 hc
    refine lv_iconst (v := (-1)) hx hb aVq.2.2.2.2.2.2.2.2.1 aEJ ?_
    exact W.iret (v := (-1)) hx hb hr (fun t ht hW => ⟨⟨(-1), (bL, 0, dO, sW, sH), rfl, hp, by rw [ht]; exact hP, va_K.moved hW.alike hK, hD⟩, hS.F ht⟩) hS.2.2 aVq.2.2.2.2.2.2.2.2.2.1
