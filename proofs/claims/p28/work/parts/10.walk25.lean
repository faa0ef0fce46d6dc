abbrev wd_X10_need (cI cC cZ cB cJ : ClassId) (a_m nY sJ eG iY lY jR jW jZ jO oQ bR aY jQ gY iJ mQ lJ jA bG mK jB mW mJ eJ dG : Nat) (bT aG jC bL bY : Int32) (jD : Nat) (mLn oF rP dQ aJ aB bW bZ aR aE bI aW bU fJ dO bM bQ bO jY oX : Int32) (qO qQ : Nat -> Int32) : va_W := [(a_m, .inr (10, [.ref nY, .int bT, .ref sJ, .ref eG, .ref iY, .ref lY, .int aG, .ref jR, .ref jW, .ref jZ, .ref jO, .int jC, .ref oQ, .int bL, .int bY, rdv jO jQ jD, .int mLn, .int oF, .int rP, .int dQ, .ref bR, .ref aY, .int aJ, .int aB, .ref jQ, .int bW, .int bZ, .int aR, .int aE, .int bI, .int aW, .ref gY, .int bU, .ref iJ, .ref mQ, .int fJ, .ref lJ, .int dO, .ref jA, .ref bG, .int bM, .int bQ, .int bO, .ref mK, .ref jB, .ref mW, .int jY, .int oX, .ref mJ, .ref eJ, .ref dG])), (jO, .inl (cB, 80, .inl qO)), (jQ, .inl (cB, 40, .inl qQ))]
abbrev q_X10_need (dC : Nat -> ClassId) (dI : Nat -> Nat -> Nat) (cI cC cZ cB cJ : ClassId) (A : Nat -> Prop) (a_m nY sJ eG iY lY jR jW jZ jO oQ bR aY jQ gY iJ mQ lJ jA bG mK jB mW mJ eJ dG : Nat) (bT aG jC bL bY : Int32) (jD : Nat) (mLn oF aJ aB bW bZ aR aE bI aW bU fJ dO bM bQ bO jY oX : Int32) (qO qQ : Nat -> Int32) (post : Int32 -> Int32 -> Prop) : Array Value -> State -> Outcome -> State -> Prop := va_Qv (fun (u : Int32 × Int32) => post u.1 u.2) (fun u t => gB (dC, dI) (tyl cI cC cZ cB cJ) A (wd_X10_need cI cC cZ cB cJ a_m nY sJ eG iY lY jR jW jZ jO oQ bR aY jQ gY iJ mQ lJ jA bG mK jB mW mJ eJ dG bT aG jC bL bY jD mLn oF u.1 u.2 aJ aB bW bZ aR aE bI aW bU fJ dO bM bQ bO jY oX qO qQ) t) A
abbrev rm_X10_need : Room := { frames := 2, cells := 0, slots := 0, locals := 41 }
def wp_X10_need (post : Int32 -> Int32 -> Prop) (p0 : Int32) (jD : Nat) (mLn oF rP dQ : Int32) (qO qQ : Nat -> Int32) : Prop := aPM (fun r_1 aQ4 => (¬ r_1 = 0 -> post aQ4 dQ) /\ (r_1 = 0 -> aSQ (fun aHp => post aQ4 aHp) aQ4 dQ)) p0 jD mLn oF rP dQ qO qQ
set_option maxHeartbeats 4000000 in
set_option maxRecDepth 100000 in
theorem c_X10_need (l : Launch) (dC : Nat -> ClassId) (dI : Nat -> Nat -> Nat) (cI cC cZ cB cJ : ClassId) (a_m nY sJ eG iY lY jR jW jZ jO oQ bR aY jQ gY iJ mQ lJ jA bG mK jB mW mJ eJ dG sz : Nat) (p0 bT aG jC bL bY : Int32) (jD : Nat) (mLn oF rP dQ aJ aB bW bZ aR aE bI aW bU fJ dO bM bQ bO jY oX : Int32) (qO qQ : Nat -> Int32) (post : Int32 -> Int32 -> Prop) (hw : wp_X10_need post p0 jD mLn oF rP dQ qO qQ) : Met l yX10_need (gw yX10_need cX10_need 2 none) rm_X10_need (va_Pc [.ref a_m, .int p0] (gPre (dC, dI) (tyl cI cC cZ cB cJ) (wd_X10_need cI cC cZ cB cJ a_m nY sJ eG iY lY jR jW jZ jO oQ bR aY jQ gY iJ mQ lJ jA bG mK jB mW mJ eJ dG bT aG jC bL bY jD mLn oF rP dQ aJ aB bW bZ aR aE bI aW bU fJ dO bM bQ bO jY oX qO qQ) sz)) (q_X10_need dC dI cI cC cZ cB cJ (va_A (wd_X10_need cI cC cZ cB cJ a_m nY sJ eG iY lY jR jW jZ jO oQ bR aY jQ gY iJ mQ lJ jA bG mK jB mW mJ eJ dG bT aG jC bL bY jD mLn oF rP dQ aJ aB bW bZ aR aE bI aW bU fJ dO bM bQ bO jY oX qO qQ) sz) a_m nY sJ eG iY lY jR jW jZ jO oQ bR aY jQ gY iJ mQ lJ jA bG mK jB mW mJ eJ dG bT aG jC bL bY jD mLn oF aJ aB bW bZ aR aE bI aW bU fJ dO bM bQ bO jY oX qO qQ post) 0 0 (va_A (wd_X10_need cI cC cZ cB cJ a_m nY sJ eG iY lY jR jW jZ jO oQ bR aY jQ gY iJ mQ lJ jA bG mK jB mW mJ eJ dG bT aG jC bL bY jD mLn oF rP dQ aJ aB bW bZ aR aE bI aW bU fJ dO bM bQ bO jY oX qO qQ) sz) := by
  refine aBJ (own := zX) (dC, dI) (tyl cI cC cZ cB cJ) (wd_X10_need cI cC cZ cB cJ a_m nY sJ eG iY lY jR jW jZ jO oQ bR aY jQ gY iJ mQ lJ jA bG mK jB mW mJ eJ dG bT aG jC bL bY jD mLn oF rP dQ aJ aB bW bZ aR aE bI aW bU fJ dO bM bQ bO jY oX qO qQ) sz [.ref a_m, .int p0] (fun A => q_X10_need dC dI cI cC cZ cB cJ A a_m nY sJ eG iY lY jR jW jZ jO oQ bR aY jQ gY iJ mQ lJ jA bG mK jB mW mJ eJ dG bT aG jC bL bY jD mLn oF aJ aB bW bZ aR aE bI aW bU fJ dO bM bQ bO jY oX qO qQ post) aFY rfl (lbz rfl) ?_
  intro p e s m args below meth c A H locs ls C0 hP hD hS hl
  have hl : lv_has ls 2 [(0, .ref a_m), (1, .int p0)] := hl
  obtain ⟨hx, hb, hr, hml, hown, hts, hlocks, hA, hK, hN, tL, tM, hZL, hTL, hZM, hTM, hZX⟩ := id C0
  have hp := hw
  unfold wp_X10_need at hp
  refine lv_aload_n hx hb eX10_need_0.1 rfl (lv_at hl 0 rfl) ?_
  refine lv_iload_n hx hb eX10_need_0.2.1 rfl (lv_at hl 1 rfl) ?_
  have hm := mgk (wc := (aOh cI cC cZ cB cJ a_m nY sJ eG iY lY jR jW jZ jO oQ bR aY jQ gY iJ mQ lJ jA bG mK jB mW mJ eJ dG bT aG jC bL bY jD mLn oF rP dQ aJ aB bW bZ aR aE bI aW bU fJ dO bM bQ bO jY oX qO qQ)) hP mk_85 3 rfl rfl rfl
  refine yW hP hD hS hA (yS mk_85) (aAi mk_85) hm.1 hm.2 (aAk _) (zW _) (zF (As := [.int p0]) (rest := []) C0 hP hD hS (yS mk_85) hm.1 (aAl _) 0 10 rfl rfl (c_X10_passes l dC dI cI cC cZ cB cJ a_m nY sJ eG iY lY jR jW jZ jO oQ bR aY jQ gY iJ mQ lJ jA bG mK jB mW mJ eJ dG H.size p0 bT aG jC bL bY jD mLn oF rP dQ aJ aB bW bZ aR aE bI aW bU fJ dO bM bQ bO jY oX qO qQ _ hp) q_662 q_665 q_663 q_664 aBL h_X10_passes rfl rfl ⟨lbz rfl, lbz rfl⟩ rfl rfl hl.1 rfl (lv_room (lbz rfl)) eX10_need_0.2.2.1 ⟨Nat.zero_le _, Nat.zero_le _⟩) (fun r_1 u H locs hp hP hD hS => ?_)
  obtain ⟨aQ4, rfl⟩ : ∃ z, z = u := ⟨_, rfl⟩
  have hPD := PDm (ws' := (wd_X10_need cI cC cZ cB cJ a_m nY sJ eG iY lY jR jW jZ jO oQ bR aY jQ gY iJ mQ lJ jA bG mK jB mW mJ eJ dG bT aG jC bL bY jD mLn oF aQ4 dQ aJ aB bW bZ aR aE bI aW bU fJ dO bM bQ bO jY oX qO qQ)) hP hD 3 rfl rfl rfl
  have hP := hPD.1
  have hD := hPD.2
  refine lv_if_ne (tgt := 16) hx hb eX10_need_0.2.2.2.1 (by decide) (fun hc => ?_) (fun hc => ?_)
  · have hp := hp.1 hc
    exact W.vret hx hb hr (fun t ht hW => ⟨⟨(aQ4, dQ), rfl, hp, by rw [ht]; exact hP, va_K.moved hW.alike hK, hD⟩, hS.F ht⟩) hS.2.2 eX10_need_0.2.2.2.2.2.2.2.2
  · have hp := hp.2 hc
    refine lv_aload_n hx hb eX10_need_0.2.2.2.2.1 rfl (lv_at hl 0 rfl) ?_
    refine lv_aload_n hx hb eX10_need_0.2.2.2.2.2.1 rfl (lv_at hl 0 rfl) ?_
    refine va_get (D := (dC, dI)) (ci := 10) (v := .int aQ4) (C := zX) (T := aBe) (N := 51) hx hb hts aAt hown hK hP 0 rfl rfl 18 (lbz rfl) (hts _ q_648) (fun _ h9 => h9) rfl eX10_need_0.2.2.2.2.2.2.1 ?_
    have hm := mgk (wc := (aSM cI cC cZ cB cJ a_m nY sJ eG iY lY jR jW jZ jO oQ bR aY jQ gY iJ mQ lJ jA bG mK jB mW mJ eJ dG bT aG jC bL bY jD mLn oF aQ4 dQ aJ aB bW bZ aR aE bI aW bU fJ dO bM bQ bO jY oX)) hP mk_198 3 rfl rfl rfl
    refine aBn hP hD hS hA (yS mk_198) (aAi mk_198) hm.1 hm.2 (aAk _) (zW _) (zF (As := [.int aQ4]) (rest := []) C0 hP hD hS (yS mk_198) hm.1 (aAl _) 0 10 rfl rfl (c_X10_fault l dC dI cI cC cZ cB cJ a_m nY sJ eG iY lY jR jW jZ jO oQ bR aY jQ gY iJ mQ lJ jA bG mK jB mW mJ eJ dG H.size aQ4 bT aG jC bL bY jD mLn oF aQ4 dQ aJ aB bW bZ aR aE bI aW bU fJ dO bM bQ bO jY oX _ hp) q_654 q_657 q_655 q_656 aBL h_X10_fault rfl rfl ⟨lbz rfl, lbz rfl⟩ rfl rfl hl.1 rfl (lv_room (lbz rfl)) eX10_need_0.2.2.2.2.2.2.2.1 ⟨Nat.zero_le _, Nat.zero_le _⟩) (fun u H locs hp hP hD hS => ?_)
    obtain ⟨aHp, rfl⟩ : ∃ z, z = u := ⟨_, rfl⟩
    have hPD := PDm (ws' := (wd_X10_need cI cC cZ cB cJ a_m nY sJ eG iY lY jR jW jZ jO oQ bR aY jQ gY iJ mQ lJ jA bG mK jB mW mJ eJ dG bT aG jC bL bY jD mLn oF aQ4 aHp aJ aB bW bZ aR aE bI aW bU fJ dO bM bQ bO jY oX qO qQ)) hP hD 3 rfl rfl rfl
    have hP := hPD.1
    have hD := hPD.2
    exact W.vret hx hb hr (fun t ht hW => ⟨⟨(aQ4, aHp), rfl, hp, by rw [ht]; exact hP, va_K.moved hW.alike hK, hD⟩, hS.F ht⟩) hS.2.2 eX10_need_0.2.2.2.2.2.2.2.2
abbrev aC6 (cI cC cZ cB cJ : ClassId) (a_m nY sJ eG iY lY jR jW jZ jO oQ bR aY jQ gY iJ mQ lJ jA bG mK jB mW mJ eJ dG : Nat) (bT aG jC bL bY : Int32) (jD : Nat) (mLn oF rP dQ aJ aB bW bZ aR aE bI aW bU fJ dO bM bQ bO jY oX : Int32) (qO qT qA qQ : Nat -> Int32) : va_W := [(a_m, .inr (10, [.ref nY, .int bT, .ref sJ, .ref eG, .ref iY, .ref lY, .int aG, .ref jR, .ref jW, .ref jZ, .ref jO, .int jC, .ref oQ, .int bL, .int bY, rdv jO jQ jD, .int mLn, .int oF, .int rP, .int dQ, .ref bR, .ref aY, .int aJ, .int aB, .ref jQ, .int bW, .int bZ, .int aR, .int aE, .int bI, .int aW, .ref gY, .int bU, .ref iJ, .ref mQ, .int fJ, .ref lJ, .int dO, .ref jA, .ref bG, .int bM, .int bQ, .int bO, .ref mK, .ref jB, .ref mW, .int jY, .int oX, .ref mJ, .ref eJ, .ref dG])), (jO, .inl (cB, 80, .inl qO)), (bR, .inl (cI, 64, .inl qT)), (aY, .inl (cI, 16, .inl qA)), (jQ, .inl (cB, 40, .inl qQ))]
abbrev q_X10_readLine (dC : Nat -> ClassId) (dI : Nat -> Nat -> Nat) (cI cC cZ cB cJ : ClassId) (A : Nat -> Prop) (a_m nY sJ eG iY lY jR jW jZ jO oQ bR aY jQ gY iJ mQ lJ jA bG mK jB mW mJ eJ dG : Nat) (bT aG jC bL bY : Int32) (jD : Nat) (mLn oF bW bZ aR aE bI aW bU fJ dO bM bQ bO jY oX : Int32) (qO qQ : Nat -> Int32) (post : Int32 -> Int32 -> Int32 -> Int32 -> (Nat -> Int32) -> (Nat -> Int32) -> Prop) : Array Value -> State -> Outcome -> State -> Prop := va_Qv (fun (u : Int32 × Int32 × Int32 × Int32 × (Nat -> Int32) × (Nat -> Int32)) => post u.1 u.2.1 u.2.2.1 u.2.2.2.1 u.2.2.2.2.1 u.2.2.2.2.2) (fun u t => gB (dC, dI) (tyl cI cC cZ cB cJ) A (aC6 cI cC cZ cB cJ a_m nY sJ eG iY lY jR jW jZ jO oQ bR aY jQ gY iJ mQ lJ jA bG mK jB mW mJ eJ dG bT aG jC bL bY jD mLn oF u.1 u.2.1 u.2.2.1 u.2.2.2.1 bW bZ aR aE bI aW bU fJ dO bM bQ bO jY oX qO u.2.2.2.2.1 u.2.2.2.2.2 qQ) t) A
abbrev rm_X10_readLine : Room := { frames := 3, cells := 0, slots := 0, locals := 64 }
section S_X10_readLine
variable {p : Program} {l : Launch} {e : Env} {s : State} {m : MethodId} {args : Array Value} {below : List Frame} {meth : Method} {c : Code} {dC : Nat -> ClassId} {dI : Nat -> Nat -> Nat} {cI cC cZ cB cJ : ClassId} {A : Nat -> Prop} {a_m nY sJ eG iY lY jR jW jZ jO oQ bR aY jQ gY iJ mQ lJ jA bG mK jB mW mJ eJ dG : Nat} {bT aG jC bL bY : Int32} {jD : Nat} {mLn oF bW bZ aR aE bI aW bU fJ dO bM bQ bO jY oX : Int32} {qO qQ : Nat -> Int32} {post : Int32 -> Int32 -> Int32 -> Int32 -> (Nat -> Int32) -> (Nat -> Int32) -> Prop}
def aXD (post : Int32 -> Int32 -> Int32 -> Int32 -> (Nat -> Int32) -> (Nat -> Int32) -> Prop) (bT aG : Int32) (jD : Nat) (mLn oF : Int32) (qO qQ : Nat -> Int32) (rP dQ aJ aB : Int32) (qT qA : Nat -> Int32) : Prop := aSQ (fun aHp => post rP aHp aJ aB qT qA) rP dQ
set_option maxHeartbeats 4000000 in
set_option maxRecDepth 100000 in
theorem ks_X10_readLine_218 (C0 : gc aA7 none 2 zX (dC, dI) (tyl cI cC cZ cB cJ) A p s m args meth c) : ∀ (rP dQ aJ aB : Int32) (qT qA : Nat -> Int32) (H : Heap) (locs : List Loc) (ls : Array Slot), (aXD post bT aG jD mLn oF qO qQ) rP dQ aJ aB qT qA -> va_P (dC, dI) classes (aC6 cI cC cZ cB cJ a_m nY sJ eG iY lY jR jW jZ jO oQ bR aY jQ gY iJ mQ lJ jA bG mK jB mW mJ eJ dG bT aG jC bL bY jD mLn oF rP dQ aJ aB bW bZ aR aE bI aW bU fJ dO bM bQ bO jY oX qO qT qA qQ) H -> va_D A (aC6 cI cC cZ cB cJ a_m nY sJ eG iY lY jR jW jZ jO oQ bR aY jQ gY iJ mQ lJ jA bG mK jB mW mJ eJ dG bT aG jC bL bY jD mLn oF rP dQ aJ aB bW bZ aR aE bI aW bU fJ dO bM bQ bO jY oX qO qT qA qQ) -> va_S A s.heap H locs -> lv_has ls 2 [(0, .ref a_m)] -> W p l e rm_X10_readLine s m args below meth c H locs 0 0 (MQ below (q_X10_readLine dC dI cI cC cZ cB cJ A a_m nY sJ eG iY lY jR jW jZ jO oQ bR aY jQ gY iJ mQ lJ jA bG mK jB mW mJ eJ dG bT aG jC bL bY jD mLn oF bW bZ aR aE bI aW bU fJ dO bM bQ bO jY oX qO qQ post) args s 0 0 A) (F0 m 218 ls []) := by
  obtain ⟨hx, hb, hr, hml, hown, hts, hlocks, hA, hK, hN, tL, tM, hZL, hTL, hZM, hTM, hZX⟩ := id C0
  intro rP dQ aJ aB qT qA H locs ls hp hP hD hS hl
  unfold aXD at hp
  refine lv_aload_n hx hb aKn.2.2.2.2.2.2.2.2.2.2.2.2.2.2.1 rfl (lv_at hl 0 rfl) ?_
  refine lv_aload_n hx hb aKn.2.2.2.2.2.2.2.2.2.2.2.2.2.2.2 rfl (lv_at hl 0 rfl) ?_
  refine va_get (D := (dC, dI)) (ci := 10) (v := .int rP) (C := zX) (T := aBe) (N := 51) hx hb hts aAt hown hK hP 0 rfl rfl 18 (lbz rfl) (hts _ q_648) (fun _ h9 => h9) rfl eX10_readLine_220.1 ?_
  have hm := mgk (wc := (aSM cI cC cZ cB cJ a_m nY sJ eG iY lY jR jW jZ jO oQ bR aY jQ gY iJ mQ lJ jA bG mK jB mW mJ eJ dG bT aG jC bL bY jD mLn oF rP dQ aJ aB bW bZ aR aE bI aW bU fJ dO bM bQ bO jY oX)) hP mk_16 5 rfl rfl rfl
  refine aBn hP hD hS hA (yS mk_16) (aAi mk_16) hm.1 hm.2 (aAk _) (zW _) (zF (As := [.int rP]) (rest := []) C0 hP hD hS (yS mk_16) hm.1 (aAl _) 0 10 rfl rfl (c_X10_fault l dC dI cI cC cZ cB cJ a_m nY sJ eG iY lY jR jW jZ jO oQ bR aY jQ gY iJ mQ lJ jA bG mK jB mW mJ eJ dG H.size rP bT aG jC bL bY jD mLn oF rP dQ aJ aB bW bZ aR aE bI aW bU fJ dO bM bQ bO jY oX _ hp) q_654 q_657 q_655 q_656 aBL h_X10_fault rfl rfl ⟨lbz rfl, lbz rfl⟩ rfl rfl hl.1 rfl (lv_room (lbz rfl)) eX10_readLine_220.2.1 ⟨Nat.zero_le _, Nat.zero_le _⟩) (fun u H locs hp hP hD hS => ?_)
  obtain ⟨aHp, rfl⟩ : ∃ z, z = u := ⟨_, rfl⟩
  have hPD := PDm (ws' := (aC6 cI cC cZ cB cJ a_m nY sJ eG iY lY jR jW jZ jO oQ bR aY jQ gY iJ mQ lJ jA bG mK jB mW mJ eJ dG bT aG jC bL bY jD mLn oF rP aHp aJ aB bW bZ aR aE bI aW bU fJ dO bM bQ bO jY oX qO qT qA qQ)) hP hD 5 rfl rfl rfl
  have hP := hPD.1
  have hD := hPD.2
  exact W.vret hx hb hr (fun t ht hW => ⟨⟨(rP, aHp, aJ, aB, qT, qA), rfl, hp, by rw [ht]; exact hP, va_K.moved hW.alike hK, hD⟩, hS.F ht⟩) hS.2.2 eX10_readLine_220.2.2
def ws_X10_readLine_135 (post : Int32 -> Int32 -> Int32 -> Int32 -> (Nat -> Int32) -> (Nat -> Int32) -> Prop) (bT aG : Int32) (jD : Nat) (mLn oF : Int32) (qO qQ : Nat -> Int32) (rP dQ aJ aB : Int32) (qT qA : Nat -> Int32) : Prop := aPe (fun r_2 => (¬ r_2 = 115 -> aXD post bT aG jD mLn oF qO qQ rP dQ aJ aB qT qA) /\ (r_2 = 115 -> ∀ v_4 : Int32, v_4 = aG + aB -> (8 <= v_4 -> aXD post bT aG jD mLn oF qO qQ rP dQ aJ aB qT qA) /\ (¬ 8 <= v_4 -> ∀ v_5 : Int32, v_5 = 2 * aB -> ∀ v_6 : Int32, v_6 = rP + 1 -> aOj (fun r_7 m_at_8 aIS => vp_in v_5 16 /\ (wp_X10_need (fun m_at_10 aKb => ∀ aEp : Int32, aEp = v_5 + 1 -> aOj (fun r_13 m_at_14 m_wrong_15 => vp_in aEp 16 /\ (∀ aHb : Int32, aHb = aB + 1 -> post m_at_14 m_wrong_15 aJ aHb qT (upd (upd qA v_5.toNatClampNeg r_7) aEp.toNatClampNeg r_13))) 2 jD mLn oF m_at_10 aKb qO qQ) 44 jD mLn oF m_at_8 aIS qO qQ)) 2 jD mLn oF v_6 dQ qO qQ))) jD mLn oF rP qO qQ
set_option maxHeartbeats 4000000 in
set_option maxRecDepth 100000 in
theorem ks_X10_readLine_135 (C0 : gc aA7 none 2 zX (dC, dI) (tyl cI cC cZ cB cJ) A p s m args meth c) : ∀ (rP dQ aJ aB : Int32) (qT qA : Nat -> Int32) (H : Heap) (locs : List Loc) (ls : Array Slot), (ws_X10_readLine_135 post bT aG jD mLn oF qO qQ) rP dQ aJ aB qT qA -> va_P (dC, dI) classes (aC6 cI cC cZ cB cJ a_m nY sJ eG iY lY jR jW jZ jO oQ bR aY jQ gY iJ mQ lJ jA bG mK jB mW mJ eJ dG bT aG jC bL bY jD mLn oF rP dQ aJ aB bW bZ aR aE bI aW bU fJ dO bM bQ bO jY oX qO qT qA qQ) H -> va_D A (aC6 cI cC cZ cB cJ a_m nY sJ eG iY lY jR jW jZ jO oQ bR aY jQ gY iJ mQ lJ jA bG mK jB mW mJ eJ dG bT aG jC bL bY jD mLn oF rP dQ aJ aB bW bZ aR aE bI aW bU fJ dO bM bQ bO jY oX qO qT qA qQ) -> va_S A s.heap H locs -> lv_has ls 2 [(0, .ref a_m)] -> W p l e rm_X10_readLine s m args below meth c H locs 0 0 (MQ below (q_X10_readLine dC dI cI cC cZ cB cJ A a_m nY sJ eG iY lY jR jW jZ jO oQ bR aY jQ gY iJ mQ lJ jA bG mK jB mW mJ eJ dG bT aG jC bL bY jD mLn oF bW bZ aR aE bI aW bU fJ dO bM bQ bO jY oX qO qQ post) args s 0 0 A) (F0 m 135 ls []) := by
  obtain ⟨hx, hb, hr, hml, hown, hts, hlocks, hA, hK, hN, tL, tM, hZL, hTL, hZM, hTM, hZX⟩ := id C0
  intro rP dQ aJ aB qT qA H locs ls hp hP hD hS hl
  unfold ws_X10_readLine_135 at hp
  refine lv_aload_n hx hb aKk.2.2.2.2.2.2.2.2.2.2.2.2.2.2.1 rfl (lv_at hl 0 rfl) ?_
  have hm := mgk (wc := (aVg cI cC cZ cB cJ a_m nY sJ eG iY lY jR jW jZ jO oQ bR aY jQ gY iJ mQ lJ jA bG mK jB mW mJ eJ dG bT aG jC bL bY jD mLn oF rP dQ aJ aB bW bZ aR aE bI aW bU fJ dO bM bQ bO jY oX qO qQ)) hP aRd 5 rfl rfl rfl
  refine yW hP hD hS hA (yS aRd) (aAi aRd) hm.1 hm.2 (aAk _) (zW _) (zF (As := []) (rest := []) C0 hP hD hS (yS aRd) hm.1 (aAl _) 0 10 rfl rfl (c_X10_here l dC dI cI cC cZ cB cJ a_m nY sJ eG iY lY jR jW jZ jO oQ bR aY jQ gY iJ mQ lJ jA bG mK jB mW mJ eJ dG H.size bT aG jC bL bY jD mLn oF rP dQ aJ aB bW bZ aR aE bI aW bU fJ dO bM bQ bO jY oX qO qQ _ hp) q_658 q_661 q_659 q_660 aBL h_X10_here rfl rfl ⟨lbz rfl, lbz rfl⟩ rfl rfl hl.1 rfl (lv_room (lbz rfl)) aKk.2.2.2.2.2.2.2.2.2.2.2.2.2.2.2 ⟨Nat.zero_le _, Nat.zero_le _⟩) (fun r_2 u H locs hp hP hD hS => ?_)
  have hPD := PDm (ws' := (aC6 cI cC cZ cB cJ a_m nY sJ eG iY lY jR jW jZ jO oQ bR aY jQ gY iJ mQ lJ jA bG mK jB mW mJ eJ dG bT aG jC bL bY jD mLn oF rP dQ aJ aB bW bZ aR aE bI aW bU fJ dO bM bQ bO jY oX qO qT qA qQ)) hP hD 5 rfl rfl rfl
  have hP := hPD.1
  have hD := hPD.2
  refine lv_bipush (v := 115) hx hb aKl.1 bp_115 ?_
  refine lv_icmp_ne (tgt := 218) hx hb aKl.2.1 (by decide) (fun hc => ?_) (fun hc => ?_)
  · have hp := hp.1 hc
    exact ks_X10_readLine_218 C0 rP dQ aJ aB qT qA H locs ls hp hP hD hS (lv_sub hl [0] rfl)
  · have hp := hp.2 hc
    refine lv_aload_n hx hb aKl.2.2.1 rfl (lv_at hl 0 rfl) ?_
    refine va_get (D := (dC, dI)) (ci := 10) (v := .int aG) (C := zX) (T := aBe) (N := 51) hx hb hts aAt hown hK hP 0 rfl rfl 6 (lbz rfl) (hts _ q_666) (fun _ h9 => h9) rfl aKl.2.2.2.1 ?_
    refine lv_aload_n hx hb aKl.2.2.2.2.1 rfl (lv_at hl 0 rfl) ?_
    refine va_get (D := (dC, dI)) (ci := 10) (v := .int aB) (C := zX) (T := aBe) (N := 51) hx hb hts aAt hown hK hP 0 rfl rfl 23 (lbz rfl) (hts _ q_667) (fun _ h9 => h9) rfl aKl.2.2.2.2.2.1 ?_
    refine lv_iadd hx hb aKl.2.2.2.2.2.2.1 ?_
    refine lv_topi (fun v_4 aHM => ?_)
    have hp := hp v_4 aHM
    refine lv_bipush (v := 8) hx hb aKl.2.2.2.2.2.2.2.1 bp_8 ?_
    refine lv_icmp_ge (tgt := 218) hx hb aKl.2.2.2.2.2.2.2.2.1 (by decide) (fun hc => ?_) (fun hc => ?_)
    · have hp := hp.1 hc
      exact ks_X10_readLine_218 C0 rP dQ aJ aB qT qA H locs ls hp hP hD hS (lv_sub hl [0] rfl)
    · have hp := hp.2 hc
      refine lv_iconst (v := 2) hx hb aKl.2.2.2.2.2.2.2.2.2.1 ic_2 ?_
      refine lv_aload_n hx hb aKl.2.2.2.2.2.2.2.2.2.2.1 rfl (lv_at hl 0 rfl) ?_
      refine va_get (D := (dC, dI)) (ci := 10) (v := .int aB) (C := zX) (T := aBe) (N := 51) hx hb hts aAt hown hK hP 0 rfl rfl 23 (lbz rfl) (hts _ q_667) (fun _ h9 => h9) rfl aKl.2.2.2.2.2.2.2.2.2.2.2.1 ?_
      refine lv_imul hx hb aKl.2.2.2.2.2.2.2.2.2.2.2.2.1 ?_
      refine lv_topi (fun v_5 aJD => ?_)
      have hp := hp v_5 aJD
      refine lv_istore_n (lv' := [(1, .int v_5), (0, .ref a_m)]) hx hb aKl.2.2.2.2.2.2.2.2.2.2.2.2.2.1 rfl hl (by decide) rfl (fun ls hl => ?_)
      refine lv_aload_n hx hb aKl.2.2.2.2.2.2.2.2.2.2.2.2.2.2.1 rfl (lv_at hl 1 rfl) ?_
      refine lv_dup hx hb aKl.2.2.2.2.2.2.2.2.2.2.2.2.2.2.2 rfl ?_
      refine va_get (D := (dC, dI)) (ci := 10) (v := .int rP) (C := zX) (T := aBe) (N := 51) hx hb hts aAt hown hK hP 0 rfl rfl 18 (lbz rfl) (hts _ q_648) (fun _ h9 => h9) rfl aKm.1 ?_
      refine lv_iconst (v := 1) hx hb aKm.2.1 aDx ?_
      refine lv_iadd hx hb aKm.2.2.1 ?_
      refine lv_topi (fun v_6 ev_6 => ?_)
      have hp := hp v_6 ev_6
      refine va_put (D := (dC, dI)) (ci := 10) (v := .int v_6) (ty := .int) (C := zX) (T := aBe) (N := 51) hx hb hts aAt aD2 aAa aEC hown hK hP hD hS 0 rfl rfl 18 (lbz rfl) (hts _ q_648) (fun _ h9 => h9) rfl (aAa 18 (lbz rfl)) rfl rfl (lbz rfl) aKm.2.2.2.1 (fun H locs hP hD hS => ?_)
      have hPD := PDw (ws' := (aC6 cI cC cZ cB cJ a_m nY sJ eG iY lY jR jW jZ jO oQ bR aY jQ gY iJ mQ lJ jA bG mK jB mW mJ eJ dG bT aG jC bL bY jD mLn oF v_6 dQ aJ aB bW bZ aR aE bI aW bU fJ dO bM bQ bO jY oX qO qT qA qQ)) hP hD rfl
      have hP := hPD.1
      have hD := hPD.2
      refine lv_aload_n hx hb aKm.2.2.2.2.1 rfl (lv_at hl 1 rfl) ?_
      refine va_get (D := (dC, dI)) (ci := 10) (v := .ref aY) (C := zX) (T := aBe) (N := 51) hx hb hts aAt hown hK hP 0 rfl rfl 21 (lbz rfl) (hts _ q_668) (fun _ h9 => h9) rfl aKm.2.2.2.2.2.1 ?_
      refine lv_iload_n hx hb aKm.2.2.2.2.2.2.1 rfl (lv_at hl 0 rfl) ?_
      refine lv_aload_n hx hb aKm.2.2.2.2.2.2.2.1 rfl (lv_at hl 1 rfl) ?_
      refine lv_iconst (v := 2) hx hb aKm.2.2.2.2.2.2.2.2.1 ic_2 ?_
      have hm := mgk (wc := (aG9 cI cC cZ cB cJ a_m nY sJ eG iY lY jR jW jZ jO oQ bR aY jQ gY iJ mQ lJ jA bG mK jB mW mJ eJ dG bT aG jC bL bY jD mLn oF v_6 dQ aJ aB bW bZ aR aE bI aW bU fJ dO bM bQ bO jY oX qO qQ)) hP aRd 5 rfl rfl rfl
      refine yW hP hD hS hA (yS aRd) (aAi aRd) hm.1 hm.2 (aAk _) (zW _) (zF (As := [.int 2]) (rest := [.int v_5, .ref aY]) C0 hP hD hS (yS aRd) hm.1 (aAl _) 0 10 rfl rfl (c_X10_number l dC dI cI cC cZ cB cJ a_m nY sJ eG iY lY jR jW jZ jO oQ bR aY jQ gY iJ mQ lJ jA bG mK jB mW mJ eJ dG H.size 2 bT aG jC bL bY jD mLn oF v_6 dQ aJ aB bW bZ aR aE bI aW bU fJ dO bM bQ bO jY oX qO qQ _ hp) q_669 q_672 q_670 q_671 aBL h_X10_number rfl rfl ⟨lbz rfl, lbz rfl⟩ rfl rfl hl.1 rfl (lv_room (lbz rfl)) aKm.2.2.2.2.2.2.2.2.2.1 ⟨Nat.zero_le _, Nat.zero_le _⟩) (fun r_7 u H locs hp hP hD hS => ?_)
      obtain ⟨m_at_8, aIS⟩ := u
      have hPD := PDm (ws' := (aC6 cI cC cZ cB cJ a_m nY sJ eG iY lY jR jW jZ jO oQ bR aY jQ gY iJ mQ lJ jA bG mK jB mW mJ eJ dG bT aG jC bL bY jD mLn oF m_at_8 aIS aJ aB bW bZ aR aE bI aW bU fJ dO bM bQ bO jY oX qO qT qA qQ)) hP hD 5 rfl rfl rfl
      have hP := hPD.1
      have hD := hPD.2
      have hin := hp.1
      have hp := hp.2
      refine va_iast hx hb hK hP hD hS 3 0 rfl rfl hin aKm.2.2.2.2.2.2.2.2.2.2.1 (fun H locs hP hD hS => ?_)
      have hPD := PDw (ws' := (aC6 cI cC cZ cB cJ a_m nY sJ eG iY lY jR jW jZ jO oQ bR aY jQ gY iJ mQ lJ jA bG mK jB mW mJ eJ dG bT aG jC bL bY jD mLn oF m_at_8 aIS aJ aB bW bZ aR aE bI aW bU fJ dO bM bQ bO jY oX qO qT (upd qA v_5.toNatClampNeg r_7) qQ)) hP hD rfl
      have hP := hPD.1
      have hD := hPD.2
      refine lv_aload_n hx hb aKm.2.2.2.2.2.2.2.2.2.2.2.1 rfl (lv_at hl 1 rfl) ?_
      refine lv_bipush (v := 44) hx hb aKm.2.2.2.2.2.2.2.2.2.2.2.2.1 bp_44 ?_
      have hm := mgk (wc := (wd_X10_need cI cC cZ cB cJ a_m nY sJ eG iY lY jR jW jZ jO oQ bR aY jQ gY iJ mQ lJ jA bG mK jB mW mJ eJ dG bT aG jC bL bY jD mLn oF m_at_8 aIS aJ aB bW bZ aR aE bI aW bU fJ dO bM bQ bO jY oX qO qQ)) hP aRd 5 rfl rfl rfl
      refine aBn hP hD hS hA (yS aRd) (aAi aRd) hm.1 hm.2 (aAk _) (zW _) (zF (As := [.int 44]) (rest := []) C0 hP hD hS (yS aRd) hm.1 (aAl _) 0 10 rfl rfl (c_X10_need l dC dI cI cC cZ cB cJ a_m nY sJ eG iY lY jR jW jZ jO oQ bR aY jQ gY iJ mQ lJ jA bG mK jB mW mJ eJ dG H.size 44 bT aG jC bL bY jD mLn oF m_at_8 aIS aJ aB bW bZ aR aE bI aW bU fJ dO bM bQ bO jY oX qO qQ _ hp) q_673 q_676 q_674 q_675 aBL h_X10_need rfl rfl ⟨lbz rfl, lbz rfl⟩ rfl rfl hl.1 rfl (lv_room (lbz rfl)) aKm.2.2.2.2.2.2.2.2.2.2.2.2.2.1 ⟨Nat.zero_le _, Nat.zero_le _⟩) (fun u H locs hp hP hD hS => ?_)
      obtain ⟨m_at_10, aKb⟩ := u
      have hPD := PDm (ws' := (aC6 cI cC cZ cB cJ a_m nY sJ eG iY lY jR jW jZ jO oQ bR aY jQ gY iJ mQ lJ jA bG mK jB mW mJ eJ dG bT aG jC bL bY jD mLn oF m_at_10 aKb aJ aB bW bZ aR aE bI aW bU fJ dO bM bQ bO jY oX qO qT (upd qA v_5.toNatClampNeg r_7) qQ)) hP hD 5 rfl rfl rfl
      have hP := hPD.1
      have hD := hPD.2
      refine lv_aload_n hx hb aKm.2.2.2.2.2.2.2.2.2.2.2.2.2.2.1 rfl (lv_at hl 1 rfl) ?_
      refine va_get (D := (dC, dI)) (ci := 10) (v := .ref aY) (C := zX) (T := aBe) (N := 51) hx hb hts aAt hown hK hP 0 rfl rfl 21 (lbz rfl) (hts _ q_668) (fun _ h9 => h9) rfl aKm.2.2.2.2.2.2.2.2.2.2.2.2.2.2.2 ?_
      refine lv_iload_n hx hb aKn.1 rfl (lv_at hl 0 rfl) ?_
      refine lv_iconst (v := 1) hx hb aKn.2.1 aDx ?_
      refine lv_iadd hx hb aKn.2.2.1 ?_
      refine lv_topi (fun aEp ev_12 => ?_)
      have hp := hp aEp ev_12
      refine lv_aload_n hx hb aKn.2.2.2.1 rfl (lv_at hl 1 rfl) ?_
      refine lv_iconst (v := 2) hx hb aKn.2.2.2.2.1 ic_2 ?_
      have hm := mgk (wc := (aG9 cI cC cZ cB cJ a_m nY sJ eG iY lY jR jW jZ jO oQ bR aY jQ gY iJ mQ lJ jA bG mK jB mW mJ eJ dG bT aG jC bL bY jD mLn oF m_at_10 aKb aJ aB bW bZ aR aE bI aW bU fJ dO bM bQ bO jY oX qO qQ)) hP aRd 5 rfl rfl rfl
      refine yW hP hD hS hA (yS aRd) (aAi aRd) hm.1 hm.2 (aAk _) (zW _) (zF (As := [.int 2]) (rest := [.int aEp, .ref aY]) C0 hP hD hS (yS aRd) hm.1 (aAl _) 0 10 rfl rfl (c_X10_number l dC dI cI cC cZ cB cJ a_m nY sJ eG iY lY jR jW jZ jO oQ bR aY jQ gY iJ mQ lJ jA bG mK jB mW mJ eJ dG H.size 2 bT aG jC bL bY jD mLn oF m_at_10 aKb aJ aB bW bZ aR aE bI aW bU fJ dO bM bQ bO jY oX qO qQ _ hp) q_669 q_672 q_670 q_671 aBL h_X10_number rfl rfl ⟨lbz rfl, lbz rfl⟩ rfl rfl hl.1 rfl (lv_room (lbz rfl)) aKn.2.2.2.2.2.1 ⟨Nat.zero_le _, Nat.zero_le _⟩) (fun r_13 u H locs hp hP hD hS => ?_)
      obtain ⟨m_at_14, m_wrong_15⟩ := u
      have hPD := PDm (ws' := (aC6 cI cC cZ cB cJ a_m nY sJ eG iY lY jR jW jZ jO oQ bR aY jQ gY iJ mQ lJ jA bG mK jB mW mJ eJ dG bT aG jC bL bY jD mLn oF m_at_14 m_wrong_15 aJ aB bW bZ aR aE bI aW bU fJ dO bM bQ bO jY oX qO qT (upd qA v_5.toNatClampNeg r_7) qQ)) hP hD 5 rfl rfl rfl
      have hP := hPD.1
      have hD := hPD.2
      have hin := hp.1
      have hp := hp.2
      refine va_iast hx hb hK hP hD hS 3 0 rfl rfl hin aKn.2.2.2.2.2.2.1 (fun H locs hP hD hS => ?_)
      have hPD := PDw (ws' := (aC6 cI cC cZ cB cJ a_m nY sJ eG iY lY jR jW jZ jO oQ bR aY jQ gY iJ mQ lJ jA bG mK jB mW mJ eJ dG bT aG jC bL bY jD mLn oF m_at_14 m_wrong_15 aJ aB bW bZ aR aE bI aW bU fJ dO bM bQ bO jY oX qO qT (upd (upd qA v_5.toNatClampNeg r_7) aEp.toNatClampNeg r_13) qQ)) hP hD rfl
      have hP := hPD.1
      have hD := hPD.2
      refine lv_aload_n hx hb aKn.2.2.2.2.2.2.2.1 rfl (lv_at hl 1 rfl) ?_
      refine lv_dup hx hb aKn.2.2.2.2.2.2.2.2.1 rfl ?_
      refine va_get (D := (dC, dI)) (ci := 10) (v := .int aB) (C := zX) (T := aBe) (N := 51) hx hb hts aAt hown hK hP 0 rfl rfl 23 (lbz rfl) (hts _ q_667) (fun _ h9 => h9) rfl aKn.2.2.2.2.2.2.2.2.2.1 ?_
      refine lv_iconst (v := 1) hx hb aKn.2.2.2.2.2.2.2.2.2.2.1 aDx ?_
      refine lv_iadd hx hb aKn.2.2.2.2.2.2.2.2.2.2.2.1 ?_
      refine lv_topi (fun aHb ev_16 => ?_)
      have hp := hp aHb ev_16
      refine va_put (D := (dC, dI)) (ci := 10) (v := .int aHb) (ty := .int) (C := zX) (T := aBe) (N := 51) hx hb hts aAt aD2 aAa aEC hown hK hP hD hS 0 rfl rfl 23 (lbz rfl) (hts _ q_667) (fun _ h9 => h9) rfl (aAa 23 (lbz rfl)) rfl rfl (lbz rfl) aKn.2.2.2.2.2.2.2.2.2.2.2.2.1 (fun H locs hP hD hS => ?_)
      have hPD := PDw (ws' := (aC6 cI cC cZ cB cJ a_m nY sJ eG iY lY jR jW jZ jO oQ bR aY jQ gY iJ mQ lJ jA bG mK jB mW mJ eJ dG bT aG jC bL bY jD mLn oF m_at_14 m_wrong_15 aJ aHb bW bZ aR aE bI aW bU fJ dO bM bQ bO jY oX qO qT (upd (upd qA v_5.toNatClampNeg r_7) aEp.toNatClampNeg r_13) qQ)) hP hD rfl
      have hP := hPD.1
      have hD := hPD.2
      refine lv_goto (tgt := 226) hx hb aKn.2.2.2.2.2.2.2.2.2.2.2.2.2.1 (by decide) ?_
      exact W.vret hx hb hr (fun t ht hW => ⟨⟨(m_at_14, m_wrong_15, aJ, aHb, qT, (upd (upd qA v_5.toNatClampNeg r_7) aEp.toNatClampNeg r_13)), rfl, hp, by rw [ht]; exact hP, va_K.moved hW.alike hK, hD⟩, hS.F ht⟩) hS.2.2 eX10_readLine_220.2.2
def aXC (post : Int32 -> Int32 -> Int32 -> Int32 -> (Nat -> Int32) -> (Nat -> Int32) -> Prop) (bT aG : Int32) (jD : Nat) (mLn oF : Int32) (qO qQ : Nat -> Int32) (k1 k2 rP dQ aJ aB : Int32) (qT qA : Nat -> Int32) : Prop := vp_in k1 64 /\ (∀ v_35 : Int32, v_35 = aJ + 1 -> post rP dQ v_35 aB (upd qT k1.toNatClampNeg k2) qA)
set_option maxHeartbeats 4000000 in
set_option maxRecDepth 100000 in
theorem ks_X10_readLine_121 (C0 : gc aA7 none 2 zX (dC, dI) (tyl cI cC cZ cB cJ) A p s m args meth c) : ∀ (k1 k2 rP dQ aJ aB : Int32) (qT qA : Nat -> Int32) (H : Heap) (locs : List Loc) (ls : Array Slot), (aXC post bT aG jD mLn oF qO qQ) k1 k2 rP dQ aJ aB qT qA -> va_P (dC, dI) classes (aC6 cI cC cZ cB cJ a_m nY sJ eG iY lY jR jW jZ jO oQ bR aY jQ gY iJ mQ lJ jA bG mK jB mW mJ eJ dG bT aG jC bL bY jD mLn oF rP dQ aJ aB bW bZ aR aE bI aW bU fJ dO bM bQ bO jY oX qO qT qA qQ) H -> va_D A (aC6 cI cC cZ cB cJ a_m nY sJ eG iY lY jR jW jZ jO oQ bR aY jQ gY iJ mQ lJ jA bG mK jB mW mJ eJ dG bT aG jC bL bY jD mLn oF rP dQ aJ aB bW bZ aR aE bI aW bU fJ dO bM bQ bO jY oX qO qT qA qQ) -> va_S A s.heap H locs -> lv_has ls 2 [(0, .ref a_m)] -> W p l e rm_X10_readLine s m args below meth c H locs 0 0 (MQ below (q_X10_readLine dC dI cI cC cZ cB cJ A a_m nY sJ eG iY lY jR jW jZ jO oQ bR aY jQ gY iJ mQ lJ jA bG mK jB mW mJ eJ dG bT aG jC bL bY jD mLn oF bW bZ aR aE bI aW bU fJ dO bM bQ bO jY oX qO qQ post) args s 0 0 A) (F0 m 121 ls [.int k2, .int k1, .ref bR]) := by
  obtain ⟨hx, hb, hr, hml, hown, hts, hlocks, hA, hK, hN, tL, tM, hZL, hTL, hZM, hTM, hZX⟩ := id C0
  intro k1 k2 rP dQ aJ aB qT qA H locs ls hp hP hD hS hl
  unfold aXC at hp
  have hin := hp.1
  have hp := hp.2
  refine va_iast hx hb hK hP hD hS 2 0 rfl rfl hin aKk.2.2.2.2.2.2.1 (fun H locs hP hD hS => ?_)
  have hPD := PDw (ws' := (aC6 cI cC cZ cB cJ a_m nY sJ eG iY lY jR jW jZ jO oQ bR aY jQ gY iJ mQ lJ jA bG mK jB mW mJ eJ dG bT aG jC bL bY jD mLn oF rP dQ aJ aB bW bZ aR aE bI aW bU fJ dO bM bQ bO jY oX qO (upd qT k1.toNatClampNeg k2) qA qQ)) hP hD rfl
  have hP := hPD.1
  have hD := hPD.2
  refine lv_aload_n hx hb aKk.2.2.2.2.2.2.2.1 rfl (lv_at hl 0 rfl) ?_
  refine lv_dup hx hb aKk.2.2.2.2.2.2.2.2.1 rfl ?_
  refine va_get (D := (dC, dI)) (ci := 10) (v := .int aJ) (C := zX) (T := aBe) (N := 51) hx hb hts aAt hown hK hP 0 rfl rfl 22 (lbz rfl) (hts _ q_678) (fun _ h9 => h9) rfl aKk.2.2.2.2.2.2.2.2.2.1 ?_
  refine lv_iconst (v := 1) hx hb aKk.2.2.2.2.2.2.2.2.2.2.1 aDx ?_
  refine lv_iadd hx hb aKk.2.2.2.2.2.2.2.2.2.2.2.1 ?_
  refine lv_topi (fun v_35 ev_35 => ?_)
  have hp := hp v_35 ev_35
  refine va_put (D := (dC, dI)) (ci := 10) (v := .int v_35) (ty := .int) (C := zX) (T := aBe) (N := 51) hx hb hts aAt aD2 aAa aEC hown hK hP hD hS 0 rfl rfl 22 (lbz rfl) (hts _ q_678) (fun _ h9 => h9) rfl (aAa 22 (lbz rfl)) rfl rfl (lbz rfl) aKk.2.2.2.2.2.2.2.2.2.2.2.2.1 (fun H locs hP hD hS => ?_)
  have hPD := PDw (ws' := (aC6 cI cC cZ cB cJ a_m nY sJ eG iY lY jR jW jZ jO oQ bR aY jQ gY iJ mQ lJ jA bG mK jB mW mJ eJ dG bT aG jC bL bY jD mLn oF rP dQ v_35 aB bW bZ aR aE bI aW bU fJ dO bM bQ bO jY oX qO (upd qT k1.toNatClampNeg k2) qA qQ)) hP hD rfl
  have hP := hPD.1
  have hD := hPD.2
  refine lv_goto (tgt := 226) hx hb aKk.2.2.2.2.2.2.2.2.2.2.2.2.2.1 (by decide) ?_
  exact W.vret hx hb hr (fun t ht hW => ⟨⟨(rP, dQ, v_35, aB, (upd qT k1.toNatClampNeg k2), qA), rfl, hp, by rw [ht]; exact hP, va_K.moved hW.alike hK, hD⟩, hS.F ht⟩) hS.2.2 eX10_readLine_220.2.2
def ws_X10_readLine_95 (post : Int32 -> Int32 -> Int32 -> Int32 -> (Nat -> Int32) -> (Nat -> Int32) -> Prop) (bT aG : Int32) (jD : Nat) (mLn oF : Int32) (qO qQ : Nat -> Int32) (x1 k1 k2 rP dQ aJ aB : Int32) (qT qA : Nat -> Int32) : Prop := vp_in k1 64 /\ (∀ v_32 : Int32, v_32 = x1 + 3 -> aPM (fun r_33 m_at_34 => (r_33 = 0 -> aXC post bT aG jD mLn oF qO qQ v_32 0 m_at_34 dQ aJ aB (upd qT k1.toNatClampNeg k2) qA) /\ (¬ r_33 = 0 -> aOj (fun r_36 m_at_37 m_wrong_38 => aXC post bT aG jD mLn oF qO qQ v_32 r_36 m_at_37 m_wrong_38 aJ aB (upd qT k1.toNatClampNeg k2) qA) 1 jD mLn oF m_at_34 dQ qO qQ)) 64 jD mLn oF rP dQ qO qQ)
set_option maxHeartbeats 4000000 in
set_option maxRecDepth 100000 in
theorem ks_X10_readLine_95 (C0 : gc aA7 none 2 zX (dC, dI) (tyl cI cC cZ cB cJ) A p s m args meth c) : ∀ (x1 k1 k2 rP dQ aJ aB : Int32) (qT qA : Nat -> Int32) (H : Heap) (locs : List Loc) (ls : Array Slot), (ws_X10_readLine_95 post bT aG jD mLn oF qO qQ) x1 k1 k2 rP dQ aJ aB qT qA -> va_P (dC, dI) classes (aC6 cI cC cZ cB cJ a_m nY sJ eG iY lY jR jW jZ jO oQ bR aY jQ gY iJ mQ lJ jA bG mK jB mW mJ eJ dG bT aG jC bL bY jD mLn oF rP dQ aJ aB bW bZ aR aE bI aW bU fJ dO bM bQ bO jY oX qO qT qA qQ) H -> va_D A (aC6 cI cC cZ cB cJ a_m nY sJ eG iY lY jR jW jZ jO oQ bR aY jQ gY iJ mQ lJ jA bG mK jB mW mJ eJ dG bT aG jC bL bY jD mLn oF rP dQ aJ aB bW bZ aR aE bI aW bU fJ dO bM bQ bO jY oX qO qT qA qQ) -> va_S A s.heap H locs -> lv_has ls 2 [(0, .ref a_m), (1, .int x1)] -> W p l e rm_X10_readLine s m args below meth c H locs 0 0 (MQ below (q_X10_readLine dC dI cI cC cZ cB cJ A a_m nY sJ eG iY lY jR jW jZ jO oQ bR aY jQ gY iJ mQ lJ jA bG mK jB mW mJ eJ dG bT aG jC bL bY jD mLn oF bW bZ aR aE bI aW bU fJ dO bM bQ bO jY oX qO qQ post) args s 0 0 A) (F0 m 95 ls [.int k2, .int k1, .ref bR]) := by
  obtain ⟨hx, hb, hr, hml, hown, hts, hlocks, hA, hK, hN, tL, tM, hZL, hTL, hZM, hTM, hZX⟩ := id C0
  intro x1 k1 k2 rP dQ aJ aB qT qA H locs ls hp hP hD hS hl
  unfold ws_X10_readLine_95 at hp
  have hin := hp.1
  have hp := hp.2
  refine va_iast hx hb hK hP hD hS 2 0 rfl rfl hin aMO.2.2.2.2.2.2.2.1 (fun H locs hP hD hS => ?_)
  have hPD := PDw (ws' := (aC6 cI cC cZ cB cJ a_m nY sJ eG iY lY jR jW jZ jO oQ bR aY jQ gY iJ mQ lJ jA bG mK jB mW mJ eJ dG bT aG jC bL bY jD mLn oF rP dQ aJ aB bW bZ aR aE bI aW bU fJ dO bM bQ bO jY oX qO (upd qT k1.toNatClampNeg k2) qA qQ)) hP hD rfl
  have hP := hPD.1
  have hD := hPD.2
  refine lv_aload_n hx hb aMO.2.2.2.2.2.2.2.2.1 rfl (lv_at hl 0 rfl) ?_
  refine va_get (D := (dC, dI)) (ci := 10) (v := .ref bR) (C := zX) (T := aBe) (N := 51) hx hb hts aAt hown hK hP 0 rfl rfl 20 (lbz rfl) (hts _ q_679) (fun _ h9 => h9) rfl aMO.2.2.2.2.2.2.2.2.2.1 ?_
  refine lv_iload_n hx hb aMO.2.2.2.2.2.2.2.2.2.2.1 rfl (lv_at hl 1 rfl) ?_
  refine lv_iconst (v := 3) hx hb aMO.2.2.2.2.2.2.2.2.2.2.2.1 ic_3 ?_
  refine lv_iadd hx hb aMO.2.2.2.2.2.2.2.2.2.2.2.2.1 ?_
  refine lv_topi (fun v_32 ev_32 => ?_)
  have hp := hp v_32 ev_32
  refine lv_aload_n hx hb aMO.2.2.2.2.2.2.2.2.2.2.2.2.2.1 rfl (lv_at hl 0 rfl) ?_
  refine lv_bipush (v := 64) hx hb aMO.2.2.2.2.2.2.2.2.2.2.2.2.2.2.1 bp_64 ?_
  have hm := mgk (wc := (aOh cI cC cZ cB cJ a_m nY sJ eG iY lY jR jW jZ jO oQ bR aY jQ gY iJ mQ lJ jA bG mK jB mW mJ eJ dG bT aG jC bL bY jD mLn oF rP dQ aJ aB bW bZ aR aE bI aW bU fJ dO bM bQ bO jY oX qO qQ)) hP aRd 5 rfl rfl rfl
  refine yW hP hD hS hA (yS aRd) (aAi aRd) hm.1 hm.2 (aAk _) (zW _) (zF (As := [.int 64]) (rest := [.int v_32, .ref bR]) C0 hP hD hS (yS aRd) hm.1 (aAl _) 0 10 rfl rfl (c_X10_passes l dC dI cI cC cZ cB cJ a_m nY sJ eG iY lY jR jW jZ jO oQ bR aY jQ gY iJ mQ lJ jA bG mK jB mW mJ eJ dG H.size 64 bT aG jC bL bY jD mLn oF rP dQ aJ aB bW bZ aR aE bI aW bU fJ dO bM bQ bO jY oX qO qQ _ hp) q_662 q_665 q_663 q_664 aBL h_X10_passes rfl rfl ⟨lbz rfl, lbz rfl⟩ rfl rfl hl.1 rfl (lv_room (lbz rfl)) aMO.2.2.2.2.2.2.2.2.2.2.2.2.2.2.2 ⟨Nat.zero_le _, Nat.zero_le _⟩) (fun r_33 u H locs hp hP hD hS => ?_)
  obtain ⟨m_at_34, rfl⟩ : ∃ z, z = u := ⟨_, rfl⟩
  have hPD := PDm (ws' := (aC6 cI cC cZ cB cJ a_m nY sJ eG iY lY jR jW jZ jO oQ bR aY jQ gY iJ mQ lJ jA bG mK jB mW mJ eJ dG bT aG jC bL bY jD mLn oF m_at_34 dQ aJ aB bW bZ aR aE bI aW bU fJ dO bM bQ bO jY oX qO (upd qT k1.toNatClampNeg k2) qA qQ)) hP hD 5 rfl rfl rfl
  have hP := hPD.1
  have hD := hPD.2
  refine lv_if_eq (tgt := 120) hx hb aKk.1 (by decide) (fun hc => ?_) (fun hc => ?_)
  · have hp := hp.1 hc
    refine lv_iconst (v := 0) hx hb aKk.2.2.2.2.2.1 aCi ?_
    exact ks_X10_readLine_121 C0 v_32 0 m_at_34 dQ aJ aB (upd qT k1.toNatClampNeg k2) qA H locs ls hp hP hD hS (lv_sub hl [0] rfl)
  · have hp := hp.2 hc
    refine lv_aload_n hx hb aKk.2.1 rfl (lv_at hl 0 rfl) ?_
    refine lv_iconst (v := 1) hx hb aKk.2.2.1 aDx ?_
    have hm := mgk (wc := (aG9 cI cC cZ cB cJ a_m nY sJ eG iY lY jR jW jZ jO oQ bR aY jQ gY iJ mQ lJ jA bG mK jB mW mJ eJ dG bT aG jC bL bY jD mLn oF m_at_34 dQ aJ aB bW bZ aR aE bI aW bU fJ dO bM bQ bO jY oX qO qQ)) hP aRd 5 rfl rfl rfl
    refine yW hP hD hS hA (yS aRd) (aAi aRd) hm.1 hm.2 (aAk _) (zW _) (zF (As := [.int 1]) (rest := [.int v_32, .ref bR]) C0 hP hD hS (yS aRd) hm.1 (aAl _) 0 10 rfl rfl (c_X10_number l dC dI cI cC cZ cB cJ a_m nY sJ eG iY lY jR jW jZ jO oQ bR aY jQ gY iJ mQ lJ jA bG mK jB mW mJ eJ dG H.size 1 bT aG jC bL bY jD mLn oF m_at_34 dQ aJ aB bW bZ aR aE bI aW bU fJ dO bM bQ bO jY oX qO qQ _ hp) q_669 q_672 q_670 q_671 aBL h_X10_number rfl rfl ⟨lbz rfl, lbz rfl⟩ rfl rfl hl.1 rfl (lv_room (lbz rfl)) aKk.2.2.2.1 ⟨Nat.zero_le _, Nat.zero_le _⟩) (fun r_36 u H locs hp hP hD hS => ?_)
    obtain ⟨m_at_37, m_wrong_38⟩ := u
    have hPD := PDm (ws' := (aC6 cI cC cZ cB cJ a_m nY sJ eG iY lY jR jW jZ jO oQ bR aY jQ gY iJ mQ lJ jA bG mK jB mW mJ eJ dG bT aG jC bL bY jD mLn oF m_at_37 m_wrong_38 aJ aB bW bZ aR aE bI aW bU fJ dO bM bQ bO jY oX qO (upd qT k1.toNatClampNeg k2) qA qQ)) hP hD 5 rfl rfl rfl
    have hP := hPD.1
    have hD := hPD.2
    refine lv_goto (tgt := 121) hx hb aKk.2.2.2.2.1 (by decide) ?_
    exact ks_X10_readLine_121 C0 v_32 r_36 m_at_37 m_wrong_38 aJ aB (upd qT k1.toNatClampNeg k2) qA H locs ls hp hP hD hS (lv_sub hl [0] rfl)
end S_X10_readLine
def bCJ (post : Int32 -> Int32 -> Int32 -> Int32 -> (Nat -> Int32) -> (Nat -> Int32) -> Prop) (bT aG : Int32) (jD : Nat) (mLn oF rP dQ aJ aB : Int32) (qO qT qA qQ : Nat -> Int32) : Prop := aPe (fun r_1 => (¬ r_1 = 102 -> ws_X10_readLine_135 post bT aG jD mLn oF qO qQ rP dQ aJ aB qT qA) /\ (r_1 = 102 -> ∀ v_17 : Int32, v_17 = bT + aJ -> (16 <= v_17 -> ws_X10_readLine_135 post bT aG jD mLn oF qO qQ rP dQ aJ aB qT qA) /\ (¬ 16 <= v_17 -> ∀ v_18 : Int32, v_18 = 4 * aJ -> ∀ v_19 : Int32, v_19 = rP + 1 -> aOj (fun r_20 m_at_21 m_wrong_22 => vp_in v_18 64 /\ (wp_X10_need (fun m_at_23 m_wrong_24 => ∀ v_25 : Int32, v_25 = v_18 + 1 -> aOj (fun r_26 m_at_27 aVK => vp_in v_25 64 /\ (∀ v_29 : Int32, v_29 = v_18 + 2 -> aPM (fun r_30 m_at_31 => (r_30 = 0 -> ws_X10_readLine_95 post bT aG jD mLn oF qO qQ v_18 v_29 1 m_at_31 aVK aJ aB (upd (upd qT v_18.toNatClampNeg r_20) v_25.toNatClampNeg r_26) qA) /\ (¬ r_30 = 0 -> aOj (fun r_39 m_at_40 m_wrong_41 => ws_X10_readLine_95 post bT aG jD mLn oF qO qQ v_18 v_29 r_39 m_at_40 m_wrong_41 aJ aB (upd (upd qT v_18.toNatClampNeg r_20) v_25.toNatClampNeg r_26) qA) 1 jD mLn oF m_at_31 aVK qO qQ)) 42 jD mLn oF m_at_27 aVK qO qQ)) 2 jD mLn oF m_at_23 m_wrong_24 qO qQ) 44 jD mLn oF m_at_21 m_wrong_22 qO qQ)) 2 jD mLn oF v_19 dQ qO qQ))) jD mLn oF rP qO qQ
set_option maxHeartbeats 4000000 in
set_option maxRecDepth 100000 in
theorem c_X10_readLine (l : Launch) (dC : Nat -> ClassId) (dI : Nat -> Nat -> Nat) (cI cC cZ cB cJ : ClassId) (a_m nY sJ eG iY lY jR jW jZ jO oQ bR aY jQ gY iJ mQ lJ jA bG mK jB mW mJ eJ dG sz : Nat) (bT aG jC bL bY : Int32) (jD : Nat) (mLn oF rP dQ aJ aB bW bZ aR aE bI aW bU fJ dO bM bQ bO jY oX : Int32) (qO qT qA qQ : Nat -> Int32) (post : Int32 -> Int32 -> Int32 -> Int32 -> (Nat -> Int32) -> (Nat -> Int32) -> Prop) (hw : bCJ post bT aG jD mLn oF rP dQ aJ aB qO qT qA qQ) : Met l yX10_readLine (gw yX10_readLine aA7 2 none) rm_X10_readLine (va_Pc [.ref a_m] (gPre (dC, dI) (tyl cI cC cZ cB cJ) (aC6 cI cC cZ cB cJ a_m nY sJ eG iY lY jR jW jZ jO oQ bR aY jQ gY iJ mQ lJ jA bG mK jB mW mJ eJ dG bT aG jC bL bY jD mLn oF rP dQ aJ aB bW bZ aR aE bI aW bU fJ dO bM bQ bO jY oX qO qT qA qQ) sz)) (q_X10_readLine dC dI cI cC cZ cB cJ (va_A (aC6 cI cC cZ cB cJ a_m nY sJ eG iY lY jR jW jZ jO oQ bR aY jQ gY iJ mQ lJ jA bG mK jB mW mJ eJ dG bT aG jC bL bY jD mLn oF rP dQ aJ aB bW bZ aR aE bI aW bU fJ dO bM bQ bO jY oX qO qT qA qQ) sz) a_m nY sJ eG iY lY jR jW jZ jO oQ bR aY jQ gY iJ mQ lJ jA bG mK jB mW mJ eJ dG bT aG jC bL bY jD mLn oF bW bZ aR aE bI aW bU fJ dO bM bQ bO jY oX qO qQ post) 0 0 (va_A (aC6 cI cC cZ cB cJ a_m nY sJ eG iY lY jR jW jZ jO oQ bR aY jQ gY iJ mQ lJ jA bG mK jB mW mJ eJ dG bT aG jC bL bY jD mLn oF rP dQ aJ aB bW bZ aR aE bI aW bU fJ dO bM bQ bO jY oX qO qT qA qQ) sz) := by
  refine aBJ (own := zX) (dC, dI) (tyl cI cC cZ cB cJ) (aC6 cI cC cZ cB cJ a_m nY sJ eG iY lY jR jW jZ jO oQ bR aY jQ gY iJ mQ lJ jA bG mK jB mW mJ eJ dG bT aG jC bL bY jD mLn oF rP dQ aJ aB bW bZ aR aE bI aW bU fJ dO bM bQ bO jY oX qO qT qA qQ) sz [.ref a_m] (fun A => q_X10_readLine dC dI cI cC cZ cB cJ A a_m nY sJ eG iY lY jR jW jZ jO oQ bR aY jQ gY iJ mQ lJ jA bG mK jB mW mJ eJ dG bT aG jC bL bY jD mLn oF bW bZ aR aE bI aW bU fJ dO bM bQ bO jY oX qO qQ post) aFY rfl (lbz rfl) ?_
  intro p e s m args below meth c A H locs ls C0 hP hD hS hl
  have hl : lv_has ls 2 [(0, .ref a_m)] := hl
  obtain ⟨hx, hb, hr, hml, hown, hts, hlocks, hA, hK, hN, tL, tM, hZL, hTL, hZM, hTM, hZX⟩ := id C0
  have hp := hw
  unfold bCJ at hp
  refine lv_aload_n hx hb aN0.1 rfl (lv_at hl 0 rfl) ?_
  have hm := mgk (wc := (aVg cI cC cZ cB cJ a_m nY sJ eG iY lY jR jW jZ jO oQ bR aY jQ gY iJ mQ lJ jA bG mK jB mW mJ eJ dG bT aG jC bL bY jD mLn oF rP dQ aJ aB bW bZ aR aE bI aW bU fJ dO bM bQ bO jY oX qO qQ)) hP aRd 5 rfl rfl rfl
  refine yW hP hD hS hA (yS aRd) (aAi aRd) hm.1 hm.2 (aAk _) (zW _) (zF (As := []) (rest := []) C0 hP hD hS (yS aRd) hm.1 (aAl _) 0 10 rfl rfl (c_X10_here l dC dI cI cC cZ cB cJ a_m nY sJ eG iY lY jR jW jZ jO oQ bR aY jQ gY iJ mQ lJ jA bG mK jB mW mJ eJ dG H.size bT aG jC bL bY jD mLn oF rP dQ aJ aB bW bZ aR aE bI aW bU fJ dO bM bQ bO jY oX qO qQ _ hp) q_658 q_661 q_659 q_660 aBL h_X10_here rfl rfl ⟨lbz rfl, lbz rfl⟩ rfl rfl hl.1 rfl (lv_room (lbz rfl)) aN0.2.1 ⟨Nat.zero_le _, Nat.zero_le _⟩) (fun r_1 u H locs hp hP hD hS => ?_)
  have hPD := PDm (ws' := (aC6 cI cC cZ cB cJ a_m nY sJ eG iY lY jR jW jZ jO oQ bR aY jQ gY iJ mQ lJ jA bG mK jB mW mJ eJ dG bT aG jC bL bY jD mLn oF rP dQ aJ aB bW bZ aR aE bI aW bU fJ dO bM bQ bO jY oX qO qT qA qQ)) hP hD 5 rfl rfl rfl
  have hP := hPD.1
  have hD := hPD.2
  refine lv_bipush (v := 102) hx hb aN0.2.2.1 bp_102 ?_
  refine lv_icmp_ne (tgt := 135) hx hb aN0.2.2.2.1 (by decide) (fun hc => ?_) (fun hc => ?_)
  · have hp := hp.1 hc
    exact ks_X10_readLine_135 C0 rP dQ aJ aB qT qA H locs ls hp hP hD hS (lv_sub hl [0] rfl)
  · have hp := hp.2 hc
    refine lv_aload_n hx hb aN0.2.2.2.2.1 rfl (lv_at hl 0 rfl) ?_
    refine va_get (D := (dC, dI)) (ci := 10) (v := .int bT) (C := zX) (T := aBe) (N := 51) hx hb hts aAt hown hK hP 0 rfl rfl 1 (lbz rfl) (hts _ q_677) (fun _ h9 => h9) rfl aN0.2.2.2.2.2.1 ?_
    refine lv_aload_n hx hb aN0.2.2.2.2.2.2.1 rfl (lv_at hl 0 rfl) ?_
    refine va_get (D := (dC, dI)) (ci := 10) (v := .int aJ) (C := zX) (T := aBe) (N := 51) hx hb hts aAt hown hK hP 0 rfl rfl 22 (lbz rfl) (hts _ q_678) (fun _ h9 => h9) rfl aN0.2.2.2.2.2.2.2.1 ?_
    refine lv_iadd hx hb aN0.2.2.2.2.2.2.2.2.1 ?_
    refine lv_topi (fun v_17 ev_17 => ?_)
    have hp := hp v_17 ev_17
    refine lv_bipush (v := 16) hx hb aN0.2.2.2.2.2.2.2.2.2.1 bp_16 ?_
    refine lv_icmp_ge (tgt := 135) hx hb aN0.2.2.2.2.2.2.2.2.2.2.1 (by decide) (fun hc => ?_) (fun hc => ?_)
    · have hp := hp.1 hc
      exact ks_X10_readLine_135 C0 rP dQ aJ aB qT qA H locs ls hp hP hD hS (lv_sub hl [0] rfl)
    · have hp := hp.2 hc
      refine lv_iconst (v := 4) hx hb aN0.2.2.2.2.2.2.2.2.2.2.2.1 ic_4 ?_
      refine lv_aload_n hx hb aN0.2.2.2.2.2.2.2.2.2.2.2.2.1 rfl (lv_at hl 0 rfl) ?_
      refine va_get (D := (dC, dI)) (ci := 10) (v := .int aJ) (C := zX) (T := aBe) (N := 51) hx hb hts aAt hown hK hP 0 rfl rfl 22 (lbz rfl) (hts _ q_678) (fun _ h9 => h9) rfl aN0.2.2.2.2.2.2.2.2.2.2.2.2.2.1 ?_
      refine lv_imul hx hb aN0.2.2.2.2.2.2.2.2.2.2.2.2.2.2.1 ?_
      refine lv_topi (fun v_18 ev_18 => ?_)
      have hp := hp v_18 ev_18
      refine lv_istore_n (lv' := [(1, .int v_18), (0, .ref a_m)]) hx hb aN0.2.2.2.2.2.2.2.2.2.2.2.2.2.2.2 rfl hl (by decide) rfl (fun ls hl => ?_)
      refine lv_aload_n hx hb aMM.1 rfl (lv_at hl 1 rfl) ?_
      refine lv_dup hx hb aMM.2.1 rfl ?_
      refine va_get (D := (dC, dI)) (ci := 10) (v := .int rP) (C := zX) (T := aBe) (N := 51) hx hb hts aAt hown hK hP 0 rfl rfl 18 (lbz rfl) (hts _ q_648) (fun _ h9 => h9) rfl aMM.2.2.1 ?_
      refine lv_iconst (v := 1) hx hb aMM.2.2.2.1 aDx ?_
      refine lv_iadd hx hb aMM.2.2.2.2.1 ?_
      refine lv_topi (fun v_19 ev_19 => ?_)
      have hp := hp v_19 ev_19
      refine va_put (D := (dC, dI)) (ci := 10) (v := .int v_19) (ty := .int) (C := zX) (T := aBe) (N := 51) hx hb hts aAt aD2 aAa aEC hown hK hP hD hS 0 rfl rfl 18 (lbz rfl) (hts _ q_648) (fun _ h9 => h9) rfl (aAa 18 (lbz rfl)) rfl rfl (lbz rfl) aMM.2.2.2.2.2.1 (fun H locs hP hD hS => ?_)
      have hPD := PDw (ws' := (aC6 cI cC cZ cB cJ a_m nY sJ eG iY lY jR jW jZ jO oQ bR aY jQ gY iJ mQ lJ jA bG mK jB mW mJ eJ dG bT aG jC bL bY jD mLn oF v_19 dQ aJ aB bW bZ aR aE bI aW bU fJ dO bM bQ bO jY oX qO qT qA qQ)) hP hD rfl
      have hP := hPD.1
      have hD := hPD.2
      refine lv_aload_n hx hb aMM.2.2.2.2.2.2.1 rfl (lv_at hl 1 rfl) ?_
      refine va_get (D := (dC, dI)) (ci := 10) (v := .ref bR) (C := zX) (T := aBe) (N := 51) hx hb hts aAt hown hK hP 0 rfl rfl 20 (lbz rfl) (hts _ q_679) (fun _ h9 => h9) rfl aMM.2.2.2.2.2.2.2.1 ?_
      refine lv_iload_n hx hb aMM.2.2.2.2.2.2.2.2.1 rfl (lv_at hl 0 rfl) ?_
      refine lv_aload_n hx hb aMM.2.2.2.2.2.2.2.2.2.1 rfl (lv_at hl 1 rfl) ?_
      refine lv_iconst (v := 2) hx hb aMM.2.2.2.2.2.2.2.2.2.2.1 ic_2 ?_
      have hm := mgk (wc := (aG9 cI cC cZ cB cJ a_m nY sJ eG iY lY jR jW jZ jO oQ bR aY jQ gY iJ mQ lJ jA bG mK jB mW mJ eJ dG bT aG jC bL bY jD mLn oF v_19 dQ aJ aB bW bZ aR aE bI aW bU fJ dO bM bQ bO jY oX qO qQ)) hP aRd 5 rfl rfl rfl
      refine yW hP hD hS hA (yS aRd) (aAi aRd) hm.1 hm.2 (aAk _) (zW _) (zF (As := [.int 2]) (rest := [.int v_18, .ref bR]) C0 hP hD hS (yS aRd) hm.1 (aAl _) 0 10 rfl rfl (c_X10_number l dC dI cI cC cZ cB cJ a_m nY sJ eG iY lY jR jW jZ jO oQ bR aY jQ gY iJ mQ lJ jA bG mK jB mW mJ eJ dG H.size 2 bT aG jC bL bY jD mLn oF v_19 dQ aJ aB bW bZ aR aE bI aW bU fJ dO bM bQ bO jY oX qO qQ _ hp) q_669 q_672 q_670 q_671 aBL h_X10_number rfl rfl ⟨lbz rfl, lbz rfl⟩ rfl rfl hl.1 rfl (lv_room (lbz rfl)) aMM.2.2.2.2.2.2.2.2.2.2.2.1 ⟨Nat.zero_le _, Nat.zero_le _⟩) (fun r_20 u H locs hp hP hD hS => ?_)
      obtain ⟨m_at_21, m_wrong_22⟩ := u
      have hPD := PDm (ws' := (aC6 cI cC cZ cB cJ a_m nY sJ eG iY lY jR jW jZ jO oQ bR aY jQ gY iJ mQ lJ jA bG mK jB mW mJ eJ dG bT aG jC bL bY jD mLn oF m_at_21 m_wrong_22 aJ aB bW bZ aR aE bI aW bU fJ dO bM bQ bO jY oX qO qT qA qQ)) hP hD 5 rfl rfl rfl
      have hP := hPD.1
      have hD := hPD.2
      have hin := hp.1
      have hp := hp.2
      refine va_iast hx hb hK hP hD hS 2 0 rfl rfl hin aMM.2.2.2.2.2.2.2.2.2.2.2.2.1 (fun H locs hP hD hS => ?_)
      have hPD := PDw (ws' := (aC6 cI cC cZ cB cJ a_m nY sJ eG iY lY jR jW jZ jO oQ bR aY jQ gY iJ mQ lJ jA bG mK jB mW mJ eJ dG bT aG jC bL bY jD mLn oF m_at_21 m_wrong_22 aJ aB bW bZ aR aE bI aW bU fJ dO bM bQ bO jY oX qO (upd qT v_18.toNatClampNeg r_20) qA qQ)) hP hD rfl
      have hP := hPD.1
      have hD := hPD.2
      refine lv_aload_n hx hb aMM.2.2.2.2.2.2.2.2.2.2.2.2.2.1 rfl (lv_at hl 1 rfl) ?_
      refine lv_bipush (v := 44) hx hb aMM.2.2.2.2.2.2.2.2.2.2.2.2.2.2.1 bp_44 ?_
      have hm := mgk (wc := (wd_X10_need cI cC cZ cB cJ a_m nY sJ eG iY lY jR jW jZ jO oQ bR aY jQ gY iJ mQ lJ jA bG mK jB mW mJ eJ dG bT aG jC bL bY jD mLn oF m_at_21 m_wrong_22 aJ aB bW bZ aR aE bI aW bU fJ dO bM bQ bO jY oX qO qQ)) hP aRd 5 rfl rfl rfl
      refine aBn hP hD hS hA (yS aRd) (aAi aRd) hm.1 hm.2 (aAk _) (zW _) (zF (As := [.int 44]) (rest := []) C0 hP hD hS (yS aRd) hm.1 (aAl _) 0 10 rfl rfl (c_X10_need l dC dI cI cC cZ cB cJ a_m nY sJ eG iY lY jR jW jZ jO oQ bR aY jQ gY iJ mQ lJ jA bG mK jB mW mJ eJ dG H.size 44 bT aG jC bL bY jD mLn oF m_at_21 m_wrong_22 aJ aB bW bZ aR aE bI aW bU fJ dO bM bQ bO jY oX qO qQ _ hp) q_673 q_676 q_674 q_675 aBL h_X10_need rfl rfl ⟨lbz rfl, lbz rfl⟩ rfl rfl hl.1 rfl (lv_room (lbz rfl)) aMM.2.2.2.2.2.2.2.2.2.2.2.2.2.2.2 ⟨Nat.zero_le _, Nat.zero_le _⟩) (fun u H locs hp hP hD hS => ?_)
      obtain ⟨m_at_23, m_wrong_24⟩ := u
      have hPD := PDm (ws' := (aC6 cI cC cZ cB cJ a_m nY sJ eG iY lY jR jW jZ jO oQ bR aY jQ gY iJ mQ lJ jA bG mK jB mW mJ eJ dG bT aG jC bL bY jD mLn oF m_at_23 m_wrong_24 aJ aB bW bZ aR aE bI aW bU fJ dO bM bQ bO jY oX qO (upd qT v_18.toNatClampNeg r_20) qA qQ)) hP hD 5 rfl rfl rfl
      have hP := hPD.1
      have hD := hPD.2
      refine lv_aload_n hx hb aMN.1 rfl (lv_at hl 1 rfl) ?_
      refine va_get (D := (dC, dI)) (ci := 10) (v := .ref bR) (C := zX) (T := aBe) (N := 51) hx hb hts aAt hown hK hP 0 rfl rfl 20 (lbz rfl) (hts _ q_679) (fun _ h9 => h9) rfl aMN.2.1 ?_
      refine lv_iload_n hx hb aMN.2.2.1 rfl (lv_at hl 0 rfl) ?_
      refine lv_iconst (v := 1) hx hb aMN.2.2.2.1 aDx ?_
      refine lv_iadd hx hb aMN.2.2.2.2.1 ?_
      refine lv_topi (fun v_25 ev_25 => ?_)
      have hp := hp v_25 ev_25
      refine lv_aload_n hx hb aMN.2.2.2.2.2.1 rfl (lv_at hl 1 rfl) ?_
      refine lv_iconst (v := 2) hx hb aMN.2.2.2.2.2.2.1 ic_2 ?_
      have hm := mgk (wc := (aG9 cI cC cZ cB cJ a_m nY sJ eG iY lY jR jW jZ jO oQ bR aY jQ gY iJ mQ lJ jA bG mK jB mW mJ eJ dG bT aG jC bL bY jD mLn oF m_at_23 m_wrong_24 aJ aB bW bZ aR aE bI aW bU fJ dO bM bQ bO jY oX qO qQ)) hP aRd 5 rfl rfl rfl
      refine yW hP hD hS hA (yS aRd) (aAi aRd) hm.1 hm.2 (aAk _) (zW _) (zF (As := [.int 2]) (rest := [.int v_25, .ref bR]) C0 hP hD hS (yS aRd) hm.1 (aAl _) 0 10 rfl rfl (c_X10_number l dC dI cI cC cZ cB cJ a_m nY sJ eG iY lY jR jW jZ jO oQ bR aY jQ gY iJ mQ lJ jA bG mK jB mW mJ eJ dG H.size 2 bT aG jC bL bY jD mLn oF m_at_23 m_wrong_24 aJ aB bW bZ aR aE bI aW bU fJ dO bM bQ bO jY oX qO qQ _ hp) q_669 q_672 q_670 q_671 aBL h_X10_number rfl rfl ⟨lbz rfl, lbz rfl⟩ rfl rfl hl.1 rfl (lv_room (lbz rfl)) aMN.2.2.2.2.2.2.2.1 ⟨Nat.zero_le _, Nat.zero_le _⟩) (fun r_26 u H locs hp hP hD hS => ?_)
      obtain ⟨m_at_27, aVK⟩ := u
      have hPD := PDm (ws' := (aC6 cI cC cZ cB cJ a_m nY sJ eG iY lY jR jW jZ jO oQ bR aY jQ gY iJ mQ lJ jA bG mK jB mW mJ eJ dG bT aG jC bL bY jD mLn oF m_at_27 aVK aJ aB bW bZ aR aE bI aW bU fJ dO bM bQ bO jY oX qO (upd qT v_18.toNatClampNeg r_20) qA qQ)) hP hD 5 rfl rfl rfl
      have hP := hPD.1
      have hD := hPD.2
      have hin := hp.1
      have hp := hp.2
      refine va_iast hx hb hK hP hD hS 2 0 rfl rfl hin aMN.2.2.2.2.2.2.2.2.1 (fun H locs hP hD hS => ?_)
      have hPD := PDw (ws' := (aC6 cI cC cZ cB cJ a_m nY sJ eG iY lY jR jW jZ jO oQ bR aY jQ gY iJ mQ lJ jA bG mK jB mW mJ eJ dG bT aG jC bL bY jD mLn oF m_at_27 aVK aJ aB bW bZ aR aE bI aW bU fJ dO bM bQ bO jY oX qO (upd (upd qT v_18.toNatClampNeg r_20) v_25.toNatClampNeg r_26) qA qQ)) hP hD rfl
      have hP := hPD.1
      have hD := hPD.2
      refine lv_aload_n hx hb aMN.2.2.2.2.2.2.2.2.2.1 rfl (lv_at hl 1 rfl) ?_
      refine va_get (D := (dC, dI)) (ci := 10) (v := .ref bR) (C := zX) (T := aBe) (N := 51) hx hb hts aAt hown hK hP 0 rfl rfl 20 (lbz rfl) (hts _ q_679) (fun _ h9 => h9) rfl aMN.2.2.2.2.2.2.2.2.2.2.1 ?_
      refine lv_iload_n hx hb aMN.2.2.2.2.2.2.2.2.2.2.2.1 rfl (lv_at hl 0 rfl) ?_
      refine lv_iconst (v := 2) hx hb aMN.2.2.2.2.2.2.2.2.2.2.2.2.1 ic_2 ?_
      refine lv_iadd hx hb aMN.2.2.2.2.2.2.2.2.2.2.2.2.2.1 ?_
      refine lv_topi (fun v_29 ev_29 => ?_)
      have hp := hp v_29 ev_29
      refine lv_aload_n hx hb aMN.2.2.2.2.2.2.2.2.2.2.2.2.2.2.1 rfl (lv_at hl 1 rfl) ?_
      refine lv_bipush (v := 42) hx hb aMN.2.2.2.2.2.2.2.2.2.2.2.2.2.2.2 bp_42 ?_
      have hm := mgk (wc := (aOh cI cC cZ cB cJ a_m nY sJ eG iY lY jR jW jZ jO oQ bR aY jQ gY iJ mQ lJ jA bG mK jB mW mJ eJ dG bT aG jC bL bY jD mLn oF m_at_27 aVK aJ aB bW bZ aR aE bI aW bU fJ dO bM bQ bO jY oX qO qQ)) hP aRd 5 rfl rfl rfl
      refine yW hP hD hS hA (yS aRd) (aAi aRd) hm.1 hm.2 (aAk _) (zW _) (zF (As := [.int 42]) (rest := [.int v_29, .ref bR]) C0 hP hD hS (yS aRd) hm.1 (aAl _) 0 10 rfl rfl (c_X10_passes l dC dI cI cC cZ cB cJ a_m nY sJ eG iY lY jR jW jZ jO oQ bR aY jQ gY iJ mQ lJ jA bG mK jB mW mJ eJ dG H.size 42 bT aG jC bL bY jD mLn oF m_at_27 aVK aJ aB bW bZ aR aE bI aW bU fJ dO bM bQ bO jY oX qO qQ _ hp) q_662 q_665 q_663 q_664 aBL h_X10_passes rfl rfl ⟨lbz rfl, lbz rfl⟩ rfl rfl hl.1 rfl (lv_room (lbz rfl)) aMO.1 ⟨Nat.zero_le _, Nat.zero_le _⟩) (fun r_30 u H locs hp hP hD hS => ?_)
      obtain ⟨m_at_31, rfl⟩ : ∃ z, z = u := ⟨_, rfl⟩
      have hPD := PDm (ws' := (aC6 cI cC cZ cB cJ a_m nY sJ eG iY lY jR jW jZ jO oQ bR aY jQ gY iJ mQ lJ jA bG mK jB mW mJ eJ dG bT aG jC bL bY jD mLn oF m_at_31 aVK aJ aB bW bZ aR aE bI aW bU fJ dO bM bQ bO jY oX qO (upd (upd qT v_18.toNatClampNeg r_20) v_25.toNatClampNeg r_26) qA qQ)) hP hD 5 rfl rfl rfl
      have hP := hPD.1
      have hD := hPD.2
      refine lv_if_eq (tgt := 94) hx hb aMO.2.1 (by decide) (fun hc => ?_) (fun hc => ?_)
      · have hp := hp.1 hc
        refine lv_iconst (v := 1) hx hb aMO.2.2.2.2.2.2.1 aDx ?_
        exact ks_X10_readLine_95 C0 v_18 v_29 1 m_at_31 aVK aJ aB (upd (upd qT v_18.toNatClampNeg r_20) v_25.toNatClampNeg r_26) qA H locs ls hp hP hD hS (lv_sub hl [1, 0] rfl)
      · have hp := hp.2 hc
        refine lv_aload_n hx hb aMO.2.2.1 rfl (lv_at hl 1 rfl) ?_
        refine lv_iconst (v := 1) hx hb aMO.2.2.2.1 aDx ?_
        have hm := mgk (wc := (aG9 cI cC cZ cB cJ a_m nY sJ eG iY lY jR jW jZ jO oQ bR aY jQ gY iJ mQ lJ jA bG mK jB mW mJ eJ dG bT aG jC bL bY jD mLn oF m_at_31 aVK aJ aB bW bZ aR aE bI aW bU fJ dO bM bQ bO jY oX qO qQ)) hP aRd 5 rfl rfl rfl
        refine yW hP hD hS hA (yS aRd) (aAi aRd) hm.1 hm.2 (aAk _) (zW _) (zF (As := [.int 1]) (rest := [.int v_29, .ref bR]) C0 hP hD hS (yS aRd) hm.1 (aAl _) 0 10 rfl rfl (c_X10_number l dC dI cI cC cZ cB cJ a_m nY sJ eG iY lY jR jW jZ jO oQ bR aY jQ gY iJ mQ lJ jA bG mK jB mW mJ eJ dG H.size 1 bT aG jC bL bY jD mLn oF m_at_31 aVK aJ aB bW bZ aR aE bI aW bU fJ dO bM bQ bO jY oX qO qQ _ hp) q_669 q_672 q_670 q_671 aBL h_X10_number rfl rfl ⟨lbz rfl, lbz rfl⟩ rfl rfl hl.1 rfl (lv_room (lbz rfl)) aMO.2.2.2.2.1 ⟨Nat.zero_le _, Nat.zero_le _⟩) (fun r_39 u H locs hp hP hD hS => ?_)
        obtain ⟨m_at_40, m_wrong_41⟩ := u
        have hPD := PDm (ws' := (aC6 cI cC cZ cB cJ a_m nY sJ eG iY lY jR jW jZ jO oQ bR aY jQ gY iJ mQ lJ jA bG mK jB mW mJ eJ dG bT aG jC bL bY jD mLn oF m_at_40 m_wrong_41 aJ aB bW bZ aR aE bI aW bU fJ dO bM bQ bO jY oX qO (upd (upd qT v_18.toNatClampNeg r_20) v_25.toNatClampNeg r_26) qA qQ)) hP hD 5 rfl rfl rfl
        have hP := hPD.1
        have hD := hPD.2
        refine lv_goto (tgt := 95) hx hb aMO.2.2.2.2.2.1 (by decide) ?_
        exact ks_X10_readLine_95 C0 v_18 v_29 r_39 m_at_40 m_wrong_41 aJ aB (upd (upd qT v_18.toNatClampNeg r_20) v_25.toNatClampNeg r_26) qA H locs ls hp hP hD hS (lv_sub hl [1, 0] rfl)
abbrev aCT (cI cC cZ cB cJ : ClassId) (a_m nY sJ eG iY lY jR jW jZ jO oQ bR aY jQ gY iJ mQ lJ jA bG mK jB mW mJ eJ dG : Nat) (bT aG jC bL bY : Int32) (jD : Nat) (mLn oF rP dQ aJ aB bW bZ aR aE bI aW bU fJ dO bM bQ bO jY oX : Int32) (qG m_x gR pW qR nG oO qO qT qA qQ : Nat -> Int32) : va_W := [(a_m, .inr (10, [.ref nY, .int bT, .ref sJ, .ref eG, .ref iY, .ref lY, .int aG, .ref jR, .ref jW, .ref jZ, .ref jO, .int jC, .ref oQ, .int bL, .int bY, rdv jO jQ jD, .int mLn, .int oF, .int rP, .int dQ, .ref bR, .ref aY, .int aJ, .int aB, .ref jQ, .int bW, .int bZ, .int aR, .int aE, .int bI, .int aW, .ref gY, .int bU, .ref iJ, .ref mQ, .int fJ, .ref lJ, .int dO, .ref jA, .ref bG, .int bM, .int bQ, .int bO, .ref mK, .ref jB, .ref mW, .int jY, .int oX, .ref mJ, .ref eJ, .ref dG])), (nY, .inl (cI, 21, .inl qG)), (sJ, .inl (cI, 16, .inl m_x)), (eG, .inl (cI, 16, .inl gR)), (iY, .inl (cI, 16, .inl pW)), (lY, .inl (cI, 16, .inl qR)), (jR, .inl (cI, 8, .inl nG)), (jW, .inl (cI, 8, .inl oO)), (jO, .inl (cB, 80, .inl qO)), (bR, .inl (cI, 64, .inl qT)), (aY, .inl (cI, 16, .inl qA)), (jQ, .inl (cB, 40, .inl qQ))]
abbrev aZb (dC : Nat -> ClassId) (dI : Nat -> Nat -> Nat) (cI cC cZ cB cJ : ClassId) (A : Nat -> Prop) (a_m nY sJ eG iY lY jR jW jZ jO oQ bR aY jQ gY iJ mQ lJ jA bG mK jB mW mJ eJ dG : Nat) (bL bW bZ aR aE bI aW fJ dO bM bQ bO jY : Int32) (qO qQ : Nat -> Int32) (post : Int32 -> Int32 -> Int32 -> Int32 -> Int32 -> Nat -> Int32 -> Int32 -> Int32 -> Int32 -> Int32 -> Int32 -> Int32 -> Int32 -> (Nat -> Int32) -> (Nat -> Int32) -> (Nat -> Int32) -> (Nat -> Int32) -> (Nat -> Int32) -> (Nat -> Int32) -> (Nat -> Int32) -> (Nat -> Int32) -> (Nat -> Int32) -> Prop) : Array Value -> State -> Outcome -> State -> Prop := va_Qi (fun (r : Int32) (u : Int32 × Int32 × Int32 × Int32 × Nat × Int32 × Int32 × Int32 × Int32 × Int32 × Int32 × Int32 × Int32 × (Nat -> Int32) × (Nat -> Int32) × (Nat -> Int32) × (Nat -> Int32) × (Nat -> Int32) × (Nat -> Int32) × (Nat -> Int32) × (Nat -> Int32) × (Nat -> Int32)) => post r u.1 u.2.1 u.2.2.1 u.2.2.2.1 u.2.2.2.2.1 u.2.2.2.2.2.1 u.2.2.2.2.2.2.1 u.2.2.2.2.2.2.2.1 u.2.2.2.2.2.2.2.2.1 u.2.2.2.2.2.2.2.2.2.1 u.2.2.2.2.2.2.2.2.2.2.1 u.2.2.2.2.2.2.2.2.2.2.2.1 u.2.2.2.2.2.2.2.2.2.2.2.2.1 u.2.2.2.2.2.2.2.2.2.2.2.2.2.1 u.2.2.2.2.2.2.2.2.2.2.2.2.2.2.1 u.2.2.2.2.2.2.2.2.2.2.2.2.2.2.2.1 u.2.2.2.2.2.2.2.2.2.2.2.2.2.2.2.2.1 u.2.2.2.2.2.2.2.2.2.2.2.2.2.2.2.2.2.1 u.2.2.2.2.2.2.2.2.2.2.2.2.2.2.2.2.2.2.1 u.2.2.2.2.2.2.2.2.2.2.2.2.2.2.2.2.2.2.2.1 u.2.2.2.2.2.2.2.2.2.2.2.2.2.2.2.2.2.2.2.2.1 u.2.2.2.2.2.2.2.2.2.2.2.2.2.2.2.2.2.2.2.2.2) (fun u t => gB (dC, dI) (tyl cI cC cZ cB cJ) A (aCT cI cC cZ cB cJ a_m nY sJ eG iY lY jR jW jZ jO oQ bR aY jQ gY iJ mQ lJ jA bG mK jB mW mJ eJ dG u.1 u.2.1 u.2.2.1 bL u.2.2.2.1 u.2.2.2.2.1 u.2.2.2.2.2.1 u.2.2.2.2.2.2.1 u.2.2.2.2.2.2.2.1 u.2.2.2.2.2.2.2.2.1 u.2.2.2.2.2.2.2.2.2.1 u.2.2.2.2.2.2.2.2.2.2.1 bW bZ aR aE bI aW u.2.2.2.2.2.2.2.2.2.2.2.1 fJ dO bM bQ bO jY u.2.2.2.2.2.2.2.2.2.2.2.2.1 u.2.2.2.2.2.2.2.2.2.2.2.2.2.1 u.2.2.2.2.2.2.2.2.2.2.2.2.2.2.1 u.2.2.2.2.2.2.2.2.2.2.2.2.2.2.2.1 u.2.2.2.2.2.2.2.2.2.2.2.2.2.2.2.2.1 u.2.2.2.2.2.2.2.2.2.2.2.2.2.2.2.2.2.1 u.2.2.2.2.2.2.2.2.2.2.2.2.2.2.2.2.2.2.1 u.2.2.2.2.2.2.2.2.2.2.2.2.2.2.2.2.2.2.2.1 qO u.2.2.2.2.2.2.2.2.2.2.2.2.2.2.2.2.2.2.2.2.1 u.2.2.2.2.2.2.2.2.2.2.2.2.2.2.2.2.2.2.2.2.2 qQ) t) A
abbrev aY0 : Room := { frames := 4, cells := 0, slots := 0, locals := 85 }
section S_X10_orchard
variable {p : Program} {l : Launch} {e : Env} {s : State} {m : MethodId} {args : Array Value} {below : List Frame} {meth : Method} {c : Code} {dC : Nat -> ClassId} {dI : Nat -> Nat -> Nat} {cI cC cZ cB cJ : ClassId} {A : Nat -> Prop} {a_m nY sJ eG iY lY jR jW jZ jO oQ bR aY jQ gY iJ mQ lJ jA bG mK jB mW mJ eJ dG : Nat} {bL bW bZ aR aE bI aW fJ dO bM bQ bO jY : Int32} {qO qQ : Nat -> Int32} {post : Int32 -> Int32 -> Int32 -> Int32 -> Int32 -> Nat -> Int32 -> Int32 -> Int32 -> Int32 -> Int32 -> Int32 -> Int32 -> Int32 -> (Nat -> Int32) -> (Nat -> Int32) -> (Nat -> Int32) -> (Nat -> Int32) -> (Nat -> Int32) -> (Nat -> Int32) -> (Nat -> Int32) -> (Nat -> Int32) -> (Nat -> Int32) -> Prop}
def ws_X10_orchard_215 (post next : Int32 -> Int32 -> Int32 -> Int32 -> Int32 -> Nat -> Int32 -> Int32 -> Int32 -> Int32 -> Int32 -> Int32 -> Int32 -> Int32 -> (Nat -> Int32) -> (Nat -> Int32) -> (Nat -> Int32) -> (Nat -> Int32) -> (Nat -> Int32) -> (Nat -> Int32) -> (Nat -> Int32) -> (Nat -> Int32) -> (Nat -> Int32) -> Prop) (qO qQ : Nat -> Int32) (x2 bT aG jC bY : Int32) (jD : Nat) (mLn oF rP dQ aJ aB bU oX : Int32) (qG m_x gR pW qR nG oO qT qA : Nat -> Int32) : Prop := (aB <= x2 -> ∀ v_7 : Int32, v_7 = oX + 1 -> post (aJ + aB) bT aG jC bY jD mLn oF rP dQ aJ aB 0 v_7 qG m_x gR pW qR nG oO qT qA) /\ (¬ aB <= x2 -> ∀ v_8 : Int32, v_8 = 2 * x2 -> vp_in v_8 16 /\ (∀ v_9 : Int32, v_9 = qA v_8.toNatClampNeg -> vp_in aG 8 /\ (∀ aEr : Int32, aEr = 2 * x2 -> ∀ aGH : Int32, aGH = aEr + 1 -> vp_in aGH 16 /\ (∀ aEp : Int32, aEp = qA aGH.toNatClampNeg -> vp_in aG 8 /\ (∀ aIQ : Int32, aIQ = aG + 1 -> ∀ aGC : Int32, aGC = x2 + 1 -> next aGC bT aIQ jC bY jD mLn oF rP dQ aJ aB bU oX qG m_x gR pW qR (upd nG aG.toNatClampNeg v_9) (upd oO aG.toNatClampNeg aEp) qT qA)))))
noncomputable def aYf (post : Int32 -> Int32 -> Int32 -> Int32 -> Int32 -> Nat -> Int32 -> Int32 -> Int32 -> Int32 -> Int32 -> Int32 -> Int32 -> Int32 -> (Nat -> Int32) -> (Nat -> Int32) -> (Nat -> Int32) -> (Nat -> Int32) -> (Nat -> Int32) -> (Nat -> Int32) -> (Nat -> Int32) -> (Nat -> Int32) -> (Nat -> Int32) -> Prop) (qO qQ : Nat -> Int32) : Nat -> Int32 -> Int32 -> Int32 -> Int32 -> Int32 -> Nat -> Int32 -> Int32 -> Int32 -> Int32 -> Int32 -> Int32 -> Int32 -> Int32 -> (Nat -> Int32) -> (Nat -> Int32) -> (Nat -> Int32) -> (Nat -> Int32) -> (Nat -> Int32) -> (Nat -> Int32) -> (Nat -> Int32) -> (Nat -> Int32) -> (Nat -> Int32) -> Prop := fun n => Nat.rec (motive := fun _ => Int32 -> Int32 -> Int32 -> Int32 -> Int32 -> Nat -> Int32 -> Int32 -> Int32 -> Int32 -> Int32 -> Int32 -> Int32 -> Int32 -> (Nat -> Int32) -> (Nat -> Int32) -> (Nat -> Int32) -> (Nat -> Int32) -> (Nat -> Int32) -> (Nat -> Int32) -> (Nat -> Int32) -> (Nat -> Int32) -> (Nat -> Int32) -> Prop) (fun _ _ _ _ _ _ _ _ _ _ _ _ _ _ _ _ _ _ _ _ _ _ _ => False) (fun _ ih => ws_X10_orchard_215 post ih qO qQ) n
set_option maxHeartbeats 4000000 in
set_option maxRecDepth 100000 in
theorem ks_X10_orchard_215 (C0 : gc aAc (some .int) 3 zX (dC, dI) (tyl cI cC cZ cB cJ) A p s m args meth c) {next : Int32 -> Int32 -> Int32 -> Int32 -> Int32 -> Nat -> Int32 -> Int32 -> Int32 -> Int32 -> Int32 -> Int32 -> Int32 -> Int32 -> (Nat -> Int32) -> (Nat -> Int32) -> (Nat -> Int32) -> (Nat -> Int32) -> (Nat -> Int32) -> (Nat -> Int32) -> (Nat -> Int32) -> (Nat -> Int32) -> (Nat -> Int32) -> Prop} (hKn : ∀ (x2 : Int32) (bT : Int32) (aG : Int32) (jC : Int32) (bY : Int32) (jD : Nat) (mLn : Int32) (oF : Int32) (rP : Int32) (dQ : Int32) (aJ : Int32) (aB : Int32) (bU : Int32) (oX : Int32) (qG : Nat -> Int32) (m_x : Nat -> Int32) (gR : Nat -> Int32) (pW : Nat -> Int32) (qR : Nat -> Int32) (nG : Nat -> Int32) (oO : Nat -> Int32) (qT : Nat -> Int32) (qA : Nat -> Int32) (H : Heap) (locs : List Loc) (ls : Array Slot), next x2 bT aG jC bY jD mLn oF rP dQ aJ aB bU oX qG m_x gR pW qR nG oO qT qA -> va_P (dC, dI) classes (aCT cI cC cZ cB cJ a_m nY sJ eG iY lY jR jW jZ jO oQ bR aY jQ gY iJ mQ lJ jA bG mK jB mW mJ eJ dG bT aG jC bL bY jD mLn oF rP dQ aJ aB bW bZ aR aE bI aW bU fJ dO bM bQ bO jY oX qG m_x gR pW qR nG oO qO qT qA qQ) H -> va_D A (aCT cI cC cZ cB cJ a_m nY sJ eG iY lY jR jW jZ jO oQ bR aY jQ gY iJ mQ lJ jA bG mK jB mW mJ eJ dG bT aG jC bL bY jD mLn oF rP dQ aJ aB bW bZ aR aE bI aW bU fJ dO bM bQ bO jY oX qG m_x gR pW qR nG oO qO qT qA qQ) -> va_S A s.heap H locs -> lv_has ls 3 [(0, .ref a_m), (2, .int x2)] -> W p l e aY0 s m args below meth c H locs 0 0 (MQ below (aZb dC dI cI cC cZ cB cJ A a_m nY sJ eG iY lY jR jW jZ jO oQ bR aY jQ gY iJ mQ lJ jA bG mK jB mW mJ eJ dG bL bW bZ aR aE bI aW fJ dO bM bQ bO jY qO qQ post) args s 0 0 A) (F0 m 215 ls [])) : ∀ (x2 bT aG jC bY : Int32) (jD : Nat) (mLn oF rP dQ aJ aB bU oX : Int32) (qG m_x gR pW qR nG oO qT qA : Nat -> Int32) (H : Heap) (locs : List Loc) (ls : Array Slot), (ws_X10_orchard_215 post next qO qQ) x2 bT aG jC bY jD mLn oF rP dQ aJ aB bU oX qG m_x gR pW qR nG oO qT qA -> va_P (dC, dI) classes (aCT cI cC cZ cB cJ a_m nY sJ eG iY lY jR jW jZ jO oQ bR aY jQ gY iJ mQ lJ jA bG mK jB mW mJ eJ dG bT aG jC bL bY jD mLn oF rP dQ aJ aB bW bZ aR aE bI aW bU fJ dO bM bQ bO jY oX qG m_x gR pW qR nG oO qO qT qA qQ) H -> va_D A (aCT cI cC cZ cB cJ a_m nY sJ eG iY lY jR jW jZ jO oQ bR aY jQ gY iJ mQ lJ jA bG mK jB mW mJ eJ dG bT aG jC bL bY jD mLn oF rP dQ aJ aB bW bZ aR aE bI aW bU fJ dO bM bQ bO jY oX qG m_x gR pW qR nG oO qO qT qA qQ) -> va_S A s.heap H locs -> lv_has ls 3 [(0, .ref a_m), (2, .int x2)] -> W p l e aY0 s m args below meth c H locs 0 0 (MQ below (aZb dC dI cI cC cZ cB cJ A a_m nY sJ eG iY lY jR jW jZ jO oQ bR aY jQ gY iJ mQ lJ jA bG mK jB mW mJ eJ dG bL bW bZ aR aE bI aW fJ dO bM bQ bO jY qO qQ post) args s 0 0 A) (F0 m 215 ls []) := by
  obtain ⟨hx, hb, hr, hml, hown, hts, hlocks, hA, hK, hN, tL, tM, hZL, hTL, hZM, hTM, hZX⟩ := id C0
  intro x2 bT aG jC bY jD mLn oF rP dQ aJ aB bU oX qG m_x gR pW qR nG oO qT qA H locs ls hp hP hD hS hl
  unfold ws_X10_orchard_215 at hp
  refine lv_iload_n hx hb aMH.2.2.2.2.2.2.2.2.2.2.2.2.2.2.2 rfl (lv_at hl 1 rfl) ?_
  refine lv_aload_n hx hb aMI.1 rfl (lv_at hl 0 rfl) ?_
  refine va_get (D := (dC, dI)) (ci := 10) (v := .int aB) (C := zX) (T := aBe) (N := 51) hx hb hts aAt hown hK hP 0 rfl rfl 23 (lbz rfl) (hts _ q_667) (fun _ h9 => h9) rfl aMI.2.1 ?_
  refine lv_icmp_ge (tgt := 275) hx hb aMI.2.2.1 (by decide) (fun hc => ?_) (fun hc => ?_)
  · have hp := hp.1 hc
    refine lv_aload_n hx hb aMK.2.2.2.1 rfl (lv_at hl 0 rfl) ?_
    refine lv_iconst (v := 0) hx hb aMK.2.2.2.2.1 aCi ?_
    refine va_put (D := (dC, dI)) (ci := 10) (v := .int 0) (ty := .int) (C := zX) (T := aBe) (N := 51) hx hb hts aAt aD2 aAa aEC hown hK hP hD hS 0 rfl rfl 32 (lbz rfl) (hts _ q_684) (fun _ h9 => h9) rfl (aAa 32 (lbz rfl)) rfl rfl (lbz rfl) aMK.2.2.2.2.2.1 (fun H locs hP hD hS => ?_)
    have hPD := PDw (ws' := (aCT cI cC cZ cB cJ a_m nY sJ eG iY lY jR jW jZ jO oQ bR aY jQ gY iJ mQ lJ jA bG mK jB mW mJ eJ dG bT aG jC bL bY jD mLn oF rP dQ aJ aB bW bZ aR aE bI aW 0 fJ dO bM bQ bO jY oX qG m_x gR pW qR nG oO qO qT qA qQ)) hP hD rfl
    have hP := hPD.1
    have hD := hPD.2
    refine lv_aload_n hx hb aMK.2.2.2.2.2.2.1 rfl (lv_at hl 0 rfl) ?_
    refine lv_dup hx hb aMK.2.2.2.2.2.2.2.1 rfl ?_
    refine va_get (D := (dC, dI)) (ci := 10) (v := .int oX) (C := zX) (T := aBe) (N := 51) hx hb hts aAt hown hK hP 0 rfl rfl 47 (lbz rfl) (hts _ q_685) (fun _ h9 => h9) rfl aMK.2.2.2.2.2.2.2.2.1 ?_
    refine lv_iconst (v := 1) hx hb aMK.2.2.2.2.2.2.2.2.2.1 aDx ?_
    refine lv_iadd hx hb aMK.2.2.2.2.2.2.2.2.2.2.1 ?_
    refine lv_topi (fun v_7 ev_7 => ?_)
    have hp := hp v_7 ev_7
    refine va_put (D := (dC, dI)) (ci := 10) (v := .int v_7) (ty := .int) (C := zX) (T := aBe) (N := 51) hx hb hts aAt aD2 aAa aEC hown hK hP hD hS 0 rfl rfl 47 (lbz rfl) (hts _ q_685) (fun _ h9 => h9) rfl (aAa 47 (lbz rfl)) rfl rfl (lbz rfl) aMK.2.2.2.2.2.2.2.2.2.2.2.1 (fun H locs hP hD hS => ?_)
    have hPD := PDw (ws' := (aCT cI cC cZ cB cJ a_m nY sJ eG iY lY jR jW jZ jO oQ bR aY jQ gY iJ mQ lJ jA bG mK jB mW mJ eJ dG bT aG jC bL bY jD mLn oF rP dQ aJ aB bW bZ aR aE bI aW 0 fJ dO bM bQ bO jY v_7 qG m_x gR pW qR nG oO qO qT qA qQ)) hP hD rfl
    have hP := hPD.1
    have hD := hPD.2
    refine lv_aload_n hx hb aMK.2.2.2.2.2.2.2.2.2.2.2.2.1 rfl (lv_at hl 0 rfl) ?_
    refine va_get (D := (dC, dI)) (ci := 10) (v := .int aJ) (C := zX) (T := aBe) (N := 51) hx hb hts aAt hown hK hP 0 rfl rfl 22 (lbz rfl) (hts _ q_678) (fun _ h9 => h9) rfl aMK.2.2.2.2.2.2.2.2.2.2.2.2.2.1 ?_
    refine lv_aload_n hx hb aMK.2.2.2.2.2.2.2.2.2.2.2.2.2.2.1 rfl (lv_at hl 0 rfl) ?_
    refine va_get (D := (dC, dI)) (ci := 10) (v := .int aB) (C := zX) (T := aBe) (N := 51) hx hb hts aAt hown hK hP 0 rfl rfl 23 (lbz rfl) (hts _ q_667) (fun _ h9 => h9) rfl aMK.2.2.2.2.2.2.2.2.2.2.2.2.2.2.2 ?_
    refine lv_iadd hx hb eX10_orchard_298.1 ?_
    exact W.iret (v := aJ + aB) hx hb hr (fun t ht hW => ⟨⟨aJ + aB, (bT, aG, jC, bY, jD, mLn, oF, rP, dQ, aJ, aB, 0, v_7, qG, m_x, gR, pW, qR, nG, oO, qT, qA), rfl, hp, by rw [ht]; exact hP, va_K.moved hW.alike hK, hD⟩, hS.F ht⟩) hS.2.2 eX10_orchard_298.2
  · have hp := hp.2 hc
    refine lv_aload_n hx hb aMI.2.2.2.1 rfl (lv_at hl 0 rfl) ?_
    refine va_get (D := (dC, dI)) (ci := 10) (v := .ref jR) (C := zX) (T := aBe) (N := 51) hx hb hts aAt hown hK hP 0 rfl rfl 7 (lbz rfl) (hts _ q_686) (fun _ h9 => h9) rfl aMI.2.2.2.2.1 ?_
    refine lv_aload_n hx hb aMI.2.2.2.2.2.1 rfl (lv_at hl 0 rfl) ?_
    refine va_get (D := (dC, dI)) (ci := 10) (v := .int aG) (C := zX) (T := aBe) (N := 51) hx hb hts aAt hown hK hP 0 rfl rfl 6 (lbz rfl) (hts _ q_666) (fun _ h9 => h9) rfl aMI.2.2.2.2.2.2.1 ?_
    refine lv_aload_n hx hb aMI.2.2.2.2.2.2.2.1 rfl (lv_at hl 0 rfl) ?_
    refine va_get (D := (dC, dI)) (ci := 10) (v := .ref aY) (C := zX) (T := aBe) (N := 51) hx hb hts aAt hown hK hP 0 rfl rfl 21 (lbz rfl) (hts _ q_668) (fun _ h9 => h9) rfl aMI.2.2.2.2.2.2.2.2.1 ?_
    refine lv_iconst (v := 2) hx hb aMI.2.2.2.2.2.2.2.2.2.1 ic_2 ?_
    refine lv_iload_n hx hb aMI.2.2.2.2.2.2.2.2.2.2.1 rfl (lv_at hl 1 rfl) ?_
    refine lv_imul hx hb aMI.2.2.2.2.2.2.2.2.2.2.2.1 ?_
    refine lv_topi (fun v_8 ev_8 => ?_)
    have hp := hp v_8 ev_8
    have hin := hp.1
    have hp := hp.2
    refine va_iald hx hb hK hP 10 0 rfl rfl hin aMI.2.2.2.2.2.2.2.2.2.2.2.2.1 ?_
    refine lv_topi (fun v_9 ev_9 => ?_)
    have hp := hp v_9 ev_9
    have hin := hp.1
    have hp := hp.2
    refine va_iast hx hb hK hP hD hS 6 0 rfl rfl hin aMI.2.2.2.2.2.2.2.2.2.2.2.2.2.1 (fun H locs hP hD hS => ?_)
    have hPD := PDw (ws' := (aCT cI cC cZ cB cJ a_m nY sJ eG iY lY jR jW jZ jO oQ bR aY jQ gY iJ mQ lJ jA bG mK jB mW mJ eJ dG bT aG jC bL bY jD mLn oF rP dQ aJ aB bW bZ aR aE bI aW bU fJ dO bM bQ bO jY oX qG m_x gR pW qR (upd nG aG.toNatClampNeg v_9) oO qO qT qA qQ)) hP hD rfl
    have hP := hPD.1
    have hD := hPD.2
    refine lv_aload_n hx hb aMI.2.2.2.2.2.2.2.2.2.2.2.2.2.2.1 rfl (lv_at hl 0 rfl) ?_
    refine va_get (D := (dC, dI)) (ci := 10) (v := .ref jW) (C := zX) (T := aBe) (N := 51) hx hb hts aAt hown hK hP 0 rfl rfl 8 (lbz rfl) (hts _ q_687) (fun _ h9 => h9) rfl aMI.2.2.2.2.2.2.2.2.2.2.2.2.2.2.2 ?_
    refine lv_aload_n hx hb aMJ.1 rfl (lv_at hl 0 rfl) ?_
    refine va_get (D := (dC, dI)) (ci := 10) (v := .int aG) (C := zX) (T := aBe) (N := 51) hx hb hts aAt hown hK hP 0 rfl rfl 6 (lbz rfl) (hts _ q_666) (fun _ h9 => h9) rfl aMJ.2.1 ?_
    refine lv_aload_n hx hb aMJ.2.2.1 rfl (lv_at hl 0 rfl) ?_
    refine va_get (D := (dC, dI)) (ci := 10) (v := .ref aY) (C := zX) (T := aBe) (N := 51) hx hb hts aAt hown hK hP 0 rfl rfl 21 (lbz rfl) (hts _ q_668) (fun _ h9 => h9) rfl aMJ.2.2.2.1 ?_
    refine lv_iconst (v := 2) hx hb aMJ.2.2.2.2.1 ic_2 ?_
    refine lv_iload_n hx hb aMJ.2.2.2.2.2.1 rfl (lv_at hl 1 rfl) ?_
    refine lv_imul hx hb aMJ.2.2.2.2.2.2.1 ?_
    refine lv_topi (fun aEr aNB => ?_)
    have hp := hp aEr aNB
    refine lv_iconst (v := 1) hx hb aMJ.2.2.2.2.2.2.2.1 aDx ?_
    refine lv_iadd hx hb aMJ.2.2.2.2.2.2.2.2.1 ?_
    refine lv_topi (fun aGH ev_11 => ?_)
    have hp := hp aGH ev_11
    have hin := hp.1
    have hp := hp.2
    refine va_iald hx hb hK hP 10 0 rfl rfl hin aMJ.2.2.2.2.2.2.2.2.2.1 ?_
    refine lv_topi (fun aEp ev_12 => ?_)
    have hp := hp aEp ev_12
    have hin := hp.1
    have hp := hp.2
    refine va_iast hx hb hK hP hD hS 7 0 rfl rfl hin aMJ.2.2.2.2.2.2.2.2.2.2.1 (fun H locs hP hD hS => ?_)
    have hPD := PDw (ws' := (aCT cI cC cZ cB cJ a_m nY sJ eG iY lY jR jW jZ jO oQ bR aY jQ gY iJ mQ lJ jA bG mK jB mW mJ eJ dG bT aG jC bL bY jD mLn oF rP dQ aJ aB bW bZ aR aE bI aW bU fJ dO bM bQ bO jY oX qG m_x gR pW qR (upd nG aG.toNatClampNeg v_9) (upd oO aG.toNatClampNeg aEp) qO qT qA qQ)) hP hD rfl
    have hP := hPD.1
    have hD := hPD.2
    refine lv_aload_n hx hb aMJ.2.2.2.2.2.2.2.2.2.2.2.1 rfl (lv_at hl 0 rfl) ?_
    refine lv_dup hx hb aMJ.2.2.2.2.2.2.2.2.2.2.2.2.1 rfl ?_
    refine va_get (D := (dC, dI)) (ci := 10) (v := .int aG) (C := zX) (T := aBe) (N := 51) hx hb hts aAt hown hK hP 0 rfl rfl 6 (lbz rfl) (hts _ q_666) (fun _ h9 => h9) rfl aMJ.2.2.2.2.2.2.2.2.2.2.2.2.2.1 ?_
    refine lv_iconst (v := 1) hx hb aMJ.2.2.2.2.2.2.2.2.2.2.2.2.2.2.1 aDx ?_
    refine lv_iadd hx hb aMJ.2.2.2.2.2.2.2.2.2.2.2.2.2.2.2 ?_
    refine lv_topi (fun aIQ ev_13 => ?_)
    have hp := hp aIQ ev_13
    refine va_put (D := (dC, dI)) (ci := 10) (v := .int aIQ) (ty := .int) (C := zX) (T := aBe) (N := 51) hx hb hts aAt aD2 aAa aEC hown hK hP hD hS 0 rfl rfl 6 (lbz rfl) (hts _ q_666) (fun _ h9 => h9) rfl (aAa 6 (lbz rfl)) rfl rfl (lbz rfl) aMK.1 (fun H locs hP hD hS => ?_)
    have hPD := PDw (ws' := (aCT cI cC cZ cB cJ a_m nY sJ eG iY lY jR jW jZ jO oQ bR aY jQ gY iJ mQ lJ jA bG mK jB mW mJ eJ dG bT aIQ jC bL bY jD mLn oF rP dQ aJ aB bW bZ aR aE bI aW bU fJ dO bM bQ bO jY oX qG m_x gR pW qR (upd nG aG.toNatClampNeg v_9) (upd oO aG.toNatClampNeg aEp) qO qT qA qQ)) hP hD rfl
    have hP := hPD.1
    have hD := hPD.2
    obtain ⟨aGC, ev_14⟩ : ∃ y : Int32, y = x2 + 1 := ⟨_, rfl⟩
    refine lv_iinc (v := aGC) (lv' := [(2, .int aGC), (0, .ref a_m)]) hx hb aMK.2.1 hl (k := 1) rfl (by rw [ev_14]; rfl) (by decide) rfl (fun ls hl => ?_)
    have hp := hp aGC ev_14
    refine lv_goto (tgt := 215) hx hb aMK.2.2.1 (by decide) ?_
    exact hKn aGC bT aIQ jC bY jD mLn oF rP dQ aJ aB bU oX qG m_x gR pW qR (upd nG aG.toNatClampNeg v_9) (upd oO aG.toNatClampNeg aEp) qT qA H locs ls hp hP hD hS (lv_sub hl [1, 0] rfl)
set_option maxHeartbeats 4000000 in
set_option maxRecDepth 100000 in
theorem kb_X10_orchard_215 (C0 : gc aAc (some .int) 3 zX (dC, dI) (tyl cI cC cZ cB cJ) A p s m args meth c) : ∀ (n : Nat), ∀ (x2 bT aG jC bY : Int32) (jD : Nat) (mLn oF rP dQ aJ aB bU oX : Int32) (qG m_x gR pW qR nG oO qT qA : Nat -> Int32) (H : Heap) (locs : List Loc) (ls : Array Slot), (aYf post qO qQ n) x2 bT aG jC bY jD mLn oF rP dQ aJ aB bU oX qG m_x gR pW qR nG oO qT qA -> va_P (dC, dI) classes (aCT cI cC cZ cB cJ a_m nY sJ eG iY lY jR jW jZ jO oQ bR aY jQ gY iJ mQ lJ jA bG mK jB mW mJ eJ dG bT aG jC bL bY jD mLn oF rP dQ aJ aB bW bZ aR aE bI aW bU fJ dO bM bQ bO jY oX qG m_x gR pW qR nG oO qO qT qA qQ) H -> va_D A (aCT cI cC cZ cB cJ a_m nY sJ eG iY lY jR jW jZ jO oQ bR aY jQ gY iJ mQ lJ jA bG mK jB mW mJ eJ dG bT aG jC bL bY jD mLn oF rP dQ aJ aB bW bZ aR aE bI aW bU fJ dO bM bQ bO jY oX qG m_x gR pW qR nG oO qO qT qA qQ) -> va_S A s.heap H locs -> lv_has ls 3 [(0, .ref a_m), (2, .int x2)] -> W p l e aY0 s m args below meth c H locs 0 0 (MQ below (aZb dC dI cI cC cZ cB cJ A a_m nY sJ eG iY lY jR jW jZ jO oQ bR aY jQ gY iJ mQ lJ jA bG mK jB mW mJ eJ dG bL bW bZ aR aE bI aW fJ dO bM bQ bO jY qO qQ post) args s 0 0 A) (F0 m 215 ls []) := by
  intro n
  induction n with
  | zero =>
    intro x2 bT aG jC bY jD mLn oF rP dQ aJ aB bU oX qG m_x gR pW qR nG oO qT qA H locs ls hp
    exact False.elim hp
  | succ n ih =>
    intro x2 bT aG jC bY jD mLn oF rP dQ aJ aB bU oX qG m_x gR pW qR nG oO qT qA H locs ls hp
    exact ks_X10_orchard_215 C0 ih x2 bT aG jC bY jD mLn oF rP dQ aJ aB bU oX qG m_x gR pW qR nG oO qT qA H locs ls hp
def ws_X10_orchard_105 (post next : Int32 -> Int32 -> Int32 -> Int32 -> Int32 -> Nat -> Int32 -> Int32 -> Int32 -> Int32 -> Int32 -> Int32 -> Int32 -> Int32 -> (Nat -> Int32) -> (Nat -> Int32) -> (Nat -> Int32) -> (Nat -> Int32) -> (Nat -> Int32) -> (Nat -> Int32) -> (Nat -> Int32) -> (Nat -> Int32) -> (Nat -> Int32) -> Prop) (qO qQ : Nat -> Int32) (x2 bT aG jC bY : Int32) (jD : Nat) (mLn oF rP dQ aJ aB bU oX : Int32) (qG m_x gR pW qR nG oO qT qA : Nat -> Int32) : Prop := (aJ <= x2 -> ∃ n : Nat, aYf post qO qQ n 0 bT aG jC bY jD mLn oF rP dQ aJ aB bU oX qG m_x gR pW qR nG oO qT qA) /\ (¬ aJ <= x2 -> ∀ aHe : Int32, aHe = 4 * x2 -> vp_in aHe 64 /\ (∀ aHb : Int32, aHb = qT aHe.toNatClampNeg -> vp_in bT 16 /\ (∀ v_17 : Int32, v_17 = 4 * x2 -> ∀ v_18 : Int32, v_18 = v_17 + 1 -> vp_in v_18 64 /\ (∀ v_19 : Int32, v_19 = qT v_18.toNatClampNeg -> vp_in bT 16 /\ (∀ v_20 : Int32, v_20 = 4 * x2 -> ∀ v_21 : Int32, v_21 = v_20 + 2 -> vp_in v_21 64 /\ (∀ v_22 : Int32, v_22 = qT v_21.toNatClampNeg -> vp_in bT 16 /\ (∀ v_23 : Int32, v_23 = 4 * x2 -> ∀ v_24 : Int32, v_24 = v_23 + 3 -> vp_in v_24 64 /\ (∀ v_25 : Int32, v_25 = qT v_24.toNatClampNeg -> vp_in bT 16 /\ (vp_in bT 21 /\ (∀ v_26 : Int32, v_26 = bT + 1 -> ∀ v_27 : Int32, v_27 = x2 + 1 -> next v_27 v_26 aG jC bY jD mLn oF rP dQ aJ aB bU oX (upd qG bT.toNatClampNeg 0) (upd m_x bT.toNatClampNeg aHb) (upd gR bT.toNatClampNeg v_19) (upd pW bT.toNatClampNeg v_22) (upd qR bT.toNatClampNeg v_25) nG oO qT qA))))))))))
noncomputable def wb_X10_orchard_105 (post : Int32 -> Int32 -> Int32 -> Int32 -> Int32 -> Nat -> Int32 -> Int32 -> Int32 -> Int32 -> Int32 -> Int32 -> Int32 -> Int32 -> (Nat -> Int32) -> (Nat -> Int32) -> (Nat -> Int32) -> (Nat -> Int32) -> (Nat -> Int32) -> (Nat -> Int32) -> (Nat -> Int32) -> (Nat -> Int32) -> (Nat -> Int32) -> Prop) (qO qQ : Nat -> Int32) : Nat -> Int32 -> Int32 -> Int32 -> Int32 -> Int32 -> Nat -> Int32 -> Int32 -> Int32 -> Int32 -> Int32 -> Int32 -> Int32 -> Int32 -> (Nat -> Int32) -> (Nat -> Int32) -> (Nat -> Int32) -> (Nat -> Int32) -> (Nat -> Int32) -> (Nat -> Int32) -> (Nat -> Int32) -> (Nat -> Int32) -> (Nat -> Int32) -> Prop := fun n => Nat.rec (motive := fun _ => Int32 -> Int32 -> Int32 -> Int32 -> Int32 -> Nat -> Int32 -> Int32 -> Int32 -> Int32 -> Int32 -> Int32 -> Int32 -> Int32 -> (Nat -> Int32) -> (Nat -> Int32) -> (Nat -> Int32) -> (Nat -> Int32) -> (Nat -> Int32) -> (Nat -> Int32) -> (Nat -> Int32) -> (Nat -> Int32) -> (Nat -> Int32) -> Prop) (fun _ _ _ _ _ _ _ _ _ _ _ _ _ _ _ _ _ _ _ _ _ _ _ => False) (fun _ ih => ws_X10_orchard_105 post ih qO qQ) n
set_option maxHeartbeats 4000000 in
set_option maxRecDepth 100000 in
theorem ks_X10_orchard_105 (C0 : gc aAc (some .int) 3 zX (dC, dI) (tyl cI cC cZ cB cJ) A p s m args meth c) {next : Int32 -> Int32 -> Int32 -> Int32 -> Int32 -> Nat -> Int32 -> Int32 -> Int32 -> Int32 -> Int32 -> Int32 -> Int32 -> Int32 -> (Nat -> Int32) -> (Nat -> Int32) -> (Nat -> Int32) -> (Nat -> Int32) -> (Nat -> Int32) -> (Nat -> Int32) -> (Nat -> Int32) -> (Nat -> Int32) -> (Nat -> Int32) -> Prop} (hKn : ∀ (x2 : Int32) (bT : Int32) (aG : Int32) (jC : Int32) (bY : Int32) (jD : Nat) (mLn : Int32) (oF : Int32) (rP : Int32) (dQ : Int32) (aJ : Int32) (aB : Int32) (bU : Int32) (oX : Int32) (qG : Nat -> Int32) (m_x : Nat -> Int32) (gR : Nat -> Int32) (pW : Nat -> Int32) (qR : Nat -> Int32) (nG : Nat -> Int32) (oO : Nat -> Int32) (qT : Nat -> Int32) (qA : Nat -> Int32) (H : Heap) (locs : List Loc) (ls : Array Slot), next x2 bT aG jC bY jD mLn oF rP dQ aJ aB bU oX qG m_x gR pW qR nG oO qT qA -> va_P (dC, dI) classes (aCT cI cC cZ cB cJ a_m nY sJ eG iY lY jR jW jZ jO oQ bR aY jQ gY iJ mQ lJ jA bG mK jB mW mJ eJ dG bT aG jC bL bY jD mLn oF rP dQ aJ aB bW bZ aR aE bI aW bU fJ dO bM bQ bO jY oX qG m_x gR pW qR nG oO qO qT qA qQ) H -> va_D A (aCT cI cC cZ cB cJ a_m nY sJ eG iY lY jR jW jZ jO oQ bR aY jQ gY iJ mQ lJ jA bG mK jB mW mJ eJ dG bT aG jC bL bY jD mLn oF rP dQ aJ aB bW bZ aR aE bI aW bU fJ dO bM bQ bO jY oX qG m_x gR pW qR nG oO qO qT qA qQ) -> va_S A s.heap H locs -> lv_has ls 3 [(0, .ref a_m), (2, .int x2)] -> W p l e aY0 s m args below meth c H locs 0 0 (MQ below (aZb dC dI cI cC cZ cB cJ A a_m nY sJ eG iY lY jR jW jZ jO oQ bR aY jQ gY iJ mQ lJ jA bG mK jB mW mJ eJ dG bL bW bZ aR aE bI aW fJ dO bM bQ bO jY qO qQ post) args s 0 0 A) (F0 m 105 ls [])) : ∀ (x2 bT aG jC bY : Int32) (jD : Nat) (mLn oF rP dQ aJ aB bU oX : Int32) (qG m_x gR pW qR nG oO qT qA : Nat -> Int32) (H : Heap) (locs : List Loc) (ls : Array Slot), (ws_X10_orchard_105 post next qO qQ) x2 bT aG jC bY jD mLn oF rP dQ aJ aB bU oX qG m_x gR pW qR nG oO qT qA -> va_P (dC, dI) classes (aCT cI cC cZ cB cJ a_m nY sJ eG iY lY jR jW jZ jO oQ bR aY jQ gY iJ mQ lJ jA bG mK jB mW mJ eJ dG bT aG jC bL bY jD mLn oF rP dQ aJ aB bW bZ aR aE bI aW bU fJ dO bM bQ bO jY oX qG m_x gR pW qR nG oO qO qT qA qQ) H -> va_D A (aCT cI cC cZ cB cJ a_m nY sJ eG iY lY jR jW jZ jO oQ bR aY jQ gY iJ mQ lJ jA bG mK jB mW mJ eJ dG bT aG jC bL bY jD mLn oF rP dQ aJ aB bW bZ aR aE bI aW bU fJ dO bM bQ bO jY oX qG m_x gR pW qR nG oO qO qT qA qQ) -> va_S A s.heap H locs -> lv_has ls 3 [(0, .ref a_m), (2, .int x2)] -> W p l e aY0 s m args below meth c H locs 0 0 (MQ below (aZb dC dI cI cC cZ cB cJ A a_m nY sJ eG iY lY jR jW jZ jO oQ bR aY jQ gY iJ mQ lJ jA bG mK jB mW mJ eJ dG bL bW bZ aR aE bI aW fJ dO bM bQ bO jY qO qQ post) args s 0 0 A) (F0 m 105 ls []) := by
  obtain ⟨hx, hb, hr, hml, hown, hts, hlocks, hA, hK, hN, tL, tM, hZL, hTL, hZM, hTM, hZX⟩ := id C0
  intro x2 bT aG jC bY jD mLn oF rP dQ aJ aB bU oX qG m_x gR pW qR nG oO qT qA H locs ls hp hP hD hS hl
  unfold ws_X10_orchard_105 at hp
  refine lv_iload_n hx hb aNt.2.2.2.2.2.2.2.2.2.1 rfl (lv_at hl 1 rfl) ?_
  refine lv_aload_n hx hb aNt.2.2.2.2.2.2.2.2.2.2.1 rfl (lv_at hl 0 rfl) ?_
  refine va_get (D := (dC, dI)) (ci := 10) (v := .int aJ) (C := zX) (T := aBe) (N := 51) hx hb hts aAt hown hK hP 0 rfl rfl 22 (lbz rfl) (hts _ q_678) (fun _ h9 => h9) rfl aNt.2.2.2.2.2.2.2.2.2.2.2.1 ?_
  refine lv_icmp_ge (tgt := 213) hx hb aNt.2.2.2.2.2.2.2.2.2.2.2.2.1 (by decide) (fun hc => ?_) (fun hc => ?_)
  · have hp := hp.1 hc
    refine lv_iconst (v := 0) hx hb aMH.2.2.2.2.2.2.2.2.2.2.2.2.2.1 aCi ?_
    refine lv_istore_n (lv' := [(2, .int 0), (0, .ref a_m)]) hx hb aMH.2.2.2.2.2.2.2.2.2.2.2.2.2.2.1 rfl hl (by decide) rfl (fun ls hl => ?_)
    obtain ⟨n9, hp⟩ := hp
    exact kb_X10_orchard_215 C0 n9 0 bT aG jC bY jD mLn oF rP dQ aJ aB bU oX qG m_x gR pW qR nG oO qT qA H locs ls hp hP hD hS (lv_sub hl [1, 0] rfl)
  · have hp := hp.2 hc
    refine lv_aload_n hx hb aNt.2.2.2.2.2.2.2.2.2.2.2.2.2.1 rfl (lv_at hl 0 rfl) ?_
    refine va_get (D := (dC, dI)) (ci := 10) (v := .ref sJ) (C := zX) (T := aBe) (N := 51) hx hb hts aAt hown hK hP 0 rfl rfl 2 (lbz rfl) (hts _ q_688) (fun _ h9 => h9) rfl aNt.2.2.2.2.2.2.2.2.2.2.2.2.2.2.1 ?_
    refine lv_aload_n hx hb aNt.2.2.2.2.2.2.2.2.2.2.2.2.2.2.2 rfl (lv_at hl 0 rfl) ?_
    refine va_get (D := (dC, dI)) (ci := 10) (v := .int bT) (C := zX) (T := aBe) (N := 51) hx hb hts aAt hown hK hP 0 rfl rfl 1 (lbz rfl) (hts _ q_677) (fun _ h9 => h9) rfl aME.1 ?_
    refine lv_aload_n hx hb aME.2.1 rfl (lv_at hl 0 rfl) ?_
    refine va_get (D := (dC, dI)) (ci := 10) (v := .ref bR) (C := zX) (T := aBe) (N := 51) hx hb hts aAt hown hK hP 0 rfl rfl 20 (lbz rfl) (hts _ q_679) (fun _ h9 => h9) rfl aME.2.2.1 ?_
    refine lv_iconst (v := 4) hx hb aME.2.2.2.1 ic_4 ?_
    refine lv_iload_n hx hb aME.2.2.2.2.1 rfl (lv_at hl 1 rfl) ?_
    refine lv_imul hx hb aME.2.2.2.2.2.1 ?_
    refine lv_topi (fun aHe ev_15 => ?_)
    have hp := hp aHe ev_15
    have hin := hp.1
    have hp := hp.2
    refine va_iald hx hb hK hP 9 0 rfl rfl hin aME.2.2.2.2.2.2.1 ?_
    refine lv_topi (fun aHb ev_16 => ?_)
    have hp := hp aHb ev_16
    have hin := hp.1
    have hp := hp.2
    refine va_iast hx hb hK hP hD hS 2 0 rfl rfl hin aME.2.2.2.2.2.2.2.1 (fun H locs hP hD hS => ?_)
    have hPD := PDw (ws' := (aCT cI cC cZ cB cJ a_m nY sJ eG iY lY jR jW jZ jO oQ bR aY jQ gY iJ mQ lJ jA bG mK jB mW mJ eJ dG bT aG jC bL bY jD mLn oF rP dQ aJ aB bW bZ aR aE bI aW bU fJ dO bM bQ bO jY oX qG (upd m_x bT.toNatClampNeg aHb) gR pW qR nG oO qO qT qA qQ)) hP hD rfl
    have hP := hPD.1
    have hD := hPD.2
    refine lv_aload_n hx hb aME.2.2.2.2.2.2.2.2.1 rfl (lv_at hl 0 rfl) ?_
    refine va_get (D := (dC, dI)) (ci := 10) (v := .ref eG) (C := zX) (T := aBe) (N := 51) hx hb hts aAt hown hK hP 0 rfl rfl 3 (lbz rfl) (hts _ q_689) (fun _ h9 => h9) rfl aME.2.2.2.2.2.2.2.2.2.1 ?_
    refine lv_aload_n hx hb aME.2.2.2.2.2.2.2.2.2.2.1 rfl (lv_at hl 0 rfl) ?_
    refine va_get (D := (dC, dI)) (ci := 10) (v := .int bT) (C := zX) (T := aBe) (N := 51) hx hb hts aAt hown hK hP 0 rfl rfl 1 (lbz rfl) (hts _ q_677) (fun _ h9 => h9) rfl aME.2.2.2.2.2.2.2.2.2.2.2.1 ?_
    refine lv_aload_n hx hb aME.2.2.2.2.2.2.2.2.2.2.2.2.1 rfl (lv_at hl 0 rfl) ?_
    refine va_get (D := (dC, dI)) (ci := 10) (v := .ref bR) (C := zX) (T := aBe) (N := 51) hx hb hts aAt hown hK hP 0 rfl rfl 20 (lbz rfl) (hts _ q_679) (fun _ h9 => h9) rfl aME.2.2.2.2.2.2.2.2.2.2.2.2.2.1 ?_
    refine lv_iconst (v := 4) hx hb aME.2.2.2.2.2.2.2.2.2.2.2.2.2.2.1 ic_4 ?_
    refine lv_iload_n hx hb aME.2.2.2.2.2.2.2.2.2.2.2.2.2.2.2 rfl (lv_at hl 1 rfl) ?_
    refine lv_imul hx hb aMF.1 ?_
    refine lv_topi (fun v_17 ev_17 => ?_)
    have hp := hp v_17 ev_17
    refine lv_iconst (v := 1) hx hb aMF.2.1 aDx ?_
    refine lv_iadd hx hb aMF.2.2.1 ?_
    refine lv_topi (fun v_18 ev_18 => ?_)
    have hp := hp v_18 ev_18
    have hin := hp.1
    have hp := hp.2
    refine va_iald hx hb hK hP 9 0 rfl rfl hin aMF.2.2.2.1 ?_
    refine lv_topi (fun v_19 ev_19 => ?_)
    have hp := hp v_19 ev_19
    have hin := hp.1
    have hp := hp.2
    refine va_iast hx hb hK hP hD hS 3 0 rfl rfl hin aMF.2.2.2.2.1 (fun H locs hP hD hS => ?_)
    have hPD := PDw (ws' := (aCT cI cC cZ cB cJ a_m nY sJ eG iY lY jR jW jZ jO oQ bR aY jQ gY iJ mQ lJ jA bG mK jB mW mJ eJ dG bT aG jC bL bY jD mLn oF rP dQ aJ aB bW bZ aR aE bI aW bU fJ dO bM bQ bO jY oX qG (upd m_x bT.toNatClampNeg aHb) (upd gR bT.toNatClampNeg v_19) pW qR nG oO qO qT qA qQ)) hP hD rfl
    have hP := hPD.1
    have hD := hPD.2
    refine lv_aload_n hx hb aMF.2.2.2.2.2.1 rfl (lv_at hl 0 rfl) ?_
    refine va_get (D := (dC, dI)) (ci := 10) (v := .ref iY) (C := zX) (T := aBe) (N := 51) hx hb hts aAt hown hK hP 0 rfl rfl 4 (lbz rfl) (hts _ q_690) (fun _ h9 => h9) rfl aMF.2.2.2.2.2.2.1 ?_
    refine lv_aload_n hx hb aMF.2.2.2.2.2.2.2.1 rfl (lv_at hl 0 rfl) ?_
    refine va_get (D := (dC, dI)) (ci := 10) (v := .int bT) (C := zX) (T := aBe) (N := 51) hx hb hts aAt hown hK hP 0 rfl rfl 1 (lbz rfl) (hts _ q_677) (fun _ h9 => h9) rfl aMF.2.2.2.2.2.2.2.2.1 ?_
    refine lv_aload_n hx hb aMF.2.2.2.2.2.2.2.2.2.1 rfl (lv_at hl 0 rfl) ?_
    refine va_get (D := (dC, dI)) (ci := 10) (v := .ref bR) (C := zX) (T := aBe) (N := 51) hx hb hts aAt hown hK hP 0 rfl rfl 20 (lbz rfl) (hts _ q_679) (fun _ h9 => h9) rfl aMF.2.2.2.2.2.2.2.2.2.2.1 ?_
    refine lv_iconst (v := 4) hx hb aMF.2.2.2.2.2.2.2.2.2.2.2.1 ic_4 ?_
    refine lv_iload_n hx hb aMF.2.2.2.2.2.2.2.2.2.2.2.2.1 rfl (lv_at hl 1 rfl) ?_
    refine lv_imul hx hb aMF.2.2.2.2.2.2.2.2.2.2.2.2.2.1 ?_
    refine lv_topi (fun v_20 ev_20 => ?_)
    have hp := hp v_20 ev_20
    refine lv_iconst (v := 2) hx hb aMF.2.2.2.2.2.2.2.2.2.2.2.2.2.2.1 ic_2 ?_
    refine lv_iadd hx hb aMF.2.2.2.2.2.2.2.2.2.2.2.2.2.2.2 ?_
    refine lv_topi (fun v_21 ev_21 => ?_)
    have hp := hp v_21 ev_21
    have hin := hp.1
    have hp := hp.2
    refine va_iald hx hb hK hP 9 0 rfl rfl hin aMG.1 ?_
    refine lv_topi (fun v_22 ev_22 => ?_)
    have hp := hp v_22 ev_22
    have hin := hp.1
    have hp := hp.2
    refine va_iast hx hb hK hP hD hS 4 0 rfl rfl hin aMG.2.1 (fun H locs hP hD hS => ?_)
    have hPD := PDw (ws' := (aCT cI cC cZ cB cJ a_m nY sJ eG iY lY jR jW jZ jO oQ bR aY jQ gY iJ mQ lJ jA bG mK jB mW mJ eJ dG bT aG jC bL bY jD mLn oF rP dQ aJ aB bW bZ aR aE bI aW bU fJ dO bM bQ bO jY oX qG (upd m_x bT.toNatClampNeg aHb) (upd gR bT.toNatClampNeg v_19) (upd pW bT.toNatClampNeg v_22) qR nG oO qO qT qA qQ)) hP hD rfl
    have hP := hPD.1
    have hD := hPD.2
    refine lv_aload_n hx hb aMG.2.2.1 rfl (lv_at hl 0 rfl) ?_
    refine va_get (D := (dC, dI)) (ci := 10) (v := .ref lY) (C := zX) (T := aBe) (N := 51) hx hb hts aAt hown hK hP 0 rfl rfl 5 (lbz rfl) (hts _ q_691) (fun _ h9 => h9) rfl aMG.2.2.2.1 ?_
    refine lv_aload_n hx hb aMG.2.2.2.2.1 rfl (lv_at hl 0 rfl) ?_
    refine va_get (D := (dC, dI)) (ci := 10) (v := .int bT) (C := zX) (T := aBe) (N := 51) hx hb hts aAt hown hK hP 0 rfl rfl 1 (lbz rfl) (hts _ q_677) (fun _ h9 => h9) rfl aMG.2.2.2.2.2.1 ?_
    refine lv_aload_n hx hb aMG.2.2.2.2.2.2.1 rfl (lv_at hl 0 rfl) ?_
    refine va_get (D := (dC, dI)) (ci := 10) (v := .ref bR) (C := zX) (T := aBe) (N := 51) hx hb hts aAt hown hK hP 0 rfl rfl 20 (lbz rfl) (hts _ q_679) (fun _ h9 => h9) rfl aMG.2.2.2.2.2.2.2.1 ?_
    refine lv_iconst (v := 4) hx hb aMG.2.2.2.2.2.2.2.2.1 ic_4 ?_
    refine lv_iload_n hx hb aMG.2.2.2.2.2.2.2.2.2.1 rfl (lv_at hl 1 rfl) ?_
    refine lv_imul hx hb aMG.2.2.2.2.2.2.2.2.2.2.1 ?_
    refine lv_topi (fun v_23 ev_23 => ?_)
    have hp := hp v_23 ev_23
    refine lv_iconst (v := 3) hx hb aMG.2.2.2.2.2.2.2.2.2.2.2.1 ic_3 ?_
    refine lv_iadd hx hb aMG.2.2.2.2.2.2.2.2.2.2.2.2.1 ?_
    refine lv_topi (fun v_24 ev_24 => ?_)
    have hp := hp v_24 ev_24
    have hin := hp.1
    have hp := hp.2
    refine va_iald hx hb hK hP 9 0 rfl rfl hin aMG.2.2.2.2.2.2.2.2.2.2.2.2.2.1 ?_
    refine lv_topi (fun v_25 ev_25 => ?_)
    have hp := hp v_25 ev_25
    have hin := hp.1
    have hp := hp.2
    refine va_iast hx hb hK hP hD hS 5 0 rfl rfl hin aMG.2.2.2.2.2.2.2.2.2.2.2.2.2.2.1 (fun H locs hP hD hS => ?_)
    have hPD := PDw (ws' := (aCT cI cC cZ cB cJ a_m nY sJ eG iY lY jR jW jZ jO oQ bR aY jQ gY iJ mQ lJ jA bG mK jB mW mJ eJ dG bT aG jC bL bY jD mLn oF rP dQ aJ aB bW bZ aR aE bI aW bU fJ dO bM bQ bO jY oX qG (upd m_x bT.toNatClampNeg aHb) (upd gR bT.toNatClampNeg v_19) (upd pW bT.toNatClampNeg v_22) (upd qR bT.toNatClampNeg v_25) nG oO qO qT qA qQ)) hP hD rfl
    have hP := hPD.1
    have hD := hPD.2
    refine lv_aload_n hx hb aMG.2.2.2.2.2.2.2.2.2.2.2.2.2.2.2 rfl (lv_at hl 0 rfl) ?_
    refine va_get (D := (dC, dI)) (ci := 10) (v := .ref nY) (C := zX) (T := aBe) (N := 51) hx hb hts aAt hown hK hP 0 rfl rfl 0 (lbz rfl) (hts _ aHO) (fun _ h9 => h9) rfl aMH.1 ?_
    refine lv_aload_n hx hb aMH.2.1 rfl (lv_at hl 0 rfl) ?_
    refine va_get (D := (dC, dI)) (ci := 10) (v := .int bT) (C := zX) (T := aBe) (N := 51) hx hb hts aAt hown hK hP 0 rfl rfl 1 (lbz rfl) (hts _ q_677) (fun _ h9 => h9) rfl aMH.2.2.1 ?_
    refine lv_iconst (v := 0) hx hb aMH.2.2.2.1 aCi ?_
    have hin := hp.1
    have hp := hp.2
    refine va_iast hx hb hK hP hD hS 1 0 rfl rfl hin aMH.2.2.2.2.1 (fun H locs hP hD hS => ?_)
    have hPD := PDw (ws' := (aCT cI cC cZ cB cJ a_m nY sJ eG iY lY jR jW jZ jO oQ bR aY jQ gY iJ mQ lJ jA bG mK jB mW mJ eJ dG bT aG jC bL bY jD mLn oF rP dQ aJ aB bW bZ aR aE bI aW bU fJ dO bM bQ bO jY oX (upd qG bT.toNatClampNeg 0) (upd m_x bT.toNatClampNeg aHb) (upd gR bT.toNatClampNeg v_19) (upd pW bT.toNatClampNeg v_22) (upd qR bT.toNatClampNeg v_25) nG oO qO qT qA qQ)) hP hD rfl
    have hP := hPD.1
    have hD := hPD.2
    refine lv_aload_n hx hb aMH.2.2.2.2.2.1 rfl (lv_at hl 0 rfl) ?_
    refine lv_dup hx hb aMH.2.2.2.2.2.2.1 rfl ?_
    refine va_get (D := (dC, dI)) (ci := 10) (v := .int bT) (C := zX) (T := aBe) (N := 51) hx hb hts aAt hown hK hP 0 rfl rfl 1 (lbz rfl) (hts _ q_677) (fun _ h9 => h9) rfl aMH.2.2.2.2.2.2.2.1 ?_
    refine lv_iconst (v := 1) hx hb aMH.2.2.2.2.2.2.2.2.1 aDx ?_
    refine lv_iadd hx hb aMH.2.2.2.2.2.2.2.2.2.1 ?_
    refine lv_topi (fun v_26 ev_26 => ?_)
    have hp := hp v_26 ev_26
    refine va_put (D := (dC, dI)) (ci := 10) (v := .int v_26) (ty := .int) (C := zX) (T := aBe) (N := 51) hx hb hts aAt aD2 aAa aEC hown hK hP hD hS 0 rfl rfl 1 (lbz rfl) (hts _ q_677) (fun _ h9 => h9) rfl (aAa 1 (lbz rfl)) rfl rfl (lbz rfl) aMH.2.2.2.2.2.2.2.2.2.2.1 (fun H locs hP hD hS => ?_)
    have hPD := PDw (ws' := (aCT cI cC cZ cB cJ a_m nY sJ eG iY lY jR jW jZ jO oQ bR aY jQ gY iJ mQ lJ jA bG mK jB mW mJ eJ dG v_26 aG jC bL bY jD mLn oF rP dQ aJ aB bW bZ aR aE bI aW bU fJ dO bM bQ bO jY oX (upd qG bT.toNatClampNeg 0) (upd m_x bT.toNatClampNeg aHb) (upd gR bT.toNatClampNeg v_19) (upd pW bT.toNatClampNeg v_22) (upd qR bT.toNatClampNeg v_25) nG oO qO qT qA qQ)) hP hD rfl
    have hP := hPD.1
    have hD := hPD.2
    obtain ⟨v_27, ev_27⟩ : ∃ y : Int32, y = x2 + 1 := ⟨_, rfl⟩
    refine lv_iinc (v := v_27) (lv' := [(2, .int v_27), (0, .ref a_m)]) hx hb aMH.2.2.2.2.2.2.2.2.2.2.2.1 hl (k := 1) rfl (by rw [ev_27]; rfl) (by decide) rfl (fun ls hl => ?_)
    have hp := hp v_27 ev_27
    refine lv_goto (tgt := 105) hx hb aMH.2.2.2.2.2.2.2.2.2.2.2.2.1 (by decide) ?_
    exact hKn v_27 v_26 aG jC bY jD mLn oF rP dQ aJ aB bU oX (upd qG bT.toNatClampNeg 0) (upd m_x bT.toNatClampNeg aHb) (upd gR bT.toNatClampNeg v_19) (upd pW bT.toNatClampNeg v_22) (upd qR bT.toNatClampNeg v_25) nG oO qT qA H locs ls hp hP hD hS (lv_sub hl [1, 0] rfl)
set_option maxHeartbeats 4000000 in
set_option maxRecDepth 100000 in
theorem kb_X10_orchard_105 (C0 : gc aAc (some .int) 3 zX (dC, dI) (tyl cI cC cZ cB cJ) A p s m args meth c) : ∀ (n : Nat), ∀ (x2 bT aG jC bY : Int32) (jD : Nat) (mLn oF rP dQ aJ aB bU oX : Int32) (qG m_x gR pW qR nG oO qT qA : Nat -> Int32) (H : Heap) (locs : List Loc) (ls : Array Slot), (wb_X10_orchard_105 post qO qQ n) x2 bT aG jC bY jD mLn oF rP dQ aJ aB bU oX qG m_x gR pW qR nG oO qT qA -> va_P (dC, dI) classes (aCT cI cC cZ cB cJ a_m nY sJ eG iY lY jR jW jZ jO oQ bR aY jQ gY iJ mQ lJ jA bG mK jB mW mJ eJ dG bT aG jC bL bY jD mLn oF rP dQ aJ aB bW bZ aR aE bI aW bU fJ dO bM bQ bO jY oX qG m_x gR pW qR nG oO qO qT qA qQ) H -> va_D A (aCT cI cC cZ cB cJ a_m nY sJ eG iY lY jR jW jZ jO oQ bR aY jQ gY iJ mQ lJ jA bG mK jB mW mJ eJ dG bT aG jC bL bY jD mLn oF rP dQ aJ aB bW bZ aR aE bI aW bU fJ dO bM bQ bO jY oX qG m_x gR pW qR nG oO qO qT qA qQ) -> va_S A s.heap H locs -> lv_has ls 3 [(0, .ref a_m), (2, .int x2)] -> W p l e aY0 s m args below meth c H locs 0 0 (MQ below (aZb dC dI cI cC cZ cB cJ A a_m nY sJ eG iY lY jR jW jZ jO oQ bR aY jQ gY iJ mQ lJ jA bG mK jB mW mJ eJ dG bL bW bZ aR aE bI aW fJ dO bM bQ bO jY qO qQ post) args s 0 0 A) (F0 m 105 ls []) := by
  intro n
  induction n with
  | zero =>
    intro x2 bT aG jC bY jD mLn oF rP dQ aJ aB bU oX qG m_x gR pW qR nG oO qT qA H locs ls hp
    exact False.elim hp
  | succ n ih =>
    intro x2 bT aG jC bY jD mLn oF rP dQ aJ aB bU oX qG m_x gR pW qR nG oO qT qA H locs ls hp
    exact ks_X10_orchard_105 C0 ih x2 bT aG jC bY jD mLn oF rP dQ aJ aB bU oX qG m_x gR pW qR nG oO qT qA H locs ls hp
def bBT (post : Int32 -> Int32 -> Int32 -> Int32 -> Int32 -> Nat -> Int32 -> Int32 -> Int32 -> Int32 -> Int32 -> Int32 -> Int32 -> Int32 -> (Nat -> Int32) -> (Nat -> Int32) -> (Nat -> Int32) -> (Nat -> Int32) -> (Nat -> Int32) -> (Nat -> Int32) -> (Nat -> Int32) -> (Nat -> Int32) -> (Nat -> Int32) -> Prop) (qO qQ : Nat -> Int32) (bT aG jC bY : Int32) (jD : Nat) (mLn oF rP dQ aJ aB bU oX : Int32) (qG m_x gR pW qR nG oO qT qA : Nat -> Int32) : Prop := aRX (fun r_6 => (¬ r_6 = 0 -> ∃ n : Nat, wb_X10_orchard_105 post qO qQ n 0 bT aG jC bY jD mLn oF rP dQ aJ aB bU oX qG m_x gR pW qR nG oO qT qA) /\ (r_6 = 0 -> post ((-1) - dQ) bT aG jC bY jD mLn oF rP dQ aJ aB bU oX qG m_x gR pW qR nG oO qT qA)) dQ
set_option maxHeartbeats 4000000 in
set_option maxRecDepth 100000 in
theorem ks_X10_orchard_89 (C0 : gc aAc (some .int) 3 zX (dC, dI) (tyl cI cC cZ cB cJ) A p s m args meth c) : ∀ (bT aG jC bY : Int32) (jD : Nat) (mLn oF rP dQ aJ aB bU oX : Int32) (qG m_x gR pW qR nG oO qT qA : Nat -> Int32) (H : Heap) (locs : List Loc) (ls : Array Slot), (bBT post qO qQ) bT aG jC bY jD mLn oF rP dQ aJ aB bU oX qG m_x gR pW qR nG oO qT qA -> va_P (dC, dI) classes (aCT cI cC cZ cB cJ a_m nY sJ eG iY lY jR jW jZ jO oQ bR aY jQ gY iJ mQ lJ jA bG mK jB mW mJ eJ dG bT aG jC bL bY jD mLn oF rP dQ aJ aB bW bZ aR aE bI aW bU fJ dO bM bQ bO jY oX qG m_x gR pW qR nG oO qO qT qA qQ) H -> va_D A (aCT cI cC cZ cB cJ a_m nY sJ eG iY lY jR jW jZ jO oQ bR aY jQ gY iJ mQ lJ jA bG mK jB mW mJ eJ dG bT aG jC bL bY jD mLn oF rP dQ aJ aB bW bZ aR aE bI aW bU fJ dO bM bQ bO jY oX qG m_x gR pW qR nG oO qO qT qA qQ) -> va_S A s.heap H locs -> lv_has ls 3 [(0, .ref a_m)] -> W p l e aY0 s m args below meth c H locs 0 0 (MQ below (aZb dC dI cI cC cZ cB cJ A a_m nY sJ eG iY lY jR jW jZ jO oQ bR aY jQ gY iJ mQ lJ jA bG mK jB mW mJ eJ dG bL bW bZ aR aE bI aW fJ dO bM bQ bO jY qO qQ post) args s 0 0 A) (F0 m 89 ls []) := by
  obtain ⟨hx, hb, hr, hml, hown, hts, hlocks, hA, hK, hN, tL, tM, hZL, hTL, hZM, hTM, hZX⟩ := id C0
  intro bT aG jC bY jD mLn oF rP dQ aJ aB bU oX qG m_x gR pW qR nG oO qT qA H locs ls hp hP hD hS hl
  unfold bBT at hp
  refine lv_aload_n hx hb aNs.2.2.2.2.2.2.2.2.2.2.2.2.2.2.2 rfl (lv_at hl 0 rfl) ?_
  have hm := mgk (wc := (aVf cI cC cZ cB cJ a_m nY sJ eG iY lY jR jW jZ jO oQ bR aY jQ gY iJ mQ lJ jA bG mK jB mW mJ eJ dG bT aG jC bL bY jD mLn oF rP dQ aJ aB bW bZ aR aE bI aW bU fJ dO bM bQ bO jY oX)) hP mk_200 12 rfl rfl rfl
  refine yW hP hD hS hA (yS mk_200) (aAi mk_200) hm.1 hm.2 (aAk _) (zW _) (zF (As := []) (rest := []) C0 hP hD hS (yS mk_200) hm.1 (aAl _) 0 10 rfl rfl (c_X10_fine l dC dI cI cC cZ cB cJ a_m nY sJ eG iY lY jR jW jZ jO oQ bR aY jQ gY iJ mQ lJ jA bG mK jB mW mJ eJ dG H.size bT aG jC bL bY jD mLn oF rP dQ aJ aB bW bZ aR aE bI aW bU fJ dO bM bQ bO jY oX _ hp) q_650 q_653 q_651 q_652 aBL h_X10_fine rfl rfl ⟨lbz rfl, lbz rfl⟩ rfl rfl hl.1 rfl (lv_room (lbz rfl)) aNt.1 ⟨Nat.zero_le _, Nat.zero_le _⟩) (fun r_6 u H locs hp hP hD hS => ?_)
  have hPD := PDm (ws' := (aCT cI cC cZ cB cJ a_m nY sJ eG iY lY jR jW jZ jO oQ bR aY jQ gY iJ mQ lJ jA bG mK jB mW mJ eJ dG bT aG jC bL bY jD mLn oF rP dQ aJ aB bW bZ aR aE bI aW bU fJ dO bM bQ bO jY oX qG m_x gR pW qR nG oO qO qT qA qQ)) hP hD 12 rfl rfl rfl
  have hP := hPD.1
  have hD := hPD.2
  refine lv_if_ne (tgt := 103) hx hb aNt.2.1 (by decide) (fun hc => ?_) (fun hc => ?_)
  · have hp := hp.1 hc
    refine lv_iconst (v := 0) hx hb aNt.2.2.2.2.2.2.2.1 aCi ?_
    refine lv_istore_n (lv' := [(2, .int 0), (0, .ref a_m)]) hx hb aNt.2.2.2.2.2.2.2.2.1 rfl hl (by decide) rfl (fun ls hl => ?_)
    obtain ⟨n9, hp⟩ := hp
    exact kb_X10_orchard_105 C0 n9 0 bT aG jC bY jD mLn oF rP dQ aJ aB bU oX qG m_x gR pW qR nG oO qT qA H locs ls hp hP hD hS (lv_sub hl [1, 0] rfl)
  · have hp := hp.2 hc
    refine lv_iconst (v := (-1)) hx hb aNt.2.2.1 aEJ ?_
    refine lv_aload_n hx hb aNt.2.2.2.1 rfl (lv_at hl 0 rfl) ?_
    refine va_get (D := (dC, dI)) (ci := 10) (v := .int dQ) (C := zX) (T := aBe) (N := 51) hx hb hts aAt hown hK hP 0 rfl rfl 19 (lbz rfl) (hts _ q_649) (fun _ h9 => h9) rfl aNt.2.2.2.2.1 ?_
    refine lv_isub hx hb aNt.2.2.2.2.2.1 ?_
    exact W.iret (v := (-1) - dQ) hx hb hr (fun t ht hW => ⟨⟨(-1) - dQ, (bT, aG, jC, bY, jD, mLn, oF, rP, dQ, aJ, aB, bU, oX, qG, m_x, gR, pW, qR, nG, oO, qT, qA), rfl, hp, by rw [ht]; exact hP, va_K.moved hW.alike hK, hD⟩, hS.F ht⟩) hS.2.2 aNt.2.2.2.2.2.2.1
def ws_X10_orchard_70 (post : Int32 -> Int32 -> Int32 -> Int32 -> Int32 -> Nat -> Int32 -> Int32 -> Int32 -> Int32 -> Int32 -> Int32 -> Int32 -> Int32 -> (Nat -> Int32) -> (Nat -> Int32) -> (Nat -> Int32) -> (Nat -> Int32) -> (Nat -> Int32) -> (Nat -> Int32) -> (Nat -> Int32) -> (Nat -> Int32) -> (Nat -> Int32) -> Prop) (qO qQ : Nat -> Int32) (bT aG jC bY : Int32) (jD : Nat) (mLn oF rP dQ aJ aB bU oX : Int32) (qG m_x gR pW qR nG oO qT qA : Nat -> Int32) : Prop := (mLn <= rP -> bBT post qO qQ bT aG jC bY jD mLn oF rP dQ aJ aB bU oX qG m_x gR pW qR nG oO qT qA) /\ (¬ mLn <= rP -> aSQ (fun aVK => bBT post qO qQ bT aG jC bY jD mLn oF rP aVK aJ aB bU oX qG m_x gR pW qR nG oO qT qA) rP dQ)
set_option maxHeartbeats 4000000 in
set_option maxRecDepth 100000 in
theorem ks_X10_orchard_70 (C0 : gc aAc (some .int) 3 zX (dC, dI) (tyl cI cC cZ cB cJ) A p s m args meth c) : ∀ (bT aG jC bY : Int32) (jD : Nat) (mLn oF rP dQ aJ aB bU oX : Int32) (qG m_x gR pW qR nG oO qT qA : Nat -> Int32) (H : Heap) (locs : List Loc) (ls : Array Slot), (ws_X10_orchard_70 post qO qQ) bT aG jC bY jD mLn oF rP dQ aJ aB bU oX qG m_x gR pW qR nG oO qT qA -> va_P (dC, dI) classes (aCT cI cC cZ cB cJ a_m nY sJ eG iY lY jR jW jZ jO oQ bR aY jQ gY iJ mQ lJ jA bG mK jB mW mJ eJ dG bT aG jC bL bY jD mLn oF rP dQ aJ aB bW bZ aR aE bI aW bU fJ dO bM bQ bO jY oX qG m_x gR pW qR nG oO qO qT qA qQ) H -> va_D A (aCT cI cC cZ cB cJ a_m nY sJ eG iY lY jR jW jZ jO oQ bR aY jQ gY iJ mQ lJ jA bG mK jB mW mJ eJ dG bT aG jC bL bY jD mLn oF rP dQ aJ aB bW bZ aR aE bI aW bU fJ dO bM bQ bO jY oX qG m_x gR pW qR nG oO qO qT qA qQ) -> va_S A s.heap H locs -> lv_has ls 3 [(0, .ref a_m)] -> W p l e aY0 s m args below meth c H locs 0 0 (MQ below (aZb dC dI cI cC cZ cB cJ A a_m nY sJ eG iY lY jR jW jZ jO oQ bR aY jQ gY iJ mQ lJ jA bG mK jB mW mJ eJ dG bL bW bZ aR aE bI aW fJ dO bM bQ bO jY qO qQ post) args s 0 0 A) (F0 m 70 ls []) := by
  obtain ⟨hx, hb, hr, hml, hown, hts, hlocks, hA, hK, hN, tL, tM, hZL, hTL, hZM, hTM, hZX⟩ := id C0
  intro bT aG jC bY jD mLn oF rP dQ aJ aB bU oX qG m_x gR pW qR nG oO qT qA H locs ls hp hP hD hS hl
  unfold ws_X10_orchard_70 at hp
  refine lv_aload_n hx hb aNs.2.2.2.2.2.2.1 rfl (lv_at hl 0 rfl) ?_
  refine va_get (D := (dC, dI)) (ci := 10) (v := .int rP) (C := zX) (T := aBe) (N := 51) hx hb hts aAt hown hK hP 0 rfl rfl 18 (lbz rfl) (hts _ q_648) (fun _ h9 => h9) rfl aNs.2.2.2.2.2.2.2.1 ?_
  refine lv_aload_n hx hb aNs.2.2.2.2.2.2.2.2.1 rfl (lv_at hl 0 rfl) ?_
  refine va_get (D := (dC, dI)) (ci := 10) (v := .int mLn) (C := zX) (T := aBe) (N := 51) hx hb hts aAt hown hK hP 0 rfl rfl 16 (lbz rfl) (hts _ q_646) (fun _ h9 => h9) rfl aNs.2.2.2.2.2.2.2.2.2.1 ?_
  refine lv_icmp_ge (tgt := 89) hx hb aNs.2.2.2.2.2.2.2.2.2.2.1 (by decide) (fun hc => ?_) (fun hc => ?_)
  · have hp := hp.1 hc
    exact ks_X10_orchard_89 C0 bT aG jC bY jD mLn oF rP dQ aJ aB bU oX qG m_x gR pW qR nG oO qT qA H locs ls hp hP hD hS (lv_sub hl [0] rfl)
  · have hp := hp.2 hc
    refine lv_aload_n hx hb aNs.2.2.2.2.2.2.2.2.2.2.2.1 rfl (lv_at hl 0 rfl) ?_
    refine lv_aload_n hx hb aNs.2.2.2.2.2.2.2.2.2.2.2.2.1 rfl (lv_at hl 0 rfl) ?_
    refine va_get (D := (dC, dI)) (ci := 10) (v := .int rP) (C := zX) (T := aBe) (N := 51) hx hb hts aAt hown hK hP 0 rfl rfl 18 (lbz rfl) (hts _ q_648) (fun _ h9 => h9) rfl aNs.2.2.2.2.2.2.2.2.2.2.2.2.2.1 ?_
    have hm := mgk (wc := (aSM cI cC cZ cB cJ a_m nY sJ eG iY lY jR jW jZ jO oQ bR aY jQ gY iJ mQ lJ jA bG mK jB mW mJ eJ dG bT aG jC bL bY jD mLn oF rP dQ aJ aB bW bZ aR aE bI aW bU fJ dO bM bQ bO jY oX)) hP mk_200 12 rfl rfl rfl
    refine aBn hP hD hS hA (yS mk_200) (aAi mk_200) hm.1 hm.2 (aAk _) (zW _) (zF (As := [.int rP]) (rest := []) C0 hP hD hS (yS mk_200) hm.1 (aAl _) 0 10 rfl rfl (c_X10_fault l dC dI cI cC cZ cB cJ a_m nY sJ eG iY lY jR jW jZ jO oQ bR aY jQ gY iJ mQ lJ jA bG mK jB mW mJ eJ dG H.size rP bT aG jC bL bY jD mLn oF rP dQ aJ aB bW bZ aR aE bI aW bU fJ dO bM bQ bO jY oX _ hp) q_654 q_657 q_655 q_656 aBL h_X10_fault rfl rfl ⟨lbz rfl, lbz rfl⟩ rfl rfl hl.1 rfl (lv_room (lbz rfl)) aNs.2.2.2.2.2.2.2.2.2.2.2.2.2.2.1 ⟨Nat.zero_le _, Nat.zero_le _⟩) (fun u H locs hp hP hD hS => ?_)
    obtain ⟨aVK, rfl⟩ : ∃ z, z = u := ⟨_, rfl⟩
    have hPD := PDm (ws' := (aCT cI cC cZ cB cJ a_m nY sJ eG iY lY jR jW jZ jO oQ bR aY jQ gY iJ mQ lJ jA bG mK jB mW mJ eJ dG bT aG jC bL bY jD mLn oF rP aVK aJ aB bW bZ aR aE bI aW bU fJ dO bM bQ bO jY oX qG m_x gR pW qR nG oO qO qT qA qQ)) hP hD 12 rfl rfl rfl
    have hP := hPD.1
    have hD := hPD.2
    exact ks_X10_orchard_89 C0 bT aG jC bY jD mLn oF rP aVK aJ aB bU oX qG m_x gR pW qR nG oO qT qA H locs ls hp hP hD hS (lv_sub hl [0] rfl)
def ws_X10_orchard_45 (post next : Int32 -> Int32 -> Int32 -> Int32 -> Int32 -> Nat -> Int32 -> Int32 -> Int32 -> Int32 -> Int32 -> Int32 -> Int32 -> Int32 -> (Nat -> Int32) -> (Nat -> Int32) -> (Nat -> Int32) -> (Nat -> Int32) -> (Nat -> Int32) -> (Nat -> Int32) -> (Nat -> Int32) -> (Nat -> Int32) -> (Nat -> Int32) -> Prop) (qO qQ : Nat -> Int32) (x1 bT aG jC bY : Int32) (jD : Nat) (mLn oF rP dQ aJ aB bU oX : Int32) (qG m_x gR pW qR nG oO qT qA : Nat -> Int32) : Prop := (x1 = 0 -> ws_X10_orchard_70 post qO qQ bT aG jC bY jD mLn oF rP dQ aJ aB bU oX qG m_x gR pW qR nG oO qT qA) /\ (¬ x1 = 0 -> aRX (fun r_29 => (r_29 = 0 -> ws_X10_orchard_70 post qO qQ bT aG jC bY jD mLn oF rP dQ aJ aB bU oX qG m_x gR pW qR nG oO qT qA) /\ (¬ r_29 = 0 -> bCJ (fun m_at_30 m_wrong_31 m_newFruitMany_32 bBk m_newFruits_34 m_newStandings_35 => aPM (fun r_36 m_at_37 => next r_36 bT aG jC bY jD mLn oF m_at_37 m_wrong_31 m_newFruitMany_32 bBk bU oX qG m_x gR pW qR nG oO m_newFruits_34 m_newStandings_35) 59 jD mLn oF m_at_30 m_wrong_31 qO qQ) bT aG jD mLn oF rP dQ aJ aB qO qT qA qQ)) dQ)
noncomputable def aU1 (post : Int32 -> Int32 -> Int32 -> Int32 -> Int32 -> Nat -> Int32 -> Int32 -> Int32 -> Int32 -> Int32 -> Int32 -> Int32 -> Int32 -> (Nat -> Int32) -> (Nat -> Int32) -> (Nat -> Int32) -> (Nat -> Int32) -> (Nat -> Int32) -> (Nat -> Int32) -> (Nat -> Int32) -> (Nat -> Int32) -> (Nat -> Int32) -> Prop) (qO qQ : Nat -> Int32) : Nat -> Int32 -> Int32 -> Int32 -> Int32 -> Int32 -> Nat -> Int32 -> Int32 -> Int32 -> Int32 -> Int32 -> Int32 -> Int32 -> Int32 -> (Nat -> Int32) -> (Nat -> Int32) -> (Nat -> Int32) -> (Nat -> Int32) -> (Nat -> Int32) -> (Nat -> Int32) -> (Nat -> Int32) -> (Nat -> Int32) -> (Nat -> Int32) -> Prop := fun n => Nat.rec (motive := fun _ => Int32 -> Int32 -> Int32 -> Int32 -> Int32 -> Nat -> Int32 -> Int32 -> Int32 -> Int32 -> Int32 -> Int32 -> Int32 -> Int32 -> (Nat -> Int32) -> (Nat -> Int32) -> (Nat -> Int32) -> (Nat -> Int32) -> (Nat -> Int32) -> (Nat -> Int32) -> (Nat -> Int32) -> (Nat -> Int32) -> (Nat -> Int32) -> Prop) (fun _ _ _ _ _ _ _ _ _ _ _ _ _ _ _ _ _ _ _ _ _ _ _ => False) (fun _ ih => ws_X10_orchard_45 post ih qO qQ) n
set_option maxHeartbeats 4000000 in
set_option maxRecDepth 100000 in
theorem ks_X10_orchard_45 (C0 : gc aAc (some .int) 3 zX (dC, dI) (tyl cI cC cZ cB cJ) A p s m args meth c) {next : Int32 -> Int32 -> Int32 -> Int32 -> Int32 -> Nat -> Int32 -> Int32 -> Int32 -> Int32 -> Int32 -> Int32 -> Int32 -> Int32 -> (Nat -> Int32) -> (Nat -> Int32) -> (Nat -> Int32) -> (Nat -> Int32) -> (Nat -> Int32) -> (Nat -> Int32) -> (Nat -> Int32) -> (Nat -> Int32) -> (Nat -> Int32) -> Prop} (hKn : ∀ (x1 : Int32) (bT : Int32) (aG : Int32) (jC : Int32) (bY : Int32) (jD : Nat) (mLn : Int32) (oF : Int32) (rP : Int32) (dQ : Int32) (aJ : Int32) (aB : Int32) (bU : Int32) (oX : Int32) (qG : Nat -> Int32) (m_x : Nat -> Int32) (gR : Nat -> Int32) (pW : Nat -> Int32) (qR : Nat -> Int32) (nG : Nat -> Int32) (oO : Nat -> Int32) (qT : Nat -> Int32) (qA : Nat -> Int32) (H : Heap) (locs : List Loc) (ls : Array Slot), next x1 bT aG jC bY jD mLn oF rP dQ aJ aB bU oX qG m_x gR pW qR nG oO qT qA -> va_P (dC, dI) classes (aCT cI cC cZ cB cJ a_m nY sJ eG iY lY jR jW jZ jO oQ bR aY jQ gY iJ mQ lJ jA bG mK jB mW mJ eJ dG bT aG jC bL bY jD mLn oF rP dQ aJ aB bW bZ aR aE bI aW bU fJ dO bM bQ bO jY oX qG m_x gR pW qR nG oO qO qT qA qQ) H -> va_D A (aCT cI cC cZ cB cJ a_m nY sJ eG iY lY jR jW jZ jO oQ bR aY jQ gY iJ mQ lJ jA bG mK jB mW mJ eJ dG bT aG jC bL bY jD mLn oF rP dQ aJ aB bW bZ aR aE bI aW bU fJ dO bM bQ bO jY oX qG m_x gR pW qR nG oO qO qT qA qQ) -> va_S A s.heap H locs -> lv_has ls 3 [(0, .ref a_m), (1, .int x1)] -> W p l e aY0 s m args below meth c H locs 0 0 (MQ below (aZb dC dI cI cC cZ cB cJ A a_m nY sJ eG iY lY jR jW jZ jO oQ bR aY jQ gY iJ mQ lJ jA bG mK jB mW mJ eJ dG bL bW bZ aR aE bI aW fJ dO bM bQ bO jY qO qQ post) args s 0 0 A) (F0 m 45 ls [])) : ∀ (x1 bT aG jC bY : Int32) (jD : Nat) (mLn oF rP dQ aJ aB bU oX : Int32) (qG m_x gR pW qR nG oO qT qA : Nat -> Int32) (H : Heap) (locs : List Loc) (ls : Array Slot), (ws_X10_orchard_45 post next qO qQ) x1 bT aG jC bY jD mLn oF rP dQ aJ aB bU oX qG m_x gR pW qR nG oO qT qA -> va_P (dC, dI) classes (aCT cI cC cZ cB cJ a_m nY sJ eG iY lY jR jW jZ jO oQ bR aY jQ gY iJ mQ lJ jA bG mK jB mW mJ eJ dG bT aG jC bL bY jD mLn oF rP dQ aJ aB bW bZ aR aE bI aW bU fJ dO bM bQ bO jY oX qG m_x gR pW qR nG oO qO qT qA qQ) H -> va_D A (aCT cI cC cZ cB cJ a_m nY sJ eG iY lY jR jW jZ jO oQ bR aY jQ gY iJ mQ lJ jA bG mK jB mW mJ eJ dG bT aG jC bL bY jD mLn oF rP dQ aJ aB bW bZ aR aE bI aW bU fJ dO bM bQ bO jY oX qG m_x gR pW qR nG oO qO qT qA qQ) -> va_S A s.heap H locs -> lv_has ls 3 [(0, .ref a_m), (1, .int x1)] -> W p l e aY0 s m args below meth c H locs 0 0 (MQ below (aZb dC dI cI cC cZ cB cJ A a_m nY sJ eG iY lY jR jW jZ jO oQ bR aY jQ gY iJ mQ lJ jA bG mK jB mW mJ eJ dG bL bW bZ aR aE bI aW fJ dO bM bQ bO jY qO qQ post) args s 0 0 A) (F0 m 45 ls []) := by
  obtain ⟨hx, hb, hr, hml, hown, hts, hlocks, hA, hK, hN, tL, tM, hZL, hTL, hZM, hTM, hZX⟩ := id C0
  intro x1 bT aG jC bY jD mLn oF rP dQ aJ aB bU oX qG m_x gR pW qR nG oO qT qA H locs ls hp hP hD hS hl
  unfold ws_X10_orchard_45 at hp
  refine lv_iload_n hx hb aNr.2.2.2.2.2.2.2.2.2.2.1 rfl (lv_at hl 1 rfl) ?_
  refine lv_if_eq (tgt := 70) hx hb aNr.2.2.2.2.2.2.2.2.2.2.2.1 (by decide) (fun hc => ?_) (fun hc => ?_)
  · have hp := hp.1 hc
    exact ks_X10_orchard_70 C0 bT aG jC bY jD mLn oF rP dQ aJ aB bU oX qG m_x gR pW qR nG oO qT qA H locs ls hp hP hD hS (lv_sub hl [0] rfl)
  · have hp := hp.2 hc
    refine lv_aload_n hx hb aNr.2.2.2.2.2.2.2.2.2.2.2.2.1 rfl (lv_at hl 0 rfl) ?_
    have hm := mgk (wc := (aVf cI cC cZ cB cJ a_m nY sJ eG iY lY jR jW jZ jO oQ bR aY jQ gY iJ mQ lJ jA bG mK jB mW mJ eJ dG bT aG jC bL bY jD mLn oF rP dQ aJ aB bW bZ aR aE bI aW bU fJ dO bM bQ bO jY oX)) hP mk_200 12 rfl rfl rfl
    refine yW hP hD hS hA (yS mk_200) (aAi mk_200) hm.1 hm.2 (aAk _) (zW _) (zF (As := []) (rest := []) C0 hP hD hS (yS mk_200) hm.1 (aAl _) 0 10 rfl rfl (c_X10_fine l dC dI cI cC cZ cB cJ a_m nY sJ eG iY lY jR jW jZ jO oQ bR aY jQ gY iJ mQ lJ jA bG mK jB mW mJ eJ dG H.size bT aG jC bL bY jD mLn oF rP dQ aJ aB bW bZ aR aE bI aW bU fJ dO bM bQ bO jY oX _ hp) q_650 q_653 q_651 q_652 aBL h_X10_fine rfl rfl ⟨lbz rfl, lbz rfl⟩ rfl rfl hl.1 rfl (lv_room (lbz rfl)) aNr.2.2.2.2.2.2.2.2.2.2.2.2.2.1 ⟨Nat.zero_le _, Nat.zero_le _⟩) (fun r_29 u H locs hp hP hD hS => ?_)
    have hPD := PDm (ws' := (aCT cI cC cZ cB cJ a_m nY sJ eG iY lY jR jW jZ jO oQ bR aY jQ gY iJ mQ lJ jA bG mK jB mW mJ eJ dG bT aG jC bL bY jD mLn oF rP dQ aJ aB bW bZ aR aE bI aW bU fJ dO bM bQ bO jY oX qG m_x gR pW qR nG oO qO qT qA qQ)) hP hD 12 rfl rfl rfl
    have hP := hPD.1
    have hD := hPD.2
    refine lv_if_eq (tgt := 70) hx hb aNr.2.2.2.2.2.2.2.2.2.2.2.2.2.2.1 (by decide) (fun hc => ?_) (fun hc => ?_)
    · have hp := hp.1 hc
      exact ks_X10_orchard_70 C0 bT aG jC bY jD mLn oF rP dQ aJ aB bU oX qG m_x gR pW qR nG oO qT qA H locs ls hp hP hD hS (lv_sub hl [0] rfl)
    · have hp := hp.2 hc
      refine lv_aload_n hx hb aNr.2.2.2.2.2.2.2.2.2.2.2.2.2.2.2 rfl (lv_at hl 0 rfl) ?_
      have hm := mgk (wc := (aC6 cI cC cZ cB cJ a_m nY sJ eG iY lY jR jW jZ jO oQ bR aY jQ gY iJ mQ lJ jA bG mK jB mW mJ eJ dG bT aG jC bL bY jD mLn oF rP dQ aJ aB bW bZ aR aE bI aW bU fJ dO bM bQ bO jY oX qO qT qA qQ)) hP mk_201 12 rfl rfl rfl
      refine aBn hP hD hS hA (yS mk_201) (aAi mk_201) hm.1 hm.2 (aAk _) (zW _) (zF (As := []) (rest := []) C0 hP hD hS (yS mk_201) hm.1 (aAl _) 0 10 rfl rfl (c_X10_readLine l dC dI cI cC cZ cB cJ a_m nY sJ eG iY lY jR jW jZ jO oQ bR aY jQ gY iJ mQ lJ jA bG mK jB mW mJ eJ dG H.size bT aG jC bL bY jD mLn oF rP dQ aJ aB bW bZ aR aE bI aW bU fJ dO bM bQ bO jY oX qO qT qA qQ _ hp) q_693 q_696 q_694 q_695 aBL h_X10_readLine rfl rfl ⟨lbz rfl, lbz rfl⟩ rfl rfl hl.1 rfl (lv_room (lbz rfl)) aNs.1 ⟨Nat.zero_le _, Nat.zero_le _⟩) (fun u H locs hp hP hD hS => ?_)
      obtain ⟨m_at_30, m_wrong_31, m_newFruitMany_32, bBk, m_newFruits_34, m_newStandings_35⟩ := u
      have hPD := PDm (ws' := (aCT cI cC cZ cB cJ a_m nY sJ eG iY lY jR jW jZ jO oQ bR aY jQ gY iJ mQ lJ jA bG mK jB mW mJ eJ dG bT aG jC bL bY jD mLn oF m_at_30 m_wrong_31 m_newFruitMany_32 bBk bW bZ aR aE bI aW bU fJ dO bM bQ bO jY oX qG m_x gR pW qR nG oO qO m_newFruits_34 m_newStandings_35 qQ)) hP hD 12 rfl rfl rfl
      have hP := hPD.1
      have hD := hPD.2
      refine lv_aload_n hx hb aNs.2.1 rfl (lv_at hl 0 rfl) ?_
      refine lv_bipush (v := 59) hx hb aNs.2.2.1 bp_59 ?_
      have hm := mgk (wc := (aOh cI cC cZ cB cJ a_m nY sJ eG iY lY jR jW jZ jO oQ bR aY jQ gY iJ mQ lJ jA bG mK jB mW mJ eJ dG bT aG jC bL bY jD mLn oF m_at_30 m_wrong_31 m_newFruitMany_32 bBk bW bZ aR aE bI aW bU fJ dO bM bQ bO jY oX qO qQ)) hP mk_202 12 rfl rfl rfl
      refine yW hP hD hS hA (yS mk_202) (aAi mk_202) hm.1 hm.2 (aAk _) (zW _) (zF (As := [.int 59]) (rest := []) C0 hP hD hS (yS mk_202) hm.1 (aAl _) 0 10 rfl rfl (c_X10_passes l dC dI cI cC cZ cB cJ a_m nY sJ eG iY lY jR jW jZ jO oQ bR aY jQ gY iJ mQ lJ jA bG mK jB mW mJ eJ dG H.size 59 bT aG jC bL bY jD mLn oF m_at_30 m_wrong_31 m_newFruitMany_32 bBk bW bZ aR aE bI aW bU fJ dO bM bQ bO jY oX qO qQ _ hp) q_662 q_665 q_663 q_664 aBL h_X10_passes rfl rfl ⟨lbz rfl, lbz rfl⟩ rfl rfl hl.1 rfl (lv_room (lbz rfl)) aNs.2.2.2.1 ⟨Nat.zero_le _, Nat.zero_le _⟩) (fun r_36 u H locs hp hP hD hS => ?_)
      obtain ⟨m_at_37, rfl⟩ : ∃ z, z = u := ⟨_, rfl⟩
      have hPD := PDm (ws' := (aCT cI cC cZ cB cJ a_m nY sJ eG iY lY jR jW jZ jO oQ bR aY jQ gY iJ mQ lJ jA bG mK jB mW mJ eJ dG bT aG jC bL bY jD mLn oF m_at_37 m_wrong_31 m_newFruitMany_32 bBk bW bZ aR aE bI aW bU fJ dO bM bQ bO jY oX qG m_x gR pW qR nG oO qO m_newFruits_34 m_newStandings_35 qQ)) hP hD 12 rfl rfl rfl
      have hP := hPD.1
      have hD := hPD.2
      refine lv_istore_n (lv' := [(1, .int r_36), (0, .ref a_m)]) hx hb aNs.2.2.2.2.1 rfl hl (by decide) rfl (fun ls hl => ?_)
      refine lv_goto (tgt := 45) hx hb aNs.2.2.2.2.2.1 (by decide) ?_
      exact hKn r_36 bT aG jC bY jD mLn oF m_at_37 m_wrong_31 m_newFruitMany_32 bBk bU oX qG m_x gR pW qR nG oO m_newFruits_34 m_newStandings_35 H locs ls hp hP hD hS (lv_sub hl [1, 0] rfl)
set_option maxHeartbeats 4000000 in
set_option maxRecDepth 100000 in
theorem kb_X10_orchard_45 (C0 : gc aAc (some .int) 3 zX (dC, dI) (tyl cI cC cZ cB cJ) A p s m args meth c) : ∀ (n : Nat), ∀ (x1 bT aG jC bY : Int32) (jD : Nat) (mLn oF rP dQ aJ aB bU oX : Int32) (qG m_x gR pW qR nG oO qT qA : Nat -> Int32) (H : Heap) (locs : List Loc) (ls : Array Slot), (aU1 post qO qQ n) x1 bT aG jC bY jD mLn oF rP dQ aJ aB bU oX qG m_x gR pW qR nG oO qT qA -> va_P (dC, dI) classes (aCT cI cC cZ cB cJ a_m nY sJ eG iY lY jR jW jZ jO oQ bR aY jQ gY iJ mQ lJ jA bG mK jB mW mJ eJ dG bT aG jC bL bY jD mLn oF rP dQ aJ aB bW bZ aR aE bI aW bU fJ dO bM bQ bO jY oX qG m_x gR pW qR nG oO qO qT qA qQ) H -> va_D A (aCT cI cC cZ cB cJ a_m nY sJ eG iY lY jR jW jZ jO oQ bR aY jQ gY iJ mQ lJ jA bG mK jB mW mJ eJ dG bT aG jC bL bY jD mLn oF rP dQ aJ aB bW bZ aR aE bI aW bU fJ dO bM bQ bO jY oX qG m_x gR pW qR nG oO qO qT qA qQ) -> va_S A s.heap H locs -> lv_has ls 3 [(0, .ref a_m), (1, .int x1)] -> W p l e aY0 s m args below meth c H locs 0 0 (MQ below (aZb dC dI cI cC cZ cB cJ A a_m nY sJ eG iY lY jR jW jZ jO oQ bR aY jQ gY iJ mQ lJ jA bG mK jB mW mJ eJ dG bL bW bZ aR aE bI aW fJ dO bM bQ bO jY qO qQ post) args s 0 0 A) (F0 m 45 ls []) := by
  intro n
  induction n with
  | zero =>
    intro x1 bT aG jC bY jD mLn oF rP dQ aJ aB bU oX qG m_x gR pW qR nG oO qT qA H locs ls hp
    exact False.elim hp
  | succ n ih =>
    intro x1 bT aG jC bY jD mLn oF rP dQ aJ aB bU oX qG m_x gR pW qR nG oO qT qA H locs ls hp
    exact ks_X10_orchard_45 C0 ih x1 bT aG jC bY jD mLn oF rP dQ aJ aB bU oX qG m_x gR pW qR nG oO qT qA H locs ls hp
end S_X10_orchard
def wp_X10_orchard (post : Int32 -> Int32 -> Int32 -> Int32 -> Int32 -> Nat -> Int32 -> Int32 -> Int32 -> Int32 -> Int32 -> Int32 -> Int32 -> Int32 -> (Nat -> Int32) -> (Nat -> Int32) -> (Nat -> Int32) -> (Nat -> Int32) -> (Nat -> Int32) -> (Nat -> Int32) -> (Nat -> Int32) -> (Nat -> Int32) -> (Nat -> Int32) -> Prop) (bT aG jC bY : Int32) (jD : Nat) (mLn oF rP dQ aJ aB bU oX : Int32) (qG m_x gR pW qR nG oO qO qT qA qQ : Nat -> Int32) : Prop := wp_X10_begin (fun aH5 aEf aKT aQ5 aGh => (¬ aEf = 0 -> ∃ n : Nat, aU1 post qO qQ n 1 bT aG 0 0 aH5 aEf aKT aQ5 aGh 0 0 bU oX qG m_x gR pW qR nG oO qT qA) /\ (aEf = 0 -> post 0 bT aG 0 0 aH5 aEf aKT aQ5 aGh aJ aB bU oX qG m_x gR pW qR nG oO qT qA)) jC 76 jD mLn oF rP dQ
set_option maxHeartbeats 4000000 in
set_option maxRecDepth 100000 in
theorem c_X10_orchard (l : Launch) (dC : Nat -> ClassId) (dI : Nat -> Nat -> Nat) (cI cC cZ cB cJ : ClassId) (a_m nY sJ eG iY lY jR jW jZ jO oQ bR aY jQ gY iJ mQ lJ jA bG mK jB mW mJ eJ dG sz : Nat) (bT aG jC bL bY : Int32) (jD : Nat) (mLn oF rP dQ aJ aB bW bZ aR aE bI aW bU fJ dO bM bQ bO jY oX : Int32) (qG m_x gR pW qR nG oO qO qT qA qQ : Nat -> Int32) (post : Int32 -> Int32 -> Int32 -> Int32 -> Int32 -> Nat -> Int32 -> Int32 -> Int32 -> Int32 -> Int32 -> Int32 -> Int32 -> Int32 -> (Nat -> Int32) -> (Nat -> Int32) -> (Nat -> Int32) -> (Nat -> Int32) -> (Nat -> Int32) -> (Nat -> Int32) -> (Nat -> Int32) -> (Nat -> Int32) -> (Nat -> Int32) -> Prop) (hw : wp_X10_orchard post bT aG jC bY jD mLn oF rP dQ aJ aB bU oX qG m_x gR pW qR nG oO qO qT qA qQ) : Met l yX10_orchard (gw yX10_orchard aAc 3 (some .int)) aY0 (va_Pc [.ref a_m] (gPre (dC, dI) (tyl cI cC cZ cB cJ) (aCT cI cC cZ cB cJ a_m nY sJ eG iY lY jR jW jZ jO oQ bR aY jQ gY iJ mQ lJ jA bG mK jB mW mJ eJ dG bT aG jC bL bY jD mLn oF rP dQ aJ aB bW bZ aR aE bI aW bU fJ dO bM bQ bO jY oX qG m_x gR pW qR nG oO qO qT qA qQ) sz)) (aZb dC dI cI cC cZ cB cJ (va_A (aCT cI cC cZ cB cJ a_m nY sJ eG iY lY jR jW jZ jO oQ bR aY jQ gY iJ mQ lJ jA bG mK jB mW mJ eJ dG bT aG jC bL bY jD mLn oF rP dQ aJ aB bW bZ aR aE bI aW bU fJ dO bM bQ bO jY oX qG m_x gR pW qR nG oO qO qT qA qQ) sz) a_m nY sJ eG iY lY jR jW jZ jO oQ bR aY jQ gY iJ mQ lJ jA bG mK jB mW mJ eJ dG bL bW bZ aR aE bI aW fJ dO bM bQ bO jY qO qQ post) 0 0 (va_A (aCT cI cC cZ cB cJ a_m nY sJ eG iY lY jR jW jZ jO oQ bR aY jQ gY iJ mQ lJ jA bG mK jB mW mJ eJ dG bT aG jC bL bY jD mLn oF rP dQ aJ aB bW bZ aR aE bI aW bU fJ dO bM bQ bO jY oX qG m_x gR pW qR nG oO qO qT qA qQ) sz) := by
  refine aBJ (own := zX) (dC, dI) (tyl cI cC cZ cB cJ) (aCT cI cC cZ cB cJ a_m nY sJ eG iY lY jR jW jZ jO oQ bR aY jQ gY iJ mQ lJ jA bG mK jB mW mJ eJ dG bT aG jC bL bY jD mLn oF rP dQ aJ aB bW bZ aR aE bI aW bU fJ dO bM bQ bO jY oX qG m_x gR pW qR nG oO qO qT qA qQ) sz [.ref a_m] (fun A => aZb dC dI cI cC cZ cB cJ A a_m nY sJ eG iY lY jR jW jZ jO oQ bR aY jQ gY iJ mQ lJ jA bG mK jB mW mJ eJ dG bL bW bZ aR aE bI aW fJ dO bM bQ bO jY qO qQ post) aFY rfl (lbz rfl) ?_
  intro p e s m args below meth c A H locs ls C0 hP hD hS hl
  have hl : lv_has ls 3 [(0, .ref a_m)] := hl
  obtain ⟨hx, hb, hr, hml, hown, hts, hlocks, hA, hK, hN, tL, tM, hZL, hTL, hZM, hTM, hZX⟩ := id C0
  have hp := hw
  unfold wp_X10_orchard at hp
  refine lv_aload_n hx hb aQP.1 rfl (lv_at hl 0 rfl) ?_
  refine lv_iconst (v := 0) hx hb aQP.2.1 aCi ?_
  refine va_put (D := (dC, dI)) (ci := 10) (v := .int 0) (ty := .int) (C := zX) (T := aBe) (N := 51) hx hb hts aAt aD2 aAa aEC hown hK hP hD hS 0 rfl rfl 14 (lbz rfl) (hts _ q_638) (fun _ h9 => h9) rfl (aAa 14 (lbz rfl)) rfl rfl (lbz rfl) aQP.2.2.1 (fun H locs hP hD hS => ?_)
  have hPD := PDw (ws' := (aCT cI cC cZ cB cJ a_m nY sJ eG iY lY jR jW jZ jO oQ bR aY jQ gY iJ mQ lJ jA bG mK jB mW mJ eJ dG bT aG jC bL 0 jD mLn oF rP dQ aJ aB bW bZ aR aE bI aW bU fJ dO bM bQ bO jY oX qG m_x gR pW qR nG oO qO qT qA qQ)) hP hD rfl
  have hP := hPD.1
  have hD := hPD.2
  refine lv_aload_n hx hb aQP.2.2.2.1 rfl (lv_at hl 0 rfl) ?_
  refine lv_aload_n hx hb aQP.2.2.2.2.1 rfl (lv_at hl 0 rfl) ?_
  refine va_get (D := (dC, dI)) (ci := 10) (v := .ref jO) (C := zX) (T := aBe) (N := 51) hx hb hts aAt hown hK hP 0 rfl rfl 10 (lbz rfl) (hts _ q_640) (fun _ h9 => h9) rfl aQP.2.2.2.2.2.1 ?_
  refine lv_aload_n hx hb aQP.2.2.2.2.2.2.1 rfl (lv_at hl 0 rfl) ?_
  refine va_get (D := (dC, dI)) (ci := 10) (v := .int jC) (C := zX) (T := aBe) (N := 51) hx hb hts aAt hown hK hP 0 rfl rfl 11 (lbz rfl) (hts _ q_639) (fun _ h9 => h9) rfl aQP.2.2.2.2.2.2.2.1 ?_
  refine lv_bipush (v := 76) hx hb aQP.2.2.2.2.2.2.2.2.1 bp_76 ?_
  have hm := mgk (wc := (aRM cI cC cZ cB cJ a_m nY sJ eG iY lY jR jW jZ jO oQ bR aY jQ gY iJ mQ lJ jA bG mK jB mW mJ eJ dG bT aG jC bL 0 jD mLn oF rP dQ aJ aB bW bZ aR aE bI aW bU fJ dO bM bQ bO jY oX)) hP mk_200 12 rfl rfl rfl
  refine aBn hP hD hS hA (yS mk_200) (aAi mk_200) hm.1 hm.2 (aAk _) (zW _) (zF (As := [.ref jO, .int jC, .int 76]) (rest := []) C0 hP hD hS (yS mk_200) hm.1 (aAl _) 0 10 rfl rfl (c_X10_begin l dC dI cI cC cZ cB cJ a_m nY sJ eG iY lY jR jW jZ jO oQ bR aY jQ gY iJ mQ lJ jA bG mK jB mW mJ eJ dG H.size jC 76 bT aG jC bL 0 jD mLn oF rP dQ aJ aB bW bZ aR aE bI aW bU fJ dO bM bQ bO jY oX _ hp) q_680 q_683 q_681 q_682 aBL h_X10_begin rfl rfl ⟨lbz rfl, lbz rfl⟩ rfl rfl hl.1 rfl (lv_room (lbz rfl)) aQP.2.2.2.2.2.2.2.2.2.1 ⟨Nat.zero_le _, Nat.zero_le _⟩) (fun u H locs hp hP hD hS => ?_)
  obtain ⟨aH5, aEf, aKT, aQ5, aGh⟩ := u
  have hPD := PDm (ws' := (aCT cI cC cZ cB cJ a_m nY sJ eG iY lY jR jW jZ jO oQ bR aY jQ gY iJ mQ lJ jA bG mK jB mW mJ eJ dG bT aG jC bL 0 aH5 aEf aKT aQ5 aGh aJ aB bW bZ aR aE bI aW bU fJ dO bM bQ bO jY oX qG m_x gR pW qR nG oO qO qT qA qQ)) hP hD 12 rfl rfl rfl
  have hP := hPD.1
  have hD := hPD.2
  refine lv_aload_n hx hb aQP.2.2.2.2.2.2.2.2.2.2.1 rfl (lv_at hl 0 rfl) ?_
  refine lv_iconst (v := 0) hx hb aQP.2.2.2.2.2.2.2.2.2.2.2.1 aCi ?_
  refine va_put (D := (dC, dI)) (ci := 10) (v := .int 0) (ty := .int) (C := zX) (T := aBe) (N := 51) hx hb hts aAt aD2 aAa aEC hown hK hP hD hS 0 rfl rfl 11 (lbz rfl) (hts _ q_639) (fun _ h9 => h9) rfl (aAa 11 (lbz rfl)) rfl rfl (lbz rfl) aQP.2.2.2.2.2.2.2.2.2.2.2.2.1 (fun H locs hP hD hS => ?_)
  have hPD := PDw (ws' := (aCT cI cC cZ cB cJ a_m nY sJ eG iY lY jR jW jZ jO oQ bR aY jQ gY iJ mQ lJ jA bG mK jB mW mJ eJ dG bT aG 0 bL 0 aH5 aEf aKT aQ5 aGh aJ aB bW bZ aR aE bI aW bU fJ dO bM bQ bO jY oX qG m_x gR pW qR nG oO qO qT qA qQ)) hP hD rfl
  have hP := hPD.1
  have hD := hPD.2
  refine lv_aload_n hx hb aQP.2.2.2.2.2.2.2.2.2.2.2.2.2.1 rfl (lv_at hl 0 rfl) ?_
  refine va_get (D := (dC, dI)) (ci := 10) (v := .int aEf) (C := zX) (T := aBe) (N := 51) hx hb hts aAt hown hK hP 0 rfl rfl 16 (lbz rfl) (hts _ q_646) (fun _ h9 => h9) rfl aQP.2.2.2.2.2.2.2.2.2.2.2.2.2.2.1 ?_
  refine lv_if_ne (tgt := 33) hx hb aQP.2.2.2.2.2.2.2.2.2.2.2.2.2.2.2 (by decide) (fun hc => ?_) (fun hc => ?_)
  · have hp := hp.1 hc
    refine lv_aload_n hx hb aNr.2.2.1 rfl (lv_at hl 0 rfl) ?_
    refine lv_iconst (v := 0) hx hb aNr.2.2.2.1 aCi ?_
    refine va_put (D := (dC, dI)) (ci := 10) (v := .int 0) (ty := .int) (C := zX) (T := aBe) (N := 51) hx hb hts aAt aD2 aAa aEC hown hK hP hD hS 0 rfl rfl 22 (lbz rfl) (hts _ q_678) (fun _ h9 => h9) rfl (aAa 22 (lbz rfl)) rfl rfl (lbz rfl) aNr.2.2.2.2.1 (fun H locs hP hD hS => ?_)
    have hPD := PDw (ws' := (aCT cI cC cZ cB cJ a_m nY sJ eG iY lY jR jW jZ jO oQ bR aY jQ gY iJ mQ lJ jA bG mK jB mW mJ eJ dG bT aG 0 bL 0 aH5 aEf aKT aQ5 aGh 0 aB bW bZ aR aE bI aW bU fJ dO bM bQ bO jY oX qG m_x gR pW qR nG oO qO qT qA qQ)) hP hD rfl
    have hP := hPD.1
    have hD := hPD.2
    refine lv_aload_n hx hb aNr.2.2.2.2.2.1 rfl (lv_at hl 0 rfl) ?_
    refine lv_iconst (v := 0) hx hb aNr.2.2.2.2.2.2.1 aCi ?_
    refine va_put (D := (dC, dI)) (ci := 10) (v := .int 0) (ty := .int) (C := zX) (T := aBe) (N := 51) hx hb hts aAt aD2 aAa aEC hown hK hP hD hS 0 rfl rfl 23 (lbz rfl) (hts _ q_667) (fun _ h9 => h9) rfl (aAa 23 (lbz rfl)) rfl rfl (lbz rfl) aNr.2.2.2.2.2.2.2.1 (fun H locs hP hD hS => ?_)
    have hPD := PDw (ws' := (aCT cI cC cZ cB cJ a_m nY sJ eG iY lY jR jW jZ jO oQ bR aY jQ gY iJ mQ lJ jA bG mK jB mW mJ eJ dG bT aG 0 bL 0 aH5 aEf aKT aQ5 aGh 0 0 bW bZ aR aE bI aW bU fJ dO bM bQ bO jY oX qG m_x gR pW qR nG oO qO qT qA qQ)) hP hD rfl
    have hP := hPD.1
    have hD := hPD.2
    refine lv_iconst (v := 1) hx hb aNr.2.2.2.2.2.2.2.2.1 aDx ?_
    refine lv_istore_n (lv' := [(1, .int 1), (0, .ref a_m)]) hx hb aNr.2.2.2.2.2.2.2.2.2.1 rfl hl (by decide) rfl (fun ls hl => ?_)
    obtain ⟨n9, hp⟩ := hp
    exact kb_X10_orchard_45 C0 n9 1 bT aG 0 0 aH5 aEf aKT aQ5 aGh 0 0 bU oX qG m_x gR pW qR nG oO qT qA H locs ls hp hP hD hS (lv_sub hl [1, 0] rfl)
  · have hp := hp.2 hc
    refine lv_iconst (v := 0) hx hb aNr.1 aCi ?_
    exact W.iret (v := 0) hx hb hr (fun t ht hW => ⟨⟨0, (bT, aG, 0, 0, aH5, aEf, aKT, aQ5, aGh, aJ, aB, bU, oX, qG, m_x, gR, pW, qR, nG, oO, qT, qA), rfl, hp, by rw [ht]; exact hP, va_K.moved hW.alike hK, hD⟩, hS.F ht⟩) hS.2.2 aNr.2.1
abbrev wd_X10_above (cI cC cZ cB cJ : ClassId) (a_m nY sJ eG iY lY jR jW jZ jO oQ bR aY jQ gY iJ mQ lJ jA bG mK jB mW mJ eJ dG : Nat) (bT aG jC bL bY : Int32) (jD : Nat) (mLn oF rP dQ aJ aB bW bZ aR aE bI aW bU fJ dO bM bQ bO jY oX : Int32) (gR oO : Nat -> Int32) : va_W := [(a_m, .inr (10, [.ref nY, .int bT, .ref sJ, .ref eG, .ref iY, .ref lY, .int aG, .ref jR, .ref jW, .ref jZ, .ref jO, .int jC, .ref oQ, .int bL, .int bY, rdv jO jQ jD, .int mLn, .int oF, .int rP, .int dQ, .ref bR, .ref aY, .int aJ, .int aB, .ref jQ, .int bW, .int bZ, .int aR, .int aE, .int bI, .int aW, .ref gY, .int bU, .ref iJ, .ref mQ, .int fJ, .ref lJ, .int dO, .ref jA, .ref bG, .int bM, .int bQ, .int bO, .ref mK, .ref jB, .ref mW, .int jY, .int oX, .ref mJ, .ref eJ, .ref dG])), (eG, .inl (cI, 16, .inl gR)), (jW, .inl (cI, 8, .inl oO))]
abbrev q_X10_above (dC : Nat -> ClassId) (dI : Nat -> Nat -> Nat) (cI cC cZ cB cJ : ClassId) (A : Nat -> Prop) (a_m nY sJ eG iY lY jR jW jZ jO oQ bR aY jQ gY iJ mQ lJ jA bG mK jB mW mJ eJ dG : Nat) (bT aG jC bL bY : Int32) (jD : Nat) (mLn oF rP dQ aJ aB bW bZ aR aE bI aW bU fJ dO bM bQ bO jY oX : Int32) (gR oO : Nat -> Int32) (post : Int32 -> Prop) : Array Value -> State -> Outcome -> State -> Prop := va_Qi (fun (r : Int32) (u : Unit) => post r) (fun u t => gB (dC, dI) (tyl cI cC cZ cB cJ) A (wd_X10_above cI cC cZ cB cJ a_m nY sJ eG iY lY jR jW jZ jO oQ bR aY jQ gY iJ mQ lJ jA bG mK jB mW mJ eJ dG bT aG jC bL bY jD mLn oF rP dQ aJ aB bW bZ aR aE bI aW bU fJ dO bM bQ bO jY oX gR oO) t) A
abbrev rm_X10_above : Room := { frames := 1, cells := 0, slots := 0, locals := 21 }
def wp_X10_above (post : Int32 -> Prop) (p0 p1 : Int32) (gR oO : Nat -> Int32) : Prop := vp_in p0 16 /\ (∀ v_1 : Int32, v_1 = gR p0.toNatClampNeg -> vp_in p1 8 /\ (∀ v_2 : Int32, v_2 = v_1 - (oO p1.toNatClampNeg) -> ∀ v_3 : Int32, v_3 = (if 0 < v_2 then v_2 else 0) -> post v_3))
set_option maxHeartbeats 4000000 in
set_option maxRecDepth 100000 in
theorem c_X10_above (l : Launch) (dC : Nat -> ClassId) (dI : Nat -> Nat -> Nat) (cI cC cZ cB cJ : ClassId) (a_m nY sJ eG iY lY jR jW jZ jO oQ bR aY jQ gY iJ mQ lJ jA bG mK jB mW mJ eJ dG sz : Nat) (p0 p1 bT aG jC bL bY : Int32) (jD : Nat) (mLn oF rP dQ aJ aB bW bZ aR aE bI aW bU fJ dO bM bQ bO jY oX : Int32) (gR oO : Nat -> Int32) (post : Int32 -> Prop) (hw : wp_X10_above post p0 p1 gR oO) : Met l yX10_above (gw yX10_above cX10_above 3 (some .int)) rm_X10_above (va_Pc [.ref a_m, .int p0, .int p1] (gPre (dC, dI) (tyl cI cC cZ cB cJ) (wd_X10_above cI cC cZ cB cJ a_m nY sJ eG iY lY jR jW jZ jO oQ bR aY jQ gY iJ mQ lJ jA bG mK jB mW mJ eJ dG bT aG jC bL bY jD mLn oF rP dQ aJ aB bW bZ aR aE bI aW bU fJ dO bM bQ bO jY oX gR oO) sz)) (q_X10_above dC dI cI cC cZ cB cJ (va_A (wd_X10_above cI cC cZ cB cJ a_m nY sJ eG iY lY jR jW jZ jO oQ bR aY jQ gY iJ mQ lJ jA bG mK jB mW mJ eJ dG bT aG jC bL bY jD mLn oF rP dQ aJ aB bW bZ aR aE bI aW bU fJ dO bM bQ bO jY oX gR oO) sz) a_m nY sJ eG iY lY jR jW jZ jO oQ bR aY jQ gY iJ mQ lJ jA bG mK jB mW mJ eJ dG bT aG jC bL bY jD mLn oF rP dQ aJ aB bW bZ aR aE bI aW bU fJ dO bM bQ bO jY oX gR oO post) 0 0 (va_A (wd_X10_above cI cC cZ cB cJ a_m nY sJ eG iY lY jR jW jZ jO oQ bR aY jQ gY iJ mQ lJ jA bG mK jB mW mJ eJ dG bT aG jC bL bY jD mLn oF rP dQ aJ aB bW bZ aR aE bI aW bU fJ dO bM bQ bO jY oX gR oO) sz) := by
  refine aBJ (own := zX) (dC, dI) (tyl cI cC cZ cB cJ) (wd_X10_above cI cC cZ cB cJ a_m nY sJ eG iY lY jR jW jZ jO oQ bR aY jQ gY iJ mQ lJ jA bG mK jB mW mJ eJ dG bT aG jC bL bY jD mLn oF rP dQ aJ aB bW bZ aR aE bI aW bU fJ dO bM bQ bO jY oX gR oO) sz [.ref a_m, .int p0, .int p1] (fun A => q_X10_above dC dI cI cC cZ cB cJ A a_m nY sJ eG iY lY jR jW jZ jO oQ bR aY jQ gY iJ mQ lJ jA bG mK jB mW mJ eJ dG bT aG jC bL bY jD mLn oF rP dQ aJ aB bW bZ aR aE bI aW bU fJ dO bM bQ bO jY oX gR oO post) aFY rfl (lbz rfl) ?_
  intro p e s m args below meth c A H locs ls C0 hP hD hS hl
  have hl : lv_has ls 3 [(0, .ref a_m), (1, .int p0), (2, .int p1)] := hl
  obtain ⟨hx, hb, hr, hml, hown, hts, hlocks, hA, hK, hN, tL, tM, hZL, hTL, hZM, hTM, hZX⟩ := id C0
  have hp := hw
  unfold wp_X10_above at hp
  refine lv_iconst (v := 0) hx hb eX10_above_0.1 aCi ?_
  refine lv_aload_n hx hb eX10_above_0.2.1 rfl (lv_at hl 0 rfl) ?_
  refine va_get (D := (dC, dI)) (ci := 10) (v := .ref eG) (C := zX) (T := aBe) (N := 51) hx hb hts aAt hown hK hP 0 rfl rfl 3 (lbz rfl) (hts _ q_689) (fun _ h9 => h9) rfl eX10_above_0.2.2.1 ?_
  refine lv_iload_n hx hb eX10_above_0.2.2.2.1 rfl (lv_at hl 1 rfl) ?_
  have hin := hp.1
  have hp := hp.2
  refine va_iald hx hb hK hP 1 0 rfl rfl hin eX10_above_0.2.2.2.2.1 ?_
  refine lv_topi (fun v_1 aFJ => ?_)
  have hp := hp v_1 aFJ
  refine lv_aload_n hx hb eX10_above_0.2.2.2.2.2.1 rfl (lv_at hl 0 rfl) ?_
  refine va_get (D := (dC, dI)) (ci := 10) (v := .ref jW) (C := zX) (T := aBe) (N := 51) hx hb hts aAt hown hK hP 0 rfl rfl 8 (lbz rfl) (hts _ q_687) (fun _ h9 => h9) rfl eX10_above_0.2.2.2.2.2.2.1 ?_
  refine lv_iload_n hx hb eX10_above_0.2.2.2.2.2.2.2.1 rfl (lv_at hl 2 rfl) ?_
  have hin := hp.1
  have hp := hp.2
  refine va_iald hx hb hK hP 2 0 rfl rfl hin eX10_above_0.2.2.2.2.2.2.2.2.1 ?_
  refine lv_isub hx hb eX10_above_0.2.2.2.2.2.2.2.2.2.1 ?_
  refine lv_topi (fun v_2 aGO => ?_)
  have hp := hp v_2 aGO
  refine va_mmax hx hb (by rw [hml]; exact hl.1.symm) hown (hts _ q_697) (hts _ q_134) (hts _ q_16) (hts _ q_135) (lbz rfl) (lbz rfl) (Nat.zero_le _) (Nat.zero_le _) eX10_above_0.2.2.2.2.2.2.2.2.2.2.1 ?_
  refine lv_topi (fun v_3 aGW => ?_)
  have hp := hp v_3 aGW
  exact W.iret (v := v_3) hx hb hr (fun t ht hW => ⟨⟨v_3, (), rfl, hp, by rw [ht]; exact hP, va_K.moved hW.alike hK, hD⟩, hS.F ht⟩) hS.2.2 eX10_above_0.2.2.2.2.2.2.2.2.2.2.2
abbrev wd_X10_far (cI cC cZ cB cJ : ClassId) (a_m nY sJ eG iY lY jR jW jZ jO oQ bR aY jQ gY iJ mQ lJ jA bG mK jB mW mJ eJ dG : Nat) (bT aG jC bL bY : Int32) (jD : Nat) (mLn oF rP dQ aJ aB bW bZ aR aE bI aW bU fJ dO bM bQ bO jY oX : Int32) (m_x nG : Nat -> Int32) : va_W := [(a_m, .inr (10, [.ref nY, .int bT, .ref sJ, .ref eG, .ref iY, .ref lY, .int aG, .ref jR, .ref jW, .ref jZ, .ref jO, .int jC, .ref oQ, .int bL, .int bY, rdv jO jQ jD, .int mLn, .int oF, .int rP, .int dQ, .ref bR, .ref aY, .int aJ, .int aB, .ref jQ, .int bW, .int bZ, .int aR, .int aE, .int bI, .int aW, .ref gY, .int bU, .ref iJ, .ref mQ, .int fJ, .ref lJ, .int dO, .ref jA, .ref bG, .int bM, .int bQ, .int bO, .ref mK, .ref jB, .ref mW, .int jY, .int oX, .ref mJ, .ref eJ, .ref dG])), (sJ, .inl (cI, 16, .inl m_x)), (jR, .inl (cI, 8, .inl nG))]
abbrev q_X10_far (dC : Nat -> ClassId) (dI : Nat -> Nat -> Nat) (cI cC cZ cB cJ : ClassId) (A : Nat -> Prop) (a_m nY sJ eG iY lY jR jW jZ jO oQ bR aY jQ gY iJ mQ lJ jA bG mK jB mW mJ eJ dG : Nat) (bT aG jC bL bY : Int32) (jD : Nat) (mLn oF rP dQ aJ aB bW bZ aR aE bI aW bU fJ dO bM bQ bO jY oX : Int32) (m_x nG : Nat -> Int32) (post : Int32 -> Prop) : Array Value -> State -> Outcome -> State -> Prop := va_Qi (fun (r : Int32) (u : Unit) => post r) (fun u t => gB (dC, dI) (tyl cI cC cZ cB cJ) A (wd_X10_far cI cC cZ cB cJ a_m nY sJ eG iY lY jR jW jZ jO oQ bR aY jQ gY iJ mQ lJ jA bG mK jB mW mJ eJ dG bT aG jC bL bY jD mLn oF rP dQ aJ aB bW bZ aR aE bI aW bU fJ dO bM bQ bO jY oX m_x nG) t) A
abbrev rm_X10_far : Room := { frames := 1, cells := 0, slots := 0, locals := 21 }
def wp_X10_far (post : Int32 -> Prop) (p0 p1 : Int32) (m_x nG : Nat -> Int32) : Prop := vp_in p0 16 /\ (∀ v_1 : Int32, v_1 = m_x p0.toNatClampNeg -> vp_in p1 8 /\ (∀ v_2 : Int32, v_2 = v_1 - (nG p1.toNatClampNeg) -> ∀ v_3 : Int32, v_3 = (if 0 <= v_2 then v_2 else 0 - v_2) -> post v_3))
set_option maxHeartbeats 4000000 in
set_option maxRecDepth 100000 in
theorem c_X10_far (l : Launch) (dC : Nat -> ClassId) (dI : Nat -> Nat -> Nat) (cI cC cZ cB cJ : ClassId) (a_m nY sJ eG iY lY jR jW jZ jO oQ bR aY jQ gY iJ mQ lJ jA bG mK jB mW mJ eJ dG sz : Nat) (p0 p1 bT aG jC bL bY : Int32) (jD : Nat) (mLn oF rP dQ aJ aB bW bZ aR aE bI aW bU fJ dO bM bQ bO jY oX : Int32) (m_x nG : Nat -> Int32) (post : Int32 -> Prop) (hw : wp_X10_far post p0 p1 m_x nG) : Met l yX10_far (gw yX10_far cX10_far 3 (some .int)) rm_X10_far (va_Pc [.ref a_m, .int p0, .int p1] (gPre (dC, dI) (tyl cI cC cZ cB cJ) (wd_X10_far cI cC cZ cB cJ a_m nY sJ eG iY lY jR jW jZ jO oQ bR aY jQ gY iJ mQ lJ jA bG mK jB mW mJ eJ dG bT aG jC bL bY jD mLn oF rP dQ aJ aB bW bZ aR aE bI aW bU fJ dO bM bQ bO jY oX m_x nG) sz)) (q_X10_far dC dI cI cC cZ cB cJ (va_A (wd_X10_far cI cC cZ cB cJ a_m nY sJ eG iY lY jR jW jZ jO oQ bR aY jQ gY iJ mQ lJ jA bG mK jB mW mJ eJ dG bT aG jC bL bY jD mLn oF rP dQ aJ aB bW bZ aR aE bI aW bU fJ dO bM bQ bO jY oX m_x nG) sz) a_m nY sJ eG iY lY jR jW jZ jO oQ bR aY jQ gY iJ mQ lJ jA bG mK jB mW mJ eJ dG bT aG jC bL bY jD mLn oF rP dQ aJ aB bW bZ aR aE bI aW bU fJ dO bM bQ bO jY oX m_x nG post) 0 0 (va_A (wd_X10_far cI cC cZ cB cJ a_m nY sJ eG iY lY jR jW jZ jO oQ bR aY jQ gY iJ mQ lJ jA bG mK jB mW mJ eJ dG bT aG jC bL bY jD mLn oF rP dQ aJ aB bW bZ aR aE bI aW bU fJ dO bM bQ bO jY oX m_x nG) sz) := by
  refine aBJ (own := zX) (dC, dI) (tyl cI cC cZ cB cJ) (wd_X10_far cI cC cZ cB cJ a_m nY sJ eG iY lY jR jW jZ jO oQ bR aY jQ gY iJ mQ lJ jA bG mK jB mW mJ eJ dG bT aG jC bL bY jD mLn oF rP dQ aJ aB bW bZ aR aE bI aW bU fJ dO bM bQ bO jY oX m_x nG) sz [.ref a_m, .int p0, .int p1] (fun A => q_X10_far dC dI cI cC cZ cB cJ A a_m nY sJ eG iY lY jR jW jZ jO oQ bR aY jQ gY iJ mQ lJ jA bG mK jB mW mJ eJ dG bT aG jC bL bY jD mLn oF rP dQ aJ aB bW bZ aR aE bI aW bU fJ dO bM bQ bO jY oX m_x nG post) aFY rfl (lbz rfl) ?_
  intro p e s m args below meth c A H locs ls C0 hP hD hS hl
  have hl : lv_has ls 3 [(0, .ref a_m), (1, .int p0), (2, .int p1)] := hl
  obtain ⟨hx, hb, hr, hml, hown, hts, hlocks, hA, hK, hN, tL, tM, hZL, hTL, hZM, hTM, hZX⟩ := id C0
  have hp := hw
  unfold wp_X10_far at hp
  refine lv_aload_n hx hb eX10_far_0.1 rfl (lv_at hl 0 rfl) ?_
  refine va_get (D := (dC, dI)) (ci := 10) (v := .ref sJ) (C := zX) (T := aBe) (N := 51) hx hb hts aAt hown hK hP 0 rfl rfl 2 (lbz rfl) (hts _ q_688) (fun _ h9 => h9) rfl eX10_far_0.2.1 ?_
  refine lv_iload_n hx hb eX10_far_0.2.2.1 rfl (lv_at hl 1 rfl) ?_
  have hin := hp.1
  have hp := hp.2
  refine va_iald hx hb hK hP 1 0 rfl rfl hin eX10_far_0.2.2.2.1 ?_
  refine lv_topi (fun v_1 aFJ => ?_)
  have hp := hp v_1 aFJ
  refine lv_aload_n hx hb eX10_far_0.2.2.2.2.1 rfl (lv_at hl 0 rfl) ?_
  refine va_get (D := (dC, dI)) (ci := 10) (v := .ref jR) (C := zX) (T := aBe) (N := 51) hx hb hts aAt hown hK hP 0 rfl rfl 7 (lbz rfl) (hts _ q_686) (fun _ h9 => h9) rfl eX10_far_0.2.2.2.2.2.1 ?_
  refine lv_iload_n hx hb eX10_far_0.2.2.2.2.2.2.1 rfl (lv_at hl 2 rfl) ?_
  have hin := hp.1
  have hp := hp.2
  refine va_iald hx hb hK hP 2 0 rfl rfl hin eX10_far_0.2.2.2.2.2.2.2.1 ?_
  refine lv_isub hx hb eX10_far_0.2.2.2.2.2.2.2.2.1 ?_
  refine lv_topi (fun v_2 aGO => ?_)
  have hp := hp v_2 aGO
  refine va_mabs hx hb (by rw [hml]; exact hl.1.symm) hown (hts _ q_698) (hts _ q_166) (hts _ q_16) (hts _ q_167) (lbz rfl) (lbz rfl) (Nat.zero_le _) (Nat.zero_le _) eX10_far_0.2.2.2.2.2.2.2.2.2.1 ?_
  refine lv_topi (fun v_3 aGW => ?_)
  have hp := hp v_3 aGW
  exact W.iret (v := v_3) hx hb hr (fun t ht hW => ⟨⟨v_3, (), rfl, hp, by rw [ht]; exact hP, va_K.moved hW.alike hK, hD⟩, hS.F ht⟩) hS.2.2 eX10_far_0.2.2.2.2.2.2.2.2.2.2
abbrev wd_X10_valueOf (cI cC cZ cB cJ : ClassId) (a_m nY sJ eG iY lY jR jW jZ jO oQ bR aY jQ gY iJ mQ lJ jA bG mK jB mW mJ eJ dG : Nat) (bT aG jC bL bY : Int32) (jD : Nat) (mLn oF rP dQ aJ aB bW bZ aR aE bI aW bU fJ dO bM bQ bO jY oX : Int32) (m_x gR pW nG oO : Nat -> Int32) : va_W := [(a_m, .inr (10, [.ref nY, .int bT, .ref sJ, .ref eG, .ref iY, .ref lY, .int aG, .ref jR, .ref jW, .ref jZ, .ref jO, .int jC, .ref oQ, .int bL, .int bY, rdv jO jQ jD, .int mLn, .int oF, .int rP, .int dQ, .ref bR, .ref aY, .int aJ, .int aB, .ref jQ, .int bW, .int bZ, .int aR, .int aE, .int bI, .int aW, .ref gY, .int bU, .ref iJ, .ref mQ, .int fJ, .ref lJ, .int dO, .ref jA, .ref bG, .int bM, .int bQ, .int bO, .ref mK, .ref jB, .ref mW, .int jY, .int oX, .ref mJ, .ref eJ, .ref dG])), (sJ, .inl (cI, 16, .inl m_x)), (eG, .inl (cI, 16, .inl gR)), (iY, .inl (cI, 16, .inl pW)), (jR, .inl (cI, 8, .inl nG)), (jW, .inl (cI, 8, .inl oO))]
abbrev q_X10_valueOf (dC : Nat -> ClassId) (dI : Nat -> Nat -> Nat) (cI cC cZ cB cJ : ClassId) (A : Nat -> Prop) (a_m nY sJ eG iY lY jR jW jZ jO oQ bR aY jQ gY iJ mQ lJ jA bG mK jB mW mJ eJ dG : Nat) (bT aG jC bL bY : Int32) (jD : Nat) (mLn oF rP dQ aJ aB bW bZ aR aE bI aW bU fJ dO bM bQ bO jY oX : Int32) (m_x gR pW nG oO : Nat -> Int32) (post : Int32 -> Prop) : Array Value -> State -> Outcome -> State -> Prop := va_Qi (fun (r : Int32) (u : Unit) => post r) (fun u t => gB (dC, dI) (tyl cI cC cZ cB cJ) A (wd_X10_valueOf cI cC cZ cB cJ a_m nY sJ eG iY lY jR jW jZ jO oQ bR aY jQ gY iJ mQ lJ jA bG mK jB mW mJ eJ dG bT aG jC bL bY jD mLn oF rP dQ aJ aB bW bZ aR aE bI aW bU fJ dO bM bQ bO jY oX m_x gR pW nG oO) t) A
abbrev rm_X10_valueOf : Room := { frames := 2, cells := 0, slots := 0, locals := 43 }
def wp_X10_valueOf (post : Int32 -> Prop) (p0 aR aE bI aW : Int32) (m_x gR pW nG oO : Nat -> Int32) : Prop := (p0 = 100 -> wp_X10_far (fun r_1 => post r_1) aR aE m_x nG) /\ (p0 = 107 -> post aW) /\ (p0 = 115 -> post aE) /\ (p0 = 117 -> wp_X10_above (fun r_2 => post r_2) aR aE gR oO) /\ (p0 = 119 -> vp_in aR 16 /\ (post (pW aR.toNatClampNeg))) /\ (p0 = 121 -> vp_in aR 16 /\ (post (gR aR.toNatClampNeg))) /\ (¬ p0 = 100 -> ¬ p0 = 107 -> ¬ p0 = 115 -> ¬ p0 = 117 -> ¬ p0 = 119 -> ¬ p0 = 121 -> post bI)
set_option maxHeartbeats 4000000 in
set_option maxRecDepth 100000 in
theorem c_X10_valueOf (l : Launch) (dC : Nat -> ClassId) (dI : Nat -> Nat -> Nat) (cI cC cZ cB cJ : ClassId) (a_m nY sJ eG iY lY jR jW jZ jO oQ bR aY jQ gY iJ mQ lJ jA bG mK jB mW mJ eJ dG sz : Nat) (p0 bT aG jC bL bY : Int32) (jD : Nat) (mLn oF rP dQ aJ aB bW bZ aR aE bI aW bU fJ dO bM bQ bO jY oX : Int32) (m_x gR pW nG oO : Nat -> Int32) (post : Int32 -> Prop) (hw : wp_X10_valueOf post p0 aR aE bI aW m_x gR pW nG oO) : Met l yX10_valueOf (gw yX10_valueOf aFv 2 (some .int)) rm_X10_valueOf (va_Pc [.ref a_m, .int p0] (gPre (dC, dI) (tyl cI cC cZ cB cJ) (wd_X10_valueOf cI cC cZ cB cJ a_m nY sJ eG iY lY jR jW jZ jO oQ bR aY jQ gY iJ mQ lJ jA bG mK jB mW mJ eJ dG bT aG jC bL bY jD mLn oF rP dQ aJ aB bW bZ aR aE bI aW bU fJ dO bM bQ bO jY oX m_x gR pW nG oO) sz)) (q_X10_valueOf dC dI cI cC cZ cB cJ (va_A (wd_X10_valueOf cI cC cZ cB cJ a_m nY sJ eG iY lY jR jW jZ jO oQ bR aY jQ gY iJ mQ lJ jA bG mK jB mW mJ eJ dG bT aG jC bL bY jD mLn oF rP dQ aJ aB bW bZ aR aE bI aW bU fJ dO bM bQ bO jY oX m_x gR pW nG oO) sz) a_m nY sJ eG iY lY jR jW jZ jO oQ bR aY jQ gY iJ mQ lJ jA bG mK jB mW mJ eJ dG bT aG jC bL bY jD mLn oF rP dQ aJ aB bW bZ aR aE bI aW bU fJ dO bM bQ bO jY oX m_x gR pW nG oO post) 0 0 (va_A (wd_X10_valueOf cI cC cZ cB cJ a_m nY sJ eG iY lY jR jW jZ jO oQ bR aY jQ gY iJ mQ lJ jA bG mK jB mW mJ eJ dG bT aG jC bL bY jD mLn oF rP dQ aJ aB bW bZ aR aE bI aW bU fJ dO bM bQ bO jY oX m_x gR pW nG oO) sz) := by
  refine aBJ (own := zX) (dC, dI) (tyl cI cC cZ cB cJ) (wd_X10_valueOf cI cC cZ cB cJ a_m nY sJ eG iY lY jR jW jZ jO oQ bR aY jQ gY iJ mQ lJ jA bG mK jB mW mJ eJ dG bT aG jC bL bY jD mLn oF rP dQ aJ aB bW bZ aR aE bI aW bU fJ dO bM bQ bO jY oX m_x gR pW nG oO) sz [.ref a_m, .int p0] (fun A => q_X10_valueOf dC dI cI cC cZ cB cJ A a_m nY sJ eG iY lY jR jW jZ jO oQ bR aY jQ gY iJ mQ lJ jA bG mK jB mW mJ eJ dG bT aG jC bL bY jD mLn oF rP dQ aJ aB bW bZ aR aE bI aW bU fJ dO bM bQ bO jY oX m_x gR pW nG oO post) aFY rfl (lbz rfl) ?_
  intro p e s m args below meth c A H locs ls C0 hP hD hS hl
  have hl : lv_has ls 2 [(0, .ref a_m), (1, .int p0)] := hl
  obtain ⟨hx, hb, hr, hml, hown, hts, hlocks, hA, hK, hN, tL, tM, hZL, hTL, hZM, hTM, hZX⟩ := id C0
  have hp := hw
  unfold wp_X10_valueOf at hp
  refine lv_iload_n hx hb aJe.1 rfl (lv_at hl 1 rfl) ?_
  by_cases hc0 : p0 = 100
  · have hp := hp.1 hc0
    refine lv_lookup (tgt := 60) hx hb aJe.2.1 (by decide) (by first | (rw [hc0]; done) | (rw [hc0]; rfl)) (by decide) ?_
    refine lv_aload_n hx hb aJe.2.2.1 rfl (lv_at hl 0 rfl) ?_
    refine lv_aload_n hx hb aJe.2.2.2.1 rfl (lv_at hl 0 rfl) ?_
    refine va_get (D := (dC, dI)) (ci := 10) (v := .int aR) (C := zX) (T := aBe) (N := 51) hx hb hts aAt hown hK hP 0 rfl rfl 27 (lbz rfl) (hts _ q_699) (fun _ h9 => h9) rfl aJe.2.2.2.2.1 ?_
    refine lv_aload_n hx hb aJe.2.2.2.2.2.1 rfl (lv_at hl 0 rfl) ?_
    refine va_get (D := (dC, dI)) (ci := 10) (v := .int aE) (C := zX) (T := aBe) (N := 51) hx hb hts aAt hown hK hP 0 rfl rfl 28 (lbz rfl) (hts _ q_700) (fun _ h9 => h9) rfl aJe.2.2.2.2.2.2.1 ?_
    have hm := mgk (wc := (wd_X10_far cI cC cZ cB cJ a_m nY sJ eG iY lY jR jW jZ jO oQ bR aY jQ gY iJ mQ lJ jA bG mK jB mW mJ eJ dG bT aG jC bL bY jD mLn oF rP dQ aJ aB bW bZ aR aE bI aW bU fJ dO bM bQ bO jY oX m_x nG)) hP mk_203 6 rfl rfl rfl
    refine yW hP hD hS hA (yS mk_203) (aAi mk_203) hm.1 hm.2 (aAk _) (zW _) (zF (As := [.int aR, .int aE]) (rest := []) C0 hP hD hS (yS mk_203) hm.1 (aAl _) 0 10 rfl rfl (c_X10_far l dC dI cI cC cZ cB cJ a_m nY sJ eG iY lY jR jW jZ jO oQ bR aY jQ gY iJ mQ lJ jA bG mK jB mW mJ eJ dG H.size aR aE bT aG jC bL bY jD mLn oF rP dQ aJ aB bW bZ aR aE bI aW bU fJ dO bM bQ bO jY oX m_x nG _ hp) q_701 q_704 q_702 q_703 aBL h_X10_far rfl rfl ⟨lbz rfl, lbz rfl⟩ rfl rfl hl.1 rfl (lv_room (lbz rfl)) aJe.2.2.2.2.2.2.2.1 ⟨Nat.zero_le _, Nat.zero_le _⟩) (fun r_1 u H locs hp hP hD hS => ?_)
    have hPD := PDm (ws' := (wd_X10_valueOf cI cC cZ cB cJ a_m nY sJ eG iY lY jR jW jZ jO oQ bR aY jQ gY iJ mQ lJ jA bG mK jB mW mJ eJ dG bT aG jC bL bY jD mLn oF rP dQ aJ aB bW bZ aR aE bI aW bU fJ dO bM bQ bO jY oX m_x gR pW nG oO)) hP hD 6 rfl rfl rfl
    have hP := hPD.1
    have hD := hPD.2
    exact W.iret (v := r_1) hx hb hr (fun t ht hW => ⟨⟨r_1, (), rfl, hp, by rw [ht]; exact hP, va_K.moved hW.alike hK, hD⟩, hS.F ht⟩) hS.2.2 aJe.2.2.2.2.2.2.2.2.1
  by_cases hc1 : p0 = 107
  · have hp := hp.2.1 hc1
    refine lv_lookup (tgt := 111) hx hb aJe.2.1 (by decide) (by first | (rw [hc1]; done) | (rw [hc1]; rfl)) (by decide) ?_
    refine lv_aload_n hx hb aN7.2.2.2.2.2.2.2.2.2.2.2.2.2.2.2 rfl (lv_at hl 0 rfl) ?_
    refine va_get (D := (dC, dI)) (ci := 10) (v := .int aW) (C := zX) (T := aBe) (N := 51) hx hb hts aAt hown hK hP 0 rfl rfl 30 (lbz rfl) (hts _ q_705) (fun _ h9 => h9) rfl eX10_valueOf_112.1 ?_
    exact W.iret (v := aW) hx hb hr (fun t ht hW => ⟨⟨aW, (), rfl, hp, by rw [ht]; exact hP, va_K.moved hW.alike hK, hD⟩, hS.F ht⟩) hS.2.2 eX10_valueOf_112.2.1
  by_cases hc2 : p0 = 115
  · have hp := hp.2.2.1 hc2
    refine lv_lookup (tgt := 106) hx hb aJe.2.1 (by decide) (by first | (rw [hc2]; done) | (rw [hc2]; rfl)) (by decide) ?_
    refine lv_aload_n hx hb aN7.2.2.2.2.2.2.2.2.2.2.2.2.1 rfl (lv_at hl 0 rfl) ?_
    refine va_get (D := (dC, dI)) (ci := 10) (v := .int aE) (C := zX) (T := aBe) (N := 51) hx hb hts aAt hown hK hP 0 rfl rfl 28 (lbz rfl) (hts _ q_700) (fun _ h9 => h9) rfl aN7.2.2.2.2.2.2.2.2.2.2.2.2.2.1 ?_
    exact W.iret (v := aE) hx hb hr (fun t ht hW => ⟨⟨aE, (), rfl, hp, by rw [ht]; exact hP, va_K.moved hW.alike hK, hD⟩, hS.F ht⟩) hS.2.2 aN7.2.2.2.2.2.2.2.2.2.2.2.2.2.2.1
  by_cases hc3 : p0 = 117
  · have hp := hp.2.2.2.1 hc3
    refine lv_lookup (tgt := 73) hx hb aJe.2.1 (by decide) (by first | (rw [hc3]; done) | (rw [hc3]; rfl)) (by decide) ?_
    refine lv_aload_n hx hb aJe.2.2.2.2.2.2.2.2.2.1 rfl (lv_at hl 0 rfl) ?_
    refine lv_aload_n hx hb aJe.2.2.2.2.2.2.2.2.2.2.1 rfl (lv_at hl 0 rfl) ?_
    refine va_get (D := (dC, dI)) (ci := 10) (v := .int aR) (C := zX) (T := aBe) (N := 51) hx hb hts aAt hown hK hP 0 rfl rfl 27 (lbz rfl) (hts _ q_699) (fun _ h9 => h9) rfl aJe.2.2.2.2.2.2.2.2.2.2.2.1 ?_
    refine lv_aload_n hx hb aJe.2.2.2.2.2.2.2.2.2.2.2.2.1 rfl (lv_at hl 0 rfl) ?_
    refine va_get (D := (dC, dI)) (ci := 10) (v := .int aE) (C := zX) (T := aBe) (N := 51) hx hb hts aAt hown hK hP 0 rfl rfl 28 (lbz rfl) (hts _ q_700) (fun _ h9 => h9) rfl aJe.2.2.2.2.2.2.2.2.2.2.2.2.2.1 ?_
    have hm := mgk (wc := (wd_X10_above cI cC cZ cB cJ a_m nY sJ eG iY lY jR jW jZ jO oQ bR aY jQ gY iJ mQ lJ jA bG mK jB mW mJ eJ dG bT aG jC bL bY jD mLn oF rP dQ aJ aB bW bZ aR aE bI aW bU fJ dO bM bQ bO jY oX gR oO)) hP mk_204 6 rfl rfl rfl
    refine yW hP hD hS hA (yS mk_204) (aAi mk_204) hm.1 hm.2 (aAk _) (zW _) (zF (As := [.int aR, .int aE]) (rest := []) C0 hP hD hS (yS mk_204) hm.1 (aAl _) 0 10 rfl rfl (c_X10_above l dC dI cI cC cZ cB cJ a_m nY sJ eG iY lY jR jW jZ jO oQ bR aY jQ gY iJ mQ lJ jA bG mK jB mW mJ eJ dG H.size aR aE bT aG jC bL bY jD mLn oF rP dQ aJ aB bW bZ aR aE bI aW bU fJ dO bM bQ bO jY oX gR oO _ hp) q_706 q_709 q_707 q_708 aBL h_X10_above rfl rfl ⟨lbz rfl, lbz rfl⟩ rfl rfl hl.1 rfl (lv_room (lbz rfl)) aJe.2.2.2.2.2.2.2.2.2.2.2.2.2.2.1 ⟨Nat.zero_le _, Nat.zero_le _⟩) (fun r_2 u H locs hp hP hD hS => ?_)
    have hPD := PDm (ws' := (wd_X10_valueOf cI cC cZ cB cJ a_m nY sJ eG iY lY jR jW jZ jO oQ bR aY jQ gY iJ mQ lJ jA bG mK jB mW mJ eJ dG bT aG jC bL bY jD mLn oF rP dQ aJ aB bW bZ aR aE bI aW bU fJ dO bM bQ bO jY oX m_x gR pW nG oO)) hP hD 6 rfl rfl rfl
    have hP := hPD.1
    have hD := hPD.2
    exact W.iret (v := r_2) hx hb hr (fun t ht hW => ⟨⟨r_2, (), rfl, hp, by rw [ht]; exact hP, va_K.moved hW.alike hK, hD⟩, hS.F ht⟩) hS.2.2 aJe.2.2.2.2.2.2.2.2.2.2.2.2.2.2.2
  by_cases hc4 : p0 = 119
  · have hp := hp.2.2.2.2.1 hc4
    refine lv_lookup (tgt := 96) hx hb aJe.2.1 (by decide) (by first | (rw [hc4]; done) | (rw [hc4]; rfl)) (by decide) ?_
    refine lv_aload_n hx hb aN7.2.2.2.2.2.2.1 rfl (lv_at hl 0 rfl) ?_
    refine va_get (D := (dC, dI)) (ci := 10) (v := .ref iY) (C := zX) (T := aBe) (N := 51) hx hb hts aAt hown hK hP 0 rfl rfl 4 (lbz rfl) (hts _ q_690) (fun _ h9 => h9) rfl aN7.2.2.2.2.2.2.2.1 ?_
    refine lv_aload_n hx hb aN7.2.2.2.2.2.2.2.2.1 rfl (lv_at hl 0 rfl) ?_
    refine va_get (D := (dC, dI)) (ci := 10) (v := .int aR) (C := zX) (T := aBe) (N := 51) hx hb hts aAt hown hK hP 0 rfl rfl 27 (lbz rfl) (hts _ q_699) (fun _ h9 => h9) rfl aN7.2.2.2.2.2.2.2.2.2.1 ?_
    have hin := hp.1
    have hp := hp.2
    refine va_iald hx hb hK hP 3 0 rfl rfl hin aN7.2.2.2.2.2.2.2.2.2.2.1 ?_
    exact W.iret (v := pW aR.toNatClampNeg) hx hb hr (fun t ht hW => ⟨⟨pW aR.toNatClampNeg, (), rfl, hp, by rw [ht]; exact hP, va_K.moved hW.alike hK, hD⟩, hS.F ht⟩) hS.2.2 aN7.2.2.2.2.2.2.2.2.2.2.2.1
  by_cases hc5 : p0 = 121
  · have hp := hp.2.2.2.2.2.1 hc5
    refine lv_lookup (tgt := 86) hx hb aJe.2.1 (by decide) (by first | (rw [hc5]; done) | (rw [hc5]; rfl)) (by decide) ?_
    refine lv_aload_n hx hb aN7.1 rfl (lv_at hl 0 rfl) ?_
    refine va_get (D := (dC, dI)) (ci := 10) (v := .ref eG) (C := zX) (T := aBe) (N := 51) hx hb hts aAt hown hK hP 0 rfl rfl 3 (lbz rfl) (hts _ q_689) (fun _ h9 => h9) rfl aN7.2.1 ?_
    refine lv_aload_n hx hb aN7.2.2.1 rfl (lv_at hl 0 rfl) ?_
    refine va_get (D := (dC, dI)) (ci := 10) (v := .int aR) (C := zX) (T := aBe) (N := 51) hx hb hts aAt hown hK hP 0 rfl rfl 27 (lbz rfl) (hts _ q_699) (fun _ h9 => h9) rfl aN7.2.2.2.1 ?_
    have hin := hp.1
    have hp := hp.2
    refine va_iald hx hb hK hP 2 0 rfl rfl hin aN7.2.2.2.2.1 ?_
    exact W.iret (v := gR aR.toNatClampNeg) hx hb hr (fun t ht hW => ⟨⟨gR aR.toNatClampNeg, (), rfl, hp, by rw [ht]; exact hP, va_K.moved hW.alike hK, hD⟩, hS.F ht⟩) hS.2.2 aN7.2.2.2.2.2.1
  have hp := hp.2.2.2.2.2.2 hc0 hc1 hc2 hc3 hc4 hc5
  have key : W p l e rm_X10_valueOf s m args below meth c H locs 0 0 (MQ below (q_X10_valueOf dC dI cI cC cZ cB cJ A a_m nY sJ eG iY lY jR jW jZ jO oQ bR aY jQ gY iJ mQ lJ jA bG mK jB mW mJ eJ dG bT aG jC bL bY jD mLn oF rP dQ aJ aB bW bZ aR aE bI aW bU fJ dO bM bQ bO jY oX m_x gR pW nG oO post) args s 0 0 A) (F0 m 116 ls []) := by
    refine lv_aload_n hx hb eX10_valueOf_112.2.2.1 rfl (lv_at hl 0 rfl) ?_
    refine va_get (D := (dC, dI)) (ci := 10) (v := .int bI) (C := zX) (T := aBe) (N := 51) hx hb hts aAt hown hK hP 0 rfl rfl 29 (lbz rfl) (hts _ q_710) (fun _ h9 => h9) rfl eX10_valueOf_112.2.2.2.1 ?_
    exact W.iret (v := bI) hx hb hr (fun t ht hW => ⟨⟨bI, (), rfl, hp, by rw [ht]; exact hP, va_K.moved hW.alike hK, hD⟩, hS.F ht⟩) hS.2.2 eX10_valueOf_112.2.2.2.2
  exact lv_lookup (tgt := 116) (off := 115) hx hb aJe.2.1 (by decide) (by show Op.lookupswitch.offset [(100, 59), (107, 110), (115, 105), (117, 72), (119, 95), (121, 85)] _ _ = _; first | (rw [lv_osw (a := 100) hc0 rfl, lv_osw (a := 107) hc1 rfl, lv_osw (a := 115) hc2 rfl, lv_osw (a := 117) hc3 rfl, lv_osw (a := 119) hc4 rfl, lv_osw (a := 121) hc5 rfl]; done) | (rw [lv_osw (a := 100) hc0 rfl, lv_osw (a := 107) hc1 rfl, lv_osw (a := 115) hc2 rfl, lv_osw (a := 117) hc3 rfl, lv_osw (a := 119) hc4 rfl, lv_osw (a := 121) hc5 rfl]; rfl)) (by decide) key
abbrev aHG (cI cC cZ cB cJ : ClassId) (a_m nY sJ eG iY lY jR jW jZ jO oQ bR aY jQ gY iJ mQ lJ jA bG mK jB mW mJ eJ dG : Nat) (bT aG jC bL bY : Int32) (jD : Nat) (mLn oF rP dQ aJ aB bW bZ aR aE bI aW bU fJ dO bM bQ bO jY oX : Int32) (m_x gR pW nG oO qO qQ : Nat -> Int32) : va_W := [(a_m, .inr (10, [.ref nY, .int bT, .ref sJ, .ref eG, .ref iY, .ref lY, .int aG, .ref jR, .ref jW, .ref jZ, .ref jO, .int jC, .ref oQ, .int bL, .int bY, rdv jO jQ jD, .int mLn, .int oF, .int rP, .int dQ, .ref bR, .ref aY, .int aJ, .int aB, .ref jQ, .int bW, .int bZ, .int aR, .int aE, .int bI, .int aW, .ref gY, .int bU, .ref iJ, .ref mQ, .int fJ, .ref lJ, .int dO, .ref jA, .ref bG, .int bM, .int bQ, .int bO, .ref mK, .ref jB, .ref mW, .int jY, .int oX, .ref mJ, .ref eJ, .ref dG])), (sJ, .inl (cI, 16, .inl m_x)), (eG, .inl (cI, 16, .inl gR)), (iY, .inl (cI, 16, .inl pW)), (jR, .inl (cI, 8, .inl nG)), (jW, .inl (cI, 8, .inl oO)), (jO, .inl (cB, 80, .inl qO)), (jQ, .inl (cB, 40, .inl qQ))]
abbrev q_X10_thing (dC : Nat -> ClassId) (dI : Nat -> Nat -> Nat) (cI cC cZ cB cJ : ClassId) (A : Nat -> Prop) (a_m nY sJ eG iY lY jR jW jZ jO oQ bR aY jQ gY iJ mQ lJ jA bG mK jB mW mJ eJ dG : Nat) (bT aG jC bL bY : Int32) (jD : Nat) (mLn oF aJ aB bW bZ aR aE bI aW bU fJ dO bM bQ bO jY oX : Int32) (m_x gR pW nG oO qO qQ : Nat -> Int32) (post : Int32 -> Int32 -> Int32 -> Prop) : Array Value -> State -> Outcome -> State -> Prop := va_Qi (fun (r : Int32) (u : Int32 × Int32) => post r u.1 u.2) (fun u t => gB (dC, dI) (tyl cI cC cZ cB cJ) A (aHG cI cC cZ cB cJ a_m nY sJ eG iY lY jR jW jZ jO oQ bR aY jQ gY iJ mQ lJ jA bG mK jB mW mJ eJ dG bT aG jC bL bY jD mLn oF u.1 u.2 aJ aB bW bZ aR aE bI aW bU fJ dO bM bQ bO jY oX m_x gR pW nG oO qO qQ) t) A
abbrev rm_X10_thing (rn : Nat) : Room := { frames := 6 * rn + 3, cells := 0, slots := 0, locals := 200 * rn + 64 }
abbrev aOw : Type := (Int32 -> Int32 -> Int32 -> Prop) -> Int32 -> Nat -> Int32 -> Int32 -> Int32 -> Int32 -> Int32 -> Int32 -> Int32 -> Int32 -> Int32 -> (Nat -> Int32) -> (Nat -> Int32) -> (Nat -> Int32) -> (Nat -> Int32) -> (Nat -> Int32) -> (Nat -> Int32) -> (Nat -> Int32) -> Prop
def aR8 (l : Launch) (W : aOw) (fr lo : Nat) : Prop := ∀ (dC : Nat -> ClassId) (dI : Nat -> Nat -> Nat) (cI cC cZ cB cJ : ClassId) (a_m nY sJ eG iY lY jR jW jZ jO oQ bR aY jQ gY iJ mQ lJ jA bG mK jB mW mJ eJ dG sz : Nat) (p0 bT aG jC bL bY : Int32) (jD : Nat) (mLn oF rP dQ aJ aB bW bZ aR aE bI aW bU fJ dO bM bQ bO jY oX : Int32) (m_x gR pW nG oO qO qQ : Nat -> Int32) (post : Int32 -> Int32 -> Int32 -> Prop), W post p0 jD mLn oF rP dQ bZ aR aE bI aW m_x gR pW nG oO qO qQ -> Met l yX10_thing (gw yX10_thing aCV 4 (some .int)) { frames := fr, cells := 0, slots := 0, locals := lo } (va_Pc [.ref a_m, .int p0] (gPre (dC, dI) (tyl cI cC cZ cB cJ) (aHG cI cC cZ cB cJ a_m nY sJ eG iY lY jR jW jZ jO oQ bR aY jQ gY iJ mQ lJ jA bG mK jB mW mJ eJ dG bT aG jC bL bY jD mLn oF rP dQ aJ aB bW bZ aR aE bI aW bU fJ dO bM bQ bO jY oX m_x gR pW nG oO qO qQ) sz)) (q_X10_thing dC dI cI cC cZ cB cJ (va_A (aHG cI cC cZ cB cJ a_m nY sJ eG iY lY jR jW jZ jO oQ bR aY jQ gY iJ mQ lJ jA bG mK jB mW mJ eJ dG bT aG jC bL bY jD mLn oF rP dQ aJ aB bW bZ aR aE bI aW bU fJ dO bM bQ bO jY oX m_x gR pW nG oO qO qQ) sz) a_m nY sJ eG iY lY jR jW jZ jO oQ bR aY jQ gY iJ mQ lJ jA bG mK jB mW mJ eJ dG bT aG jC bL bY jD mLn oF aJ aB bW bZ aR aE bI aW bU fJ dO bM bQ bO jY oX m_x gR pW nG oO qO qQ post) 0 0 (va_A (aHG cI cC cZ cB cJ a_m nY sJ eG iY lY jR jW jZ jO oQ bR aY jQ gY iJ mQ lJ jA bG mK jB mW mJ eJ dG bT aG jC bL bY jD mLn oF rP dQ aJ aB bW bZ aR aE bI aW bU fJ dO bM bQ bO jY oX m_x gR pW nG oO qO qQ) sz)
def aVV (l : Launch) (W : aOw) (fr lo : Nat) : Prop := ∀ (dC : Nat -> ClassId) (dI : Nat -> Nat -> Nat) (cI cC cZ cB cJ : ClassId) (a_m nY sJ eG iY lY jR jW jZ jO oQ bR aY jQ gY iJ mQ lJ jA bG mK jB mW mJ eJ dG sz : Nat) (p0 bT aG jC bL bY : Int32) (jD : Nat) (mLn oF rP dQ aJ aB bW bZ aR aE bI aW bU fJ dO bM bQ bO jY oX : Int32) (m_x gR pW nG oO qO qQ : Nat -> Int32) (post : Int32 -> Int32 -> Int32 -> Prop), W post p0 jD mLn oF rP dQ bZ aR aE bI aW m_x gR pW nG oO qO qQ -> Met l yX10_held (gw yX10_held aGx 3 (some .int)) { frames := fr, cells := 0, slots := 0, locals := lo } (va_Pc [.ref a_m, .int p0] (gPre (dC, dI) (tyl cI cC cZ cB cJ) (aHG cI cC cZ cB cJ a_m nY sJ eG iY lY jR jW jZ jO oQ bR aY jQ gY iJ mQ lJ jA bG mK jB mW mJ eJ dG bT aG jC bL bY jD mLn oF rP dQ aJ aB bW bZ aR aE bI aW bU fJ dO bM bQ bO jY oX m_x gR pW nG oO qO qQ) sz)) (q_X10_thing dC dI cI cC cZ cB cJ (va_A (aHG cI cC cZ cB cJ a_m nY sJ eG iY lY jR jW jZ jO oQ bR aY jQ gY iJ mQ lJ jA bG mK jB mW mJ eJ dG bT aG jC bL bY jD mLn oF rP dQ aJ aB bW bZ aR aE bI aW bU fJ dO bM bQ bO jY oX m_x gR pW nG oO qO qQ) sz) a_m nY sJ eG iY lY jR jW jZ jO oQ bR aY jQ gY iJ mQ lJ jA bG mK jB mW mJ eJ dG bT aG jC bL bY jD mLn oF aJ aB bW bZ aR aE bI aW bU fJ dO bM bQ bO jY oX m_x gR pW nG oO qO qQ post) 0 0 (va_A (aHG cI cC cZ cB cJ a_m nY sJ eG iY lY jR jW jZ jO oQ bR aY jQ gY iJ mQ lJ jA bG mK jB mW mJ eJ dG bT aG jC bL bY jD mLn oF rP dQ aJ aB bW bZ aR aE bI aW bU fJ dO bM bQ bO jY oX m_x gR pW nG oO qO qQ) sz)
section S_X10_thing
variable {p : Program} {l : Launch} {e : Env} {s : State} {m : MethodId} {args : Array Value} {below : List Frame} {meth : Method} {c : Code} {dC : Nat -> ClassId} {dI : Nat -> Nat -> Nat} {cI cC cZ cB cJ : ClassId} {A : Nat -> Prop} {a_m nY sJ eG iY lY jR jW jZ jO oQ bR aY jQ gY iJ mQ lJ jA bG mK jB mW mJ eJ dG : Nat} {bT aG jC bL bY : Int32} {jD : Nat} {mLn oF aJ aB bW bZ aR aE bI aW bU fJ dO bM bQ bO jY oX : Int32} {m_x gR pW nG oO qO qQ : Nat -> Int32} {post : Int32 -> Int32 -> Int32 -> Prop} {rn : Nat} {WT WH : aOw}
def aJK (WT WH : aOw) (post : Int32 -> Int32 -> Int32 -> Prop) (jD : Nat) (mLn oF bZ aR aE bI aW : Int32) (m_x gR pW nG oO qO qQ : Nat -> Int32) (x2 rP dQ : Int32) : Prop := ∀ v_6 : Int32, v_6 = rP + 1 -> (bZ = 0 -> post 0 v_6 dQ) /\ (¬ bZ = 0 -> wp_X10_valueOf (fun r_7 => post r_7 v_6 dQ) x2 aR aE bI aW m_x gR pW nG oO)
set_option maxHeartbeats 4000000 in
set_option maxRecDepth 100000 in
theorem ks_X10_thing_136 (C0 : gc aCV (some .int) 4 zX (dC, dI) (tyl cI cC cZ cB cJ) A p s m args meth c) (hT : aR8 l WT (6 * rn - 3) (200 * rn - 136)) (hH : aVV l WH (6 * rn) (200 * rn - 65)) : ∀ (x2 rP dQ : Int32) (H : Heap) (locs : List Loc) (ls : Array Slot), (aJK WT WH post jD mLn oF bZ aR aE bI aW m_x gR pW nG oO qO qQ) x2 rP dQ -> va_P (dC, dI) classes (aHG cI cC cZ cB cJ a_m nY sJ eG iY lY jR jW jZ jO oQ bR aY jQ gY iJ mQ lJ jA bG mK jB mW mJ eJ dG bT aG jC bL bY jD mLn oF rP dQ aJ aB bW bZ aR aE bI aW bU fJ dO bM bQ bO jY oX m_x gR pW nG oO qO qQ) H -> va_D A (aHG cI cC cZ cB cJ a_m nY sJ eG iY lY jR jW jZ jO oQ bR aY jQ gY iJ mQ lJ jA bG mK jB mW mJ eJ dG bT aG jC bL bY jD mLn oF rP dQ aJ aB bW bZ aR aE bI aW bU fJ dO bM bQ bO jY oX m_x gR pW nG oO qO qQ) -> va_S A s.heap H locs -> lv_has ls 4 [(0, .ref a_m), (2, .int x2)] -> W p l e (rm_X10_thing rn) s m args below meth c H locs 0 0 (MQ below (q_X10_thing dC dI cI cC cZ cB cJ A a_m nY sJ eG iY lY jR jW jZ jO oQ bR aY jQ gY iJ mQ lJ jA bG mK jB mW mJ eJ dG bT aG jC bL bY jD mLn oF aJ aB bW bZ aR aE bI aW bU fJ dO bM bQ bO jY oX m_x gR pW nG oO qO qQ post) args s 0 0 A) (F0 m 136 ls []) := by
  obtain ⟨hx, hb, hr, hml, hown, hts, hlocks, hA, hK, hN, tL, tM, hZL, hTL, hZM, hTM, hZX⟩ := id C0
  intro x2 rP dQ H locs ls hp hP hD hS hl
  unfold aJK at hp
  refine lv_aload_n hx hb aQd.2.2.2.2.1 rfl (lv_at hl 0 rfl) ?_
  refine lv_dup hx hb aQd.2.2.2.2.2.1 rfl ?_
  refine va_get (D := (dC, dI)) (ci := 10) (v := .int rP) (C := zX) (T := aBe) (N := 51) hx hb hts aAt hown hK hP 0 rfl rfl 18 (lbz rfl) (hts _ q_648) (fun _ h9 => h9) rfl aQd.2.2.2.2.2.2.1 ?_
  refine lv_iconst (v := 1) hx hb aQd.2.2.2.2.2.2.2.1 aDx ?_
  refine lv_iadd hx hb aQd.2.2.2.2.2.2.2.2.1 ?_
  refine lv_topi (fun v_6 ev_6 => ?_)
  have hp := hp v_6 ev_6
  refine va_put (D := (dC, dI)) (ci := 10) (v := .int v_6) (ty := .int) (C := zX) (T := aBe) (N := 51) hx hb hts aAt aD2 aAa aEC hown hK hP hD hS 0 rfl rfl 18 (lbz rfl) (hts _ q_648) (fun _ h9 => h9) rfl (aAa 18 (lbz rfl)) rfl rfl (lbz rfl) aQd.2.2.2.2.2.2.2.2.2.1 (fun H locs hP hD hS => ?_)
  have hPD := PDw (ws' := (aHG cI cC cZ cB cJ a_m nY sJ eG iY lY jR jW jZ jO oQ bR aY jQ gY iJ mQ lJ jA bG mK jB mW mJ eJ dG bT aG jC bL bY jD mLn oF v_6 dQ aJ aB bW bZ aR aE bI aW bU fJ dO bM bQ bO jY oX m_x gR pW nG oO qO qQ)) hP hD rfl
  have hP := hPD.1
  have hD := hPD.2
  refine lv_aload_n hx hb aQd.2.2.2.2.2.2.2.2.2.2.1 rfl (lv_at hl 0 rfl) ?_
  refine va_get (D := (dC, dI)) (ci := 10) (v := .int bZ) (C := zX) (T := aBe) (N := 51) hx hb hts aAt hown hK hP 0 rfl rfl 26 (lbz rfl) (hts _ q_711) (fun _ h9 => h9) rfl aQd.2.2.2.2.2.2.2.2.2.2.2.1 ?_
  refine lv_if_eq (tgt := 161) hx hb aQd.2.2.2.2.2.2.2.2.2.2.2.2.1 (by decide) (fun hc => ?_) (fun hc => ?_)
  · have hp := hp.1 hc
    refine lv_iconst (v := 0) hx hb eX10_thing_158.2.1 aCi ?_
    exact W.iret (v := 0) hx hb hr (fun t ht hW => ⟨⟨0, (v_6, dQ), rfl, hp, by rw [ht]; exact hP, va_K.moved hW.alike hK, hD⟩, hS.F ht⟩) hS.2.2 eX10_thing_158.2.2
  · have hp := hp.2 hc
    refine lv_aload_n hx hb aQd.2.2.2.2.2.2.2.2.2.2.2.2.2.1 rfl (lv_at hl 0 rfl) ?_
    refine lv_iload_n hx hb aQd.2.2.2.2.2.2.2.2.2.2.2.2.2.2.1 rfl (lv_at hl 1 rfl) ?_
    have hm := mgk (wc := (wd_X10_valueOf cI cC cZ cB cJ a_m nY sJ eG iY lY jR jW jZ jO oQ bR aY jQ gY iJ mQ lJ jA bG mK jB mW mJ eJ dG bT aG jC bL bY jD mLn oF v_6 dQ aJ aB bW bZ aR aE bI aW bU fJ dO bM bQ bO jY oX m_x gR pW nG oO)) hP mk_205 8 rfl rfl rfl
    refine yW hP hD hS hA (yS mk_205) (aAi mk_205) hm.1 hm.2 (aAk _) (zW _) (zF (As := [.int x2]) (rest := []) C0 hP hD hS (yS mk_205) hm.1 (aAl _) 0 10 rfl rfl (c_X10_valueOf l dC dI cI cC cZ cB cJ a_m nY sJ eG iY lY jR jW jZ jO oQ bR aY jQ gY iJ mQ lJ jA bG mK jB mW mJ eJ dG H.size x2 bT aG jC bL bY jD mLn oF v_6 dQ aJ aB bW bZ aR aE bI aW bU fJ dO bM bQ bO jY oX m_x gR pW nG oO _ hp) q_712 q_715 q_713 q_714 aBL h_X10_valueOf rfl rfl ⟨(show 2 + 1 <= 6 * rn + 3 by omega), (show 8 + (2 + 11) + (43) <= 200 * rn + 64 by omega)⟩ rfl rfl hl.1 rfl (lv_room (lbz rfl)) aQd.2.2.2.2.2.2.2.2.2.2.2.2.2.2.2 ⟨Nat.zero_le _, Nat.zero_le _⟩) (fun r_7 u H locs hp hP hD hS => ?_)
    have hPD := PDm (ws' := (aHG cI cC cZ cB cJ a_m nY sJ eG iY lY jR jW jZ jO oQ bR aY jQ gY iJ mQ lJ jA bG mK jB mW mJ eJ dG bT aG jC bL bY jD mLn oF v_6 dQ aJ aB bW bZ aR aE bI aW bU fJ dO bM bQ bO jY oX m_x gR pW nG oO qO qQ)) hP hD 8 rfl rfl rfl
    have hP := hPD.1
    have hD := hPD.2
    refine lv_goto (tgt := 162) hx hb eX10_thing_158.1 (by decide) ?_
    exact W.iret (v := r_7) hx hb hr (fun t ht hW => ⟨⟨r_7, (v_6, dQ), rfl, hp, by rw [ht]; exact hP, va_K.moved hW.alike hK, hD⟩, hS.F ht⟩) hS.2.2 eX10_thing_158.2.2
def ws_X10_thing_67 (WT WH : aOw) (post : Int32 -> Int32 -> Int32 -> Prop) (jD : Nat) (mLn oF bZ aR aE bI aW : Int32) (m_x gR pW nG oO qO qQ : Nat -> Int32) (x2 rP dQ : Int32) : Prop := aJY (fun r_5 => (r_5 = 0 -> (x2 = 100 -> aJK WT WH post jD mLn oF bZ aR aE bI aW m_x gR pW nG oO qO qQ x2 rP dQ) /\ (¬ x2 = 100 -> (x2 = 117 -> aJK WT WH post jD mLn oF bZ aR aE bI aW m_x gR pW nG oO qO qQ x2 rP dQ) /\ (¬ x2 = 117 -> (x2 = 121 -> aJK WT WH post jD mLn oF bZ aR aE bI aW m_x gR pW nG oO qO qQ x2 rP dQ) /\ (¬ x2 = 121 -> (x2 = 119 -> aJK WT WH post jD mLn oF bZ aR aE bI aW m_x gR pW nG oO qO qQ x2 rP dQ) /\ (¬ x2 = 119 -> (x2 = 115 -> aJK WT WH post jD mLn oF bZ aR aE bI aW m_x gR pW nG oO qO qQ x2 rP dQ) /\ (¬ x2 = 115 -> (x2 = 107 -> aJK WT WH post jD mLn oF bZ aR aE bI aW m_x gR pW nG oO qO qQ x2 rP dQ) /\ (¬ x2 = 107 -> (x2 = 111 -> aJK WT WH post jD mLn oF bZ aR aE bI aW m_x gR pW nG oO qO qQ x2 rP dQ) /\ (¬ x2 = 111 -> aSQ (fun m_wrong_8 => post 0 rP m_wrong_8) rP dQ)))))))) /\ (¬ r_5 = 0 -> aOj (fun r_9 m_at_10 aKb => post r_9 m_at_10 aKb) 3 jD mLn oF rP dQ qO qQ)) x2 48 57
set_option maxHeartbeats 4000000 in
set_option maxRecDepth 100000 in
theorem ks_X10_thing_67 (C0 : gc aCV (some .int) 4 zX (dC, dI) (tyl cI cC cZ cB cJ) A p s m args meth c) (hT : aR8 l WT (6 * rn - 3) (200 * rn - 136)) (hH : aVV l WH (6 * rn) (200 * rn - 65)) : ∀ (x2 rP dQ : Int32) (H : Heap) (locs : List Loc) (ls : Array Slot), (ws_X10_thing_67 WT WH post jD mLn oF bZ aR aE bI aW m_x gR pW nG oO qO qQ) x2 rP dQ -> va_P (dC, dI) classes (aHG cI cC cZ cB cJ a_m nY sJ eG iY lY jR jW jZ jO oQ bR aY jQ gY iJ mQ lJ jA bG mK jB mW mJ eJ dG bT aG jC bL bY jD mLn oF rP dQ aJ aB bW bZ aR aE bI aW bU fJ dO bM bQ bO jY oX m_x gR pW nG oO qO qQ) H -> va_D A (aHG cI cC cZ cB cJ a_m nY sJ eG iY lY jR jW jZ jO oQ bR aY jQ gY iJ mQ lJ jA bG mK jB mW mJ eJ dG bT aG jC bL bY jD mLn oF rP dQ aJ aB bW bZ aR aE bI aW bU fJ dO bM bQ bO jY oX m_x gR pW nG oO qO qQ) -> va_S A s.heap H locs -> lv_has ls 4 [(0, .ref a_m), (2, .int x2)] -> W p l e (rm_X10_thing rn) s m args below meth c H locs 0 0 (MQ below (q_X10_thing dC dI cI cC cZ cB cJ A a_m nY sJ eG iY lY jR jW jZ jO oQ bR aY jQ gY iJ mQ lJ jA bG mK jB mW mJ eJ dG bT aG jC bL bY jD mLn oF aJ aB bW bZ aR aE bI aW bU fJ dO bM bQ bO jY oX m_x gR pW nG oO qO qQ post) args s 0 0 A) (F0 m 67 ls []) := by
  obtain ⟨hx, hb, hr, hml, hown, hts, hlocks, hA, hK, hN, tL, tM, hZL, hTL, hZM, hTM, hZX⟩ := id C0
  intro x2 rP dQ H locs ls hp hP hD hS hl
  unfold ws_X10_thing_67 at hp
  refine lv_iload_n hx hb aTT.1 rfl (lv_at hl 1 rfl) ?_
  refine lv_bipush (v := 48) hx hb aTT.2.1 bp_48 ?_
  refine lv_bipush (v := 57) hx hb aTT.2.2.1 bp_57 ?_
  have hm := mgk (wc := (aKW cI cC cZ cB cJ)) hP aRc 8 rfl rfl rfl
  refine yW hP hD hS hA (yS aRc) (aAi aRc) hm.1 hm.2 (aAk _) (zW _) (aDn (As := [.int x2, .int 48, .int 57]) (rest := []) C0 hP hD hS (yS aRc) hm.1 (aAl _) (aRu l dC dI cI cC cZ cB cJ H.size x2 48 57 _ hp) q_641 q_644 q_643 aBL aRx rfl rfl ⟨(show 0 + 1 <= 6 * rn + 3 by omega), (show 8 + (3 + 11) + (0) <= 200 * rn + 64 by omega)⟩ rfl rfl hl.1 rfl (lv_room (lbz rfl)) aTT.2.2.2.1 ⟨Nat.zero_le _, Nat.zero_le _⟩) (fun r_5 u H locs hp hP hD hS => ?_)
  have hPD := PDm (ws' := (aHG cI cC cZ cB cJ a_m nY sJ eG iY lY jR jW jZ jO oQ bR aY jQ gY iJ mQ lJ jA bG mK jB mW mJ eJ dG bT aG jC bL bY jD mLn oF rP dQ aJ aB bW bZ aR aE bI aW bU fJ dO bM bQ bO jY oX m_x gR pW nG oO qO qQ)) hP hD 8 rfl rfl rfl
  have hP := hPD.1
  have hD := hPD.2
  refine lv_if_eq (tgt := 84) hx hb aTT.2.2.2.2.1 (by decide) (fun hc => ?_) (fun hc => ?_)
  · have hp := hp.1 hc
    refine lv_iload_n hx hb aTT.2.2.2.2.2.2.2.2.2.1 rfl (lv_at hl 1 rfl) ?_
    refine lv_bipush (v := 100) hx hb aTT.2.2.2.2.2.2.2.2.2.2.1 bp_100 ?_
    refine lv_icmp_eq (tgt := 136) hx hb aTT.2.2.2.2.2.2.2.2.2.2.2.1 (by decide) (fun hc => ?_) (fun hc => ?_)
    · have hp := hp.1 hc
      exact ks_X10_thing_136 C0 hT hH x2 rP dQ H locs ls hp hP hD hS (lv_sub hl [0, 1] rfl)
    · have hp := hp.2 hc
      refine lv_iload_n hx hb aTT.2.2.2.2.2.2.2.2.2.2.2.2.1 rfl (lv_at hl 1 rfl) ?_
      refine lv_bipush (v := 117) hx hb aTT.2.2.2.2.2.2.2.2.2.2.2.2.2.1 bp_117 ?_
      refine lv_icmp_eq (tgt := 136) hx hb aTT.2.2.2.2.2.2.2.2.2.2.2.2.2.2.1 (by decide) (fun hc => ?_) (fun hc => ?_)
      · have hp := hp.1 hc
        exact ks_X10_thing_136 C0 hT hH x2 rP dQ H locs ls hp hP hD hS (lv_sub hl [0, 1] rfl)
      · have hp := hp.2 hc
        refine lv_iload_n hx hb aTT.2.2.2.2.2.2.2.2.2.2.2.2.2.2.2 rfl (lv_at hl 1 rfl) ?_
        refine lv_bipush (v := 121) hx hb aTU.1 bp_121 ?_
        refine lv_icmp_eq (tgt := 136) hx hb aTU.2.1 (by decide) (fun hc => ?_) (fun hc => ?_)
        · have hp := hp.1 hc
          exact ks_X10_thing_136 C0 hT hH x2 rP dQ H locs ls hp hP hD hS (lv_sub hl [0, 1] rfl)
        · have hp := hp.2 hc
          refine lv_iload_n hx hb aTU.2.2.1 rfl (lv_at hl 1 rfl) ?_
          refine lv_bipush (v := 119) hx hb aTU.2.2.2.1 bp_119 ?_
          refine lv_icmp_eq (tgt := 136) hx hb aTU.2.2.2.2.1 (by decide) (fun hc => ?_) (fun hc => ?_)
          · have hp := hp.1 hc
            exact ks_X10_thing_136 C0 hT hH x2 rP dQ H locs ls hp hP hD hS (lv_sub hl [0, 1] rfl)
          · have hp := hp.2 hc
            refine lv_iload_n hx hb aTU.2.2.2.2.2.1 rfl (lv_at hl 1 rfl) ?_
            refine lv_bipush (v := 115) hx hb aTU.2.2.2.2.2.2.1 bp_115 ?_
            refine lv_icmp_eq (tgt := 136) hx hb aTU.2.2.2.2.2.2.2.1 (by decide) (fun hc => ?_) (fun hc => ?_)
            · have hp := hp.1 hc
              exact ks_X10_thing_136 C0 hT hH x2 rP dQ H locs ls hp hP hD hS (lv_sub hl [0, 1] rfl)
            · have hp := hp.2 hc
              refine lv_iload_n hx hb aTU.2.2.2.2.2.2.2.2.1 rfl (lv_at hl 1 rfl) ?_
              refine lv_bipush (v := 107) hx hb aTU.2.2.2.2.2.2.2.2.2.1 bp_107 ?_
              refine lv_icmp_eq (tgt := 136) hx hb aTU.2.2.2.2.2.2.2.2.2.2.1 (by decide) (fun hc => ?_) (fun hc => ?_)
              · have hp := hp.1 hc
                exact ks_X10_thing_136 C0 hT hH x2 rP dQ H locs ls hp hP hD hS (lv_sub hl [0, 1] rfl)
              · have hp := hp.2 hc
                refine lv_iload_n hx hb aTU.2.2.2.2.2.2.2.2.2.2.2.1 rfl (lv_at hl 1 rfl) ?_
                refine lv_bipush (v := 111) hx hb aTU.2.2.2.2.2.2.2.2.2.2.2.2.1 bp_111 ?_
                refine lv_icmp_eq (tgt := 136) hx hb aTU.2.2.2.2.2.2.2.2.2.2.2.2.2.1 (by decide) (fun hc => ?_) (fun hc => ?_)
                · have hp := hp.1 hc
                  exact ks_X10_thing_136 C0 hT hH x2 rP dQ H locs ls hp hP hD hS (lv_sub hl [0, 1] rfl)
                · have hp := hp.2 hc
                  refine lv_aload_n hx hb aTU.2.2.2.2.2.2.2.2.2.2.2.2.2.2.1 rfl (lv_at hl 0 rfl) ?_
                  refine lv_aload_n hx hb aTU.2.2.2.2.2.2.2.2.2.2.2.2.2.2.2 rfl (lv_at hl 0 rfl) ?_
                  refine va_get (D := (dC, dI)) (ci := 10) (v := .int rP) (C := zX) (T := aBe) (N := 51) hx hb hts aAt hown hK hP 0 rfl rfl 18 (lbz rfl) (hts _ q_648) (fun _ h9 => h9) rfl aQd.1 ?_
                  have hm := mgk (wc := (aSM cI cC cZ cB cJ a_m nY sJ eG iY lY jR jW jZ jO oQ bR aY jQ gY iJ mQ lJ jA bG mK jB mW mJ eJ dG bT aG jC bL bY jD mLn oF rP dQ aJ aB bW bZ aR aE bI aW bU fJ dO bM bQ bO jY oX)) hP mk_206 8 rfl rfl rfl
                  refine aBn hP hD hS hA (yS mk_206) (aAi mk_206) hm.1 hm.2 (aAk _) (zW _) (zF (As := [.int rP]) (rest := []) C0 hP hD hS (yS mk_206) hm.1 (aAl _) 0 10 rfl rfl (c_X10_fault l dC dI cI cC cZ cB cJ a_m nY sJ eG iY lY jR jW jZ jO oQ bR aY jQ gY iJ mQ lJ jA bG mK jB mW mJ eJ dG H.size rP bT aG jC bL bY jD mLn oF rP dQ aJ aB bW bZ aR aE bI aW bU fJ dO bM bQ bO jY oX _ hp) q_654 q_657 q_655 q_656 aBL h_X10_fault rfl rfl ⟨(show 1 + 1 <= 6 * rn + 3 by omega), (show 8 + (2 + 11) + (20) <= 200 * rn + 64 by omega)⟩ rfl rfl hl.1 rfl (lv_room (lbz rfl)) aQd.2.1 ⟨Nat.zero_le _, Nat.zero_le _⟩) (fun u H locs hp hP hD hS => ?_)
                  obtain ⟨m_wrong_8, rfl⟩ : ∃ z, z = u := ⟨_, rfl⟩
                  have hPD := PDm (ws' := (aHG cI cC cZ cB cJ a_m nY sJ eG iY lY jR jW jZ jO oQ bR aY jQ gY iJ mQ lJ jA bG mK jB mW mJ eJ dG bT aG jC bL bY jD mLn oF rP m_wrong_8 aJ aB bW bZ aR aE bI aW bU fJ dO bM bQ bO jY oX m_x gR pW nG oO qO qQ)) hP hD 8 rfl rfl rfl
                  have hP := hPD.1
                  have hD := hPD.2
                  refine lv_iconst (v := 0) hx hb aQd.2.2.1 aCi ?_
                  exact W.iret (v := 0) hx hb hr (fun t ht hW => ⟨⟨0, (rP, m_wrong_8), rfl, hp, by rw [ht]; exact hP, va_K.moved hW.alike hK, hD⟩, hS.F ht⟩) hS.2.2 aQd.2.2.2.1
  · have hp := hp.2 hc
    refine lv_aload_n hx hb aTT.2.2.2.2.2.1 rfl (lv_at hl 0 rfl) ?_
    refine lv_iconst (v := 3) hx hb aTT.2.2.2.2.2.2.1 ic_3 ?_
    have hm := mgk (wc := (aG9 cI cC cZ cB cJ a_m nY sJ eG iY lY jR jW jZ jO oQ bR aY jQ gY iJ mQ lJ jA bG mK jB mW mJ eJ dG bT aG jC bL bY jD mLn oF rP dQ aJ aB bW bZ aR aE bI aW bU fJ dO bM bQ bO jY oX qO qQ)) hP aLf 8 rfl rfl rfl
    refine yW hP hD hS hA (yS aLf) (aAi aLf) hm.1 hm.2 (aAk _) (zW _) (zF (As := [.int 3]) (rest := []) C0 hP hD hS (yS aLf) hm.1 (aAl _) 0 10 rfl rfl (c_X10_number l dC dI cI cC cZ cB cJ a_m nY sJ eG iY lY jR jW jZ jO oQ bR aY jQ gY iJ mQ lJ jA bG mK jB mW mJ eJ dG H.size 3 bT aG jC bL bY jD mLn oF rP dQ aJ aB bW bZ aR aE bI aW bU fJ dO bM bQ bO jY oX qO qQ _ hp) q_669 q_672 q_670 q_671 aBL h_X10_number rfl rfl ⟨(show 2 + 1 <= 6 * rn + 3 by omega), (show 8 + (4 + 11) + (41) <= 200 * rn + 64 by omega)⟩ rfl rfl hl.1 rfl (lv_room (lbz rfl)) aTT.2.2.2.2.2.2.2.1 ⟨Nat.zero_le _, Nat.zero_le _⟩) (fun r_9 u H locs hp hP hD hS => ?_)
    obtain ⟨m_at_10, aKb⟩ := u
    have hPD := PDm (ws' := (aHG cI cC cZ cB cJ a_m nY sJ eG iY lY jR jW jZ jO oQ bR aY jQ gY iJ mQ lJ jA bG mK jB mW mJ eJ dG bT aG jC bL bY jD mLn oF m_at_10 aKb aJ aB bW bZ aR aE bI aW bU fJ dO bM bQ bO jY oX m_x gR pW nG oO qO qQ)) hP hD 8 rfl rfl rfl
    have hP := hPD.1
    have hD := hPD.2
    exact W.iret (v := r_9) hx hb hr (fun t ht hW => ⟨⟨r_9, (m_at_10, aKb), rfl, hp, by rw [ht]; exact hP, va_K.moved hW.alike hK, hD⟩, hS.F ht⟩) hS.2.2 aTT.2.2.2.2.2.2.2.2.1
end S_X10_thing
def wp_X10_thing (WT WH : aOw) (post : Int32 -> Int32 -> Int32 -> Prop) (p0 : Int32) (jD : Nat) (mLn oF rP dQ bZ aR aE bI aW : Int32) (m_x gR pW nG oO qO qQ : Nat -> Int32) : Prop := aPM (fun r_1 aQ4 => (r_1 = 0 -> aRX (fun r_3 => (¬ r_3 = 0 -> aPe (fun r_4 => (¬ r_4 = 40 -> ws_X10_thing_67 WT WH post jD mLn oF bZ aR aE bI aW m_x gR pW nG oO qO qQ r_4 aQ4 dQ) /\ (r_4 = 40 -> (4 <= p0 -> ws_X10_thing_67 WT WH post jD mLn oF bZ aR aE bI aW m_x gR pW nG oO qO qQ r_4 aQ4 dQ) /\ (¬ 4 <= p0 -> ∀ aEp : Int32, aEp = aQ4 + 1 -> ∀ aIQ : Int32, aIQ = p0 + 1 -> WH (fun r_14 m_at_15 m_wrong_16 => wp_X10_need (fun m_at_17 m_wrong_18 => post r_14 m_at_17 m_wrong_18) 41 jD mLn oF m_at_15 m_wrong_16 qO qQ) aIQ jD mLn oF aEp dQ bZ aR aE bI aW m_x gR pW nG oO qO qQ))) jD mLn oF aQ4 qO qQ) /\ (r_3 = 0 -> post 0 aQ4 dQ)) dQ) /\ (¬ r_1 = 0 -> WT (fun r_19 m_at_20 m_wrong_21 => post (-r_19) m_at_20 m_wrong_21) p0 jD mLn oF aQ4 dQ bZ aR aE bI aW m_x gR pW nG oO qO qQ)) 45 jD mLn oF rP dQ qO qQ
set_option maxHeartbeats 4000000 in
set_option maxRecDepth 100000 in
theorem c_X10_thing (l : Launch) (rn : Nat) (WT WH : aOw) (hT : aR8 l WT (6 * rn - 3) (200 * rn - 136)) (hH : aVV l WH (6 * rn) (200 * rn - 65)) (dC : Nat -> ClassId) (dI : Nat -> Nat -> Nat) (cI cC cZ cB cJ : ClassId) (a_m nY sJ eG iY lY jR jW jZ jO oQ bR aY jQ gY iJ mQ lJ jA bG mK jB mW mJ eJ dG sz : Nat) (p0 bT aG jC bL bY : Int32) (jD : Nat) (mLn oF rP dQ aJ aB bW bZ aR aE bI aW bU fJ dO bM bQ bO jY oX : Int32) (m_x gR pW nG oO qO qQ : Nat -> Int32) (post : Int32 -> Int32 -> Int32 -> Prop) (hw : wp_X10_thing WT WH post p0 jD mLn oF rP dQ bZ aR aE bI aW m_x gR pW nG oO qO qQ) : Met l yX10_thing (gw yX10_thing aCV 4 (some .int)) (rm_X10_thing rn) (va_Pc [.ref a_m, .int p0] (gPre (dC, dI) (tyl cI cC cZ cB cJ) (aHG cI cC cZ cB cJ a_m nY sJ eG iY lY jR jW jZ jO oQ bR aY jQ gY iJ mQ lJ jA bG mK jB mW mJ eJ dG bT aG jC bL bY jD mLn oF rP dQ aJ aB bW bZ aR aE bI aW bU fJ dO bM bQ bO jY oX m_x gR pW nG oO qO qQ) sz)) (q_X10_thing dC dI cI cC cZ cB cJ (va_A (aHG cI cC cZ cB cJ a_m nY sJ eG iY lY jR jW jZ jO oQ bR aY jQ gY iJ mQ lJ jA bG mK jB mW mJ eJ dG bT aG jC bL bY jD mLn oF rP dQ aJ aB bW bZ aR aE bI aW bU fJ dO bM bQ bO jY oX m_x gR pW nG oO qO qQ) sz) a_m nY sJ eG iY lY jR jW jZ jO oQ bR aY jQ gY iJ mQ lJ jA bG mK jB mW mJ eJ dG bT aG jC bL bY jD mLn oF aJ aB bW bZ aR aE bI aW bU fJ dO bM bQ bO jY oX m_x gR pW nG oO qO qQ post) 0 0 (va_A (aHG cI cC cZ cB cJ a_m nY sJ eG iY lY jR jW jZ jO oQ bR aY jQ gY iJ mQ lJ jA bG mK jB mW mJ eJ dG bT aG jC bL bY jD mLn oF rP dQ aJ aB bW bZ aR aE bI aW bU fJ dO bM bQ bO jY oX m_x gR pW nG oO qO qQ) sz) := by
  refine aBJ (own := zX) (dC, dI) (tyl cI cC cZ cB cJ) (aHG cI cC cZ cB cJ a_m nY sJ eG iY lY jR jW jZ jO oQ bR aY jQ gY iJ mQ lJ jA bG mK jB mW mJ eJ dG bT aG jC bL bY jD mLn oF rP dQ aJ aB bW bZ aR aE bI aW bU fJ dO bM bQ bO jY oX m_x gR pW nG oO qO qQ) sz [.ref a_m, .int p0] (fun A => q_X10_thing dC dI cI cC cZ cB cJ A a_m nY sJ eG iY lY jR jW jZ jO oQ bR aY jQ gY iJ mQ lJ jA bG mK jB mW mJ eJ dG bT aG jC bL bY jD mLn oF aJ aB bW bZ aR aE bI aW bU fJ dO bM bQ bO jY oX m_x gR pW nG oO qO qQ post) aFY rfl (lbz rfl) ?_
  intro p e s m args below meth c A H locs ls C0 hP hD hS hl
  have hl : lv_has ls 4 [(0, .ref a_m), (1, .int p0)] := hl
  obtain ⟨hx, hb, hr, hml, hown, hts, hlocks, hA, hK, hN, tL, tM, hZL, hTL, hZM, hTM, hZX⟩ := id C0
  have hp := hw
  unfold wp_X10_thing at hp
  refine lv_aload_n hx hb eX10_thing_0.1 rfl (lv_at hl 0 rfl) ?_
  refine lv_bipush (v := 45) hx hb eX10_thing_0.2.1 bp_45 ?_
  have hm := mgk (wc := (aOh cI cC cZ cB cJ a_m nY sJ eG iY lY jR jW jZ jO oQ bR aY jQ gY iJ mQ lJ jA bG mK jB mW mJ eJ dG bT aG jC bL bY jD mLn oF rP dQ aJ aB bW bZ aR aE bI aW bU fJ dO bM bQ bO jY oX qO qQ)) hP aLf 8 rfl rfl rfl
  refine yW hP hD hS hA (yS aLf) (aAi aLf) hm.1 hm.2 (aAk _) (zW _) (zF (As := [.int 45]) (rest := []) C0 hP hD hS (yS aLf) hm.1 (aAl _) 0 10 rfl rfl (c_X10_passes l dC dI cI cC cZ cB cJ a_m nY sJ eG iY lY jR jW jZ jO oQ bR aY jQ gY iJ mQ lJ jA bG mK jB mW mJ eJ dG H.size 45 bT aG jC bL bY jD mLn oF rP dQ aJ aB bW bZ aR aE bI aW bU fJ dO bM bQ bO jY oX qO qQ _ hp) q_662 q_665 q_663 q_664 aBL h_X10_passes rfl rfl ⟨(show 1 + 1 <= 6 * rn + 3 by omega), (show 8 + (2 + 11) + (20) <= 200 * rn + 64 by omega)⟩ rfl rfl hl.1 rfl (lv_room (lbz rfl)) eX10_thing_0.2.2.1 ⟨Nat.zero_le _, Nat.zero_le _⟩) (fun r_1 u H locs hp hP hD hS => ?_)
  obtain ⟨aQ4, rfl⟩ : ∃ z, z = u := ⟨_, rfl⟩
  have hPD := PDm (ws' := (aHG cI cC cZ cB cJ a_m nY sJ eG iY lY jR jW jZ jO oQ bR aY jQ gY iJ mQ lJ jA bG mK jB mW mJ eJ dG bT aG jC bL bY jD mLn oF aQ4 dQ aJ aB bW bZ aR aE bI aW bU fJ dO bM bQ bO jY oX m_x gR pW nG oO qO qQ)) hP hD 8 rfl rfl rfl
  have hP := hPD.1
  have hD := hPD.2
  refine lv_if_eq (tgt := 16) hx hb eX10_thing_0.2.2.2.1 (by decide) (fun hc => ?_) (fun hc => ?_)
  · have hp := hp.1 hc
    refine lv_aload_n hx hb aTR.2.1 rfl (lv_at hl 0 rfl) ?_
    have hm := mgk (wc := (aVf cI cC cZ cB cJ a_m nY sJ eG iY lY jR jW jZ jO oQ bR aY jQ gY iJ mQ lJ jA bG mK jB mW mJ eJ dG bT aG jC bL bY jD mLn oF aQ4 dQ aJ aB bW bZ aR aE bI aW bU fJ dO bM bQ bO jY oX)) hP mk_206 8 rfl rfl rfl
    refine yW hP hD hS hA (yS mk_206) (aAi mk_206) hm.1 hm.2 (aAk _) (zW _) (zF (As := []) (rest := []) C0 hP hD hS (yS mk_206) hm.1 (aAl _) 0 10 rfl rfl (c_X10_fine l dC dI cI cC cZ cB cJ a_m nY sJ eG iY lY jR jW jZ jO oQ bR aY jQ gY iJ mQ lJ jA bG mK jB mW mJ eJ dG H.size bT aG jC bL bY jD mLn oF aQ4 dQ aJ aB bW bZ aR aE bI aW bU fJ dO bM bQ bO jY oX _ hp) q_650 q_653 q_651 q_652 aBL h_X10_fine rfl rfl ⟨(show 0 + 1 <= 6 * rn + 3 by omega), (show 8 + (1 + 11) + (0) <= 200 * rn + 64 by omega)⟩ rfl rfl hl.1 rfl (lv_room (lbz rfl)) aTR.2.2.1 ⟨Nat.zero_le _, Nat.zero_le _⟩) (fun r_3 u H locs hp hP hD hS => ?_)
    have hPD := PDm (ws' := (aHG cI cC cZ cB cJ a_m nY sJ eG iY lY jR jW jZ jO oQ bR aY jQ gY iJ mQ lJ jA bG mK jB mW mJ eJ dG bT aG jC bL bY jD mLn oF aQ4 dQ aJ aB bW bZ aR aE bI aW bU fJ dO bM bQ bO jY oX m_x gR pW nG oO qO qQ)) hP hD 8 rfl rfl rfl
    have hP := hPD.1
    have hD := hPD.2
    refine lv_if_ne (tgt := 25) hx hb aTR.2.2.2.1 (by decide) (fun hc => ?_) (fun hc => ?_)
    · have hp := hp.1 hc
      refine lv_aload_n hx hb aTR.2.2.2.2.2.2.1 rfl (lv_at hl 0 rfl) ?_
      have hm := mgk (wc := (aVg cI cC cZ cB cJ a_m nY sJ eG iY lY jR jW jZ jO oQ bR aY jQ gY iJ mQ lJ jA bG mK jB mW mJ eJ dG bT aG jC bL bY jD mLn oF aQ4 dQ aJ aB bW bZ aR aE bI aW bU fJ dO bM bQ bO jY oX qO qQ)) hP aLf 8 rfl rfl rfl
      refine yW hP hD hS hA (yS aLf) (aAi aLf) hm.1 hm.2 (aAk _) (zW _) (zF (As := []) (rest := []) C0 hP hD hS (yS aLf) hm.1 (aAl _) 0 10 rfl rfl (c_X10_here l dC dI cI cC cZ cB cJ a_m nY sJ eG iY lY jR jW jZ jO oQ bR aY jQ gY iJ mQ lJ jA bG mK jB mW mJ eJ dG H.size bT aG jC bL bY jD mLn oF aQ4 dQ aJ aB bW bZ aR aE bI aW bU fJ dO bM bQ bO jY oX qO qQ _ hp) q_658 q_661 q_659 q_660 aBL h_X10_here rfl rfl ⟨(show 0 + 1 <= 6 * rn + 3 by omega), (show 8 + (1 + 11) + (0) <= 200 * rn + 64 by omega)⟩ rfl rfl hl.1 rfl (lv_room (lbz rfl)) aTR.2.2.2.2.2.2.2.1 ⟨Nat.zero_le _, Nat.zero_le _⟩) (fun r_4 u H locs hp hP hD hS => ?_)
      have hPD := PDm (ws' := (aHG cI cC cZ cB cJ a_m nY sJ eG iY lY jR jW jZ jO oQ bR aY jQ gY iJ mQ lJ jA bG mK jB mW mJ eJ dG bT aG jC bL bY jD mLn oF aQ4 dQ aJ aB bW bZ aR aE bI aW bU fJ dO bM bQ bO jY oX m_x gR pW nG oO qO qQ)) hP hD 8 rfl rfl rfl
      have hP := hPD.1
      have hD := hPD.2
      refine lv_istore_n (lv' := [(2, .int r_4), (0, .ref a_m), (1, .int p0)]) hx hb aTR.2.2.2.2.2.2.2.2.1 rfl hl (by decide) rfl (fun ls hl => ?_)
      refine lv_iload_n hx hb aTR.2.2.2.2.2.2.2.2.2.1 rfl (lv_at hl 0 rfl) ?_
      refine lv_bipush (v := 40) hx hb aTR.2.2.2.2.2.2.2.2.2.2.1 bp_40 ?_
      refine lv_icmp_ne (tgt := 67) hx hb aTR.2.2.2.2.2.2.2.2.2.2.2.1 (by decide) (fun hc => ?_) (fun hc => ?_)
      · have hp := hp.1 hc
        exact ks_X10_thing_67 C0 hT hH r_4 aQ4 dQ H locs ls hp hP hD hS (lv_sub hl [1, 0] rfl)
      · have hp := hp.2 hc
        refine lv_iload_n hx hb aTR.2.2.2.2.2.2.2.2.2.2.2.2.1 rfl (lv_at hl 2 rfl) ?_
        refine lv_iconst (v := 4) hx hb aTR.2.2.2.2.2.2.2.2.2.2.2.2.2.1 ic_4 ?_
        refine lv_icmp_ge (tgt := 67) hx hb aTR.2.2.2.2.2.2.2.2.2.2.2.2.2.2.1 (by decide) (fun hc => ?_) (fun hc => ?_)
        · have hp := hp.1 hc
          exact ks_X10_thing_67 C0 hT hH r_4 aQ4 dQ H locs ls hp hP hD hS (lv_sub hl [1, 0] rfl)
        · have hp := hp.2 hc
          refine lv_aload_n hx hb aTR.2.2.2.2.2.2.2.2.2.2.2.2.2.2.2 rfl (lv_at hl 1 rfl) ?_
          refine lv_dup hx hb aTS.1 rfl ?_
          refine va_get (D := (dC, dI)) (ci := 10) (v := .int aQ4) (C := zX) (T := aBe) (N := 51) hx hb hts aAt hown hK hP 0 rfl rfl 18 (lbz rfl) (hts _ q_648) (fun _ h9 => h9) rfl aTS.2.1 ?_
          refine lv_iconst (v := 1) hx hb aTS.2.2.1 aDx ?_
          refine lv_iadd hx hb aTS.2.2.2.1 ?_
          refine lv_topi (fun aEp ev_12 => ?_)
          have hp := hp aEp ev_12
          refine va_put (D := (dC, dI)) (ci := 10) (v := .int aEp) (ty := .int) (C := zX) (T := aBe) (N := 51) hx hb hts aAt aD2 aAa aEC hown hK hP hD hS 0 rfl rfl 18 (lbz rfl) (hts _ q_648) (fun _ h9 => h9) rfl (aAa 18 (lbz rfl)) rfl rfl (lbz rfl) aTS.2.2.2.2.1 (fun H locs hP hD hS => ?_)
          have hPD := PDw (ws' := (aHG cI cC cZ cB cJ a_m nY sJ eG iY lY jR jW jZ jO oQ bR aY jQ gY iJ mQ lJ jA bG mK jB mW mJ eJ dG bT aG jC bL bY jD mLn oF aEp dQ aJ aB bW bZ aR aE bI aW bU fJ dO bM bQ bO jY oX m_x gR pW nG oO qO qQ)) hP hD rfl
          have hP := hPD.1
          have hD := hPD.2
          refine lv_aload_n hx hb aTS.2.2.2.2.2.1 rfl (lv_at hl 1 rfl) ?_
          refine lv_iload_n hx hb aTS.2.2.2.2.2.2.1 rfl (lv_at hl 2 rfl) ?_
          refine lv_iconst (v := 1) hx hb aTS.2.2.2.2.2.2.2.1 aDx ?_
          refine lv_iadd hx hb aTS.2.2.2.2.2.2.2.2.1 ?_
          refine lv_topi (fun aIQ ev_13 => ?_)
          have hp := hp aIQ ev_13
          have hm := mgk (wc := (aHG cI cC cZ cB cJ a_m nY sJ eG iY lY jR jW jZ jO oQ bR aY jQ gY iJ mQ lJ jA bG mK jB mW mJ eJ dG bT aG jC bL bY jD mLn oF aEp dQ aJ aB bW bZ aR aE bI aW bU fJ dO bM bQ bO jY oX m_x gR pW nG oO qO qQ)) hP aRe 8 rfl rfl rfl
          refine yW hP hD hS hA (yS aRe) (aAi aRe) hm.1 hm.2 (aAk _) (zW _) (zF (As := [.int aIQ]) (rest := []) C0 hP hD hS (yS aRe) hm.1 (aAl _) 0 10 rfl rfl (hH dC dI cI cC cZ cB cJ a_m nY sJ eG iY lY jR jW jZ jO oQ bR aY jQ gY iJ mQ lJ jA bG mK jB mW mJ eJ dG H.size aIQ bT aG jC bL bY jD mLn oF aEp dQ aJ aB bW bZ aR aE bI aW bU fJ dO bM bQ bO jY oX m_x gR pW nG oO qO qQ _ hp) q_716 q_719 q_717 q_718 aBL h_X10_held rfl rfl ⟨(show 6 * rn + 1 <= 6 * rn + 3 by omega), (show 8 + (3 + 11) + (200 * rn - 65) <= 200 * rn + 64 by omega)⟩ rfl rfl hl.1 rfl (lv_room (lbz rfl)) aTS.2.2.2.2.2.2.2.2.2.1 ⟨Nat.zero_le _, Nat.zero_le _⟩) (fun r_14 u H locs hp hP hD hS => ?_)
          obtain ⟨m_at_15, m_wrong_16⟩ := u
          have hPD := PDm (ws' := (aHG cI cC cZ cB cJ a_m nY sJ eG iY lY jR jW jZ jO oQ bR aY jQ gY iJ mQ lJ jA bG mK jB mW mJ eJ dG bT aG jC bL bY jD mLn oF m_at_15 m_wrong_16 aJ aB bW bZ aR aE bI aW bU fJ dO bM bQ bO jY oX m_x gR pW nG oO qO qQ)) hP hD 8 rfl rfl rfl
          have hP := hPD.1
          have hD := hPD.2
          refine lv_istore_n (lv' := [(3, .int r_14), (2, .int r_4), (0, .ref a_m), (1, .int p0)]) hx hb aTS.2.2.2.2.2.2.2.2.2.2.1 rfl hl (by decide) rfl (fun ls hl => ?_)
          refine lv_aload_n hx hb aTS.2.2.2.2.2.2.2.2.2.2.2.1 rfl (lv_at hl 2 rfl) ?_
          refine lv_bipush (v := 41) hx hb aTS.2.2.2.2.2.2.2.2.2.2.2.2.1 bp_41 ?_
          have hm := mgk (wc := (wd_X10_need cI cC cZ cB cJ a_m nY sJ eG iY lY jR jW jZ jO oQ bR aY jQ gY iJ mQ lJ jA bG mK jB mW mJ eJ dG bT aG jC bL bY jD mLn oF m_at_15 m_wrong_16 aJ aB bW bZ aR aE bI aW bU fJ dO bM bQ bO jY oX qO qQ)) hP aLf 8 rfl rfl rfl
          refine aBn hP hD hS hA (yS aLf) (aAi aLf) hm.1 hm.2 (aAk _) (zW _) (zF (As := [.int 41]) (rest := []) C0 hP hD hS (yS aLf) hm.1 (aAl _) 0 10 rfl rfl (c_X10_need l dC dI cI cC cZ cB cJ a_m nY sJ eG iY lY jR jW jZ jO oQ bR aY jQ gY iJ mQ lJ jA bG mK jB mW mJ eJ dG H.size 41 bT aG jC bL bY jD mLn oF m_at_15 m_wrong_16 aJ aB bW bZ aR aE bI aW bU fJ dO bM bQ bO jY oX qO qQ _ hp) q_673 q_676 q_674 q_675 aBL h_X10_need rfl rfl ⟨(show 2 + 1 <= 6 * rn + 3 by omega), (show 8 + (2 + 11) + (41) <= 200 * rn + 64 by omega)⟩ rfl rfl hl.1 rfl (lv_room (lbz rfl)) aTS.2.2.2.2.2.2.2.2.2.2.2.2.2.1 ⟨Nat.zero_le _, Nat.zero_le _⟩) (fun u H locs hp hP hD hS => ?_)
          obtain ⟨m_at_17, m_wrong_18⟩ := u
          have hPD := PDm (ws' := (aHG cI cC cZ cB cJ a_m nY sJ eG iY lY jR jW jZ jO oQ bR aY jQ gY iJ mQ lJ jA bG mK jB mW mJ eJ dG bT aG jC bL bY jD mLn oF m_at_17 m_wrong_18 aJ aB bW bZ aR aE bI aW bU fJ dO bM bQ bO jY oX m_x gR pW nG oO qO qQ)) hP hD 8 rfl rfl rfl
          have hP := hPD.1
          have hD := hPD.2
          refine lv_iload_n hx hb aTS.2.2.2.2.2.2.2.2.2.2.2.2.2.2.1 rfl (lv_at hl 0 rfl) ?_
          exact W.iret (v := r_14) hx hb hr (fun t ht hW => ⟨⟨r_14, (m_at_17, m_wrong_18), rfl, hp, by rw [ht]; exact hP, va_K.moved hW.alike hK, hD⟩, hS.F ht⟩) hS.2.2 aTS.2.2.2.2.2.2.2.2.2.2.2.2.2.2.2
    · have hp := hp.2 hc
      refine lv_iconst (v := 0) hx hb aTR.2.2.2.2.1 aCi ?_
      exact W.iret (v := 0) hx hb hr (fun t ht hW => ⟨⟨0, (aQ4, dQ), rfl, hp, by rw [ht]; exact hP, va_K.moved hW.alike hK, hD⟩, hS.F ht⟩) hS.2.2 aTR.2.2.2.2.2.1
  · have hp := hp.2 hc
    refine lv_aload_n hx hb eX10_thing_0.2.2.2.2.1 rfl (lv_at hl 0 rfl) ?_
    refine lv_iload_n hx hb eX10_thing_0.2.2.2.2.2.1 rfl (lv_at hl 1 rfl) ?_
    have hm := mgk (wc := (aHG cI cC cZ cB cJ a_m nY sJ eG iY lY jR jW jZ jO oQ bR aY jQ gY iJ mQ lJ jA bG mK jB mW mJ eJ dG bT aG jC bL bY jD mLn oF aQ4 dQ aJ aB bW bZ aR aE bI aW bU fJ dO bM bQ bO jY oX m_x gR pW nG oO qO qQ)) hP aRe 8 rfl rfl rfl
    refine yW hP hD hS hA (yS aRe) (aAi aRe) hm.1 hm.2 (aAk _) (zW _) (zF (As := [.int p0]) (rest := []) C0 hP hD hS (yS aRe) hm.1 (aAl _) 0 10 rfl rfl (hT dC dI cI cC cZ cB cJ a_m nY sJ eG iY lY jR jW jZ jO oQ bR aY jQ gY iJ mQ lJ jA bG mK jB mW mJ eJ dG H.size p0 bT aG jC bL bY jD mLn oF aQ4 dQ aJ aB bW bZ aR aE bI aW bU fJ dO bM bQ bO jY oX m_x gR pW nG oO qO qQ _ hp) q_720 q_723 q_721 q_722 aBL h_X10_thing rfl rfl ⟨(show 6 * rn - 3 + 1 <= 6 * rn + 3 by omega), (show 8 + (4 + 11) + (200 * rn - 136) <= 200 * rn + 64 by omega)⟩ rfl rfl hl.1 rfl (lv_room (lbz rfl)) eX10_thing_0.2.2.2.2.2.2.1 ⟨Nat.zero_le _, Nat.zero_le _⟩) (fun r_19 u H locs hp hP hD hS => ?_)
    obtain ⟨m_at_20, m_wrong_21⟩ := u
    have hPD := PDm (ws' := (aHG cI cC cZ cB cJ a_m nY sJ eG iY lY jR jW jZ jO oQ bR aY jQ gY iJ mQ lJ jA bG mK jB mW mJ eJ dG bT aG jC bL bY jD mLn oF m_at_20 m_wrong_21 aJ aB bW bZ aR aE bI aW bU fJ dO bM bQ bO jY oX m_x gR pW nG oO qO qQ)) hP hD 8 rfl rfl rfl
    have hP := hPD.1
    have hD := hPD.2
    refine lv_ineg hx hb eX10_thing_0.2.2.2.2.2.2.2 ?_
    exact W.iret (v := -r_19) hx hb hr (fun t ht hW => ⟨⟨-r_19, (m_at_20, m_wrong_21), rfl, hp, by rw [ht]; exact hP, va_K.moved hW.alike hK, hD⟩, hS.F ht⟩) hS.2.2 aTR.1
abbrev aFf (cI cC cZ cB cJ : ClassId) (a_m nY sJ eG iY lY jR jW jZ jO oQ bR aY jQ gY iJ mQ lJ jA bG mK jB mW mJ eJ dG : Nat) (bT aG jC bL bY : Int32) (jD : Nat) (mLn oF rP dQ aJ aB bW bZ aR aE bI aW bU fJ dO bM bQ bO jY oX : Int32) (m_x gR pW nG oO qO qQ : Nat -> Int32) : va_W := [(a_m, .inr (10, [.ref nY, .int bT, .ref sJ, .ref eG, .ref iY, .ref lY, .int aG, .ref jR, .ref jW, .ref jZ, .ref jO, .int jC, .ref oQ, .int bL, .int bY, rdv jO jQ jD, .int mLn, .int oF, .int rP, .int dQ, .ref bR, .ref aY, .int aJ, .int aB, .ref jQ, .int bW, .int bZ, .int aR, .int aE, .int bI, .int aW, .ref gY, .int bU, .ref iJ, .ref mQ, .int fJ, .ref lJ, .int dO, .ref jA, .ref bG, .int bM, .int bQ, .int bO, .ref mK, .ref jB, .ref mW, .int jY, .int oX, .ref mJ, .ref eJ, .ref dG])), (sJ, .inl (cI, 16, .inl m_x)), (eG, .inl (cI, 16, .inl gR)), (iY, .inl (cI, 16, .inl pW)), (jR, .inl (cI, 8, .inl nG)), (jW, .inl (cI, 8, .inl oO)), (jO, .inl (cB, 80, .inl qO)), (jQ, .inl (cB, 40, .inl qQ))]
abbrev q_X10_product (dC : Nat -> ClassId) (dI : Nat -> Nat -> Nat) (cI cC cZ cB cJ : ClassId) (A : Nat -> Prop) (a_m nY sJ eG iY lY jR jW jZ jO oQ bR aY jQ gY iJ mQ lJ jA bG mK jB mW mJ eJ dG : Nat) (bT aG jC bL bY : Int32) (jD : Nat) (mLn oF aJ aB bW bZ aR aE bI aW bU fJ dO bM bQ bO jY oX : Int32) (m_x gR pW nG oO qO qQ : Nat -> Int32) (post : Int32 -> Int32 -> Int32 -> Prop) : Array Value -> State -> Outcome -> State -> Prop := va_Qi (fun (r : Int32) (u : Int32 × Int32) => post r u.1 u.2) (fun u t => gB (dC, dI) (tyl cI cC cZ cB cJ) A (aFf cI cC cZ cB cJ a_m nY sJ eG iY lY jR jW jZ jO oQ bR aY jQ gY iJ mQ lJ jA bG mK jB mW mJ eJ dG bT aG jC bL bY jD mLn oF u.1 u.2 aJ aB bW bZ aR aE bI aW bU fJ dO bM bQ bO jY oX m_x gR pW nG oO qO qQ) t) A
abbrev rm_X10_product (rn : Nat) : Room := { frames := 6 * rn + 4, cells := 0, slots := 0, locals := 200 * rn + 87 }
section S_X10_product
variable {p : Program} {l : Launch} {e : Env} {s : State} {m : MethodId} {args : Array Value} {below : List Frame} {meth : Method} {c : Code} {dC : Nat -> ClassId} {dI : Nat -> Nat -> Nat} {cI cC cZ cB cJ : ClassId} {A : Nat -> Prop} {a_m nY sJ eG iY lY jR jW jZ jO oQ bR aY jQ gY iJ mQ lJ jA bG mK jB mW mJ eJ dG : Nat} {bT aG jC bL bY : Int32} {jD : Nat} {mLn oF aJ aB bW bZ aR aE bI aW bU fJ dO bM bQ bO jY oX : Int32} {m_x gR pW nG oO qO qQ : Nat -> Int32} {post : Int32 -> Int32 -> Int32 -> Prop} {rn : Nat} {WT WH : aOw}
def aNM (WT WH : aOw) (post : Int32 -> Int32 -> Int32 -> Prop) (K6 : Int32 -> Int32 -> Int32 -> Int32 -> Prop) (jD : Nat) (mLn oF bZ aR aE bI aW : Int32) (m_x gR pW nG oO qO qQ : Nat -> Int32) (x1 k0 rP dQ : Int32) : Prop := K6 x1 k0 rP dQ
set_option maxHeartbeats 4000000 in
set_option maxRecDepth 100000 in
theorem ks_X10_product_87 (C0 : gc aDM (some .int) 5 zX (dC, dI) (tyl cI cC cZ cB cJ) A p s m args meth c) (hT : aR8 l WT (6 * rn - 3) (200 * rn - 136)) (hH : aVV l WH (6 * rn) (200 * rn - 65)) {K6 : Int32 -> Int32 -> Int32 -> Int32 -> Prop} (hK6 : ∀ (x1 : Int32) (x2 : Int32) (rP : Int32) (dQ : Int32) (H : Heap) (locs : List Loc) (ls : Array Slot), K6 x1 x2 rP dQ -> va_P (dC, dI) classes (aFf cI cC cZ cB cJ a_m nY sJ eG iY lY jR jW jZ jO oQ bR aY jQ gY iJ mQ lJ jA bG mK jB mW mJ eJ dG bT aG jC bL bY jD mLn oF rP dQ aJ aB bW bZ aR aE bI aW bU fJ dO bM bQ bO jY oX m_x gR pW nG oO qO qQ) H -> va_D A (aFf cI cC cZ cB cJ a_m nY sJ eG iY lY jR jW jZ jO oQ bR aY jQ gY iJ mQ lJ jA bG mK jB mW mJ eJ dG bT aG jC bL bY jD mLn oF rP dQ aJ aB bW bZ aR aE bI aW bU fJ dO bM bQ bO jY oX m_x gR pW nG oO qO qQ) -> va_S A s.heap H locs -> lv_has ls 5 [(0, .ref a_m), (1, .int x1), (2, .int x2)] -> W p l e (rm_X10_product rn) s m args below meth c H locs 0 0 (MQ below (q_X10_product dC dI cI cC cZ cB cJ A a_m nY sJ eG iY lY jR jW jZ jO oQ bR aY jQ gY iJ mQ lJ jA bG mK jB mW mJ eJ dG bT aG jC bL bY jD mLn oF aJ aB bW bZ aR aE bI aW bU fJ dO bM bQ bO jY oX m_x gR pW nG oO qO qQ post) args s 0 0 A) (F0 m 6 ls [])) : ∀ (x1 k0 rP dQ : Int32) (H : Heap) (locs : List Loc) (ls : Array Slot), (aNM WT WH post K6 jD mLn oF bZ aR aE bI aW m_x gR pW nG oO qO qQ) x1 k0 rP dQ -> va_P (dC, dI) classes (aFf cI cC cZ cB cJ a_m nY sJ eG iY lY jR jW jZ jO oQ bR aY jQ gY iJ mQ lJ jA bG mK jB mW mJ eJ dG bT aG jC bL bY jD mLn oF rP dQ aJ aB bW bZ aR aE bI aW bU fJ dO bM bQ bO jY oX m_x gR pW nG oO qO qQ) H -> va_D A (aFf cI cC cZ cB cJ a_m nY sJ eG iY lY jR jW jZ jO oQ bR aY jQ gY iJ mQ lJ jA bG mK jB mW mJ eJ dG bT aG jC bL bY jD mLn oF rP dQ aJ aB bW bZ aR aE bI aW bU fJ dO bM bQ bO jY oX m_x gR pW nG oO qO qQ) -> va_S A s.heap H locs -> lv_has ls 5 [(0, .ref a_m), (1, .int x1)] -> W p l e (rm_X10_product rn) s m args below meth c H locs 0 0 (MQ below (q_X10_product dC dI cI cC cZ cB cJ A a_m nY sJ eG iY lY jR jW jZ jO oQ bR aY jQ gY iJ mQ lJ jA bG mK jB mW mJ eJ dG bT aG jC bL bY jD mLn oF aJ aB bW bZ aR aE bI aW bU fJ dO bM bQ bO jY oX m_x gR pW nG oO qO qQ post) args s 0 0 A) (F0 m 87 ls [.int k0]) := by
  obtain ⟨hx, hb, hr, hml, hown, hts, hlocks, hA, hK, hN, tL, tM, hZL, hTL, hZM, hTM, hZX⟩ := id C0
  intro x1 k0 rP dQ H locs ls hp hP hD hS hl
  unfold aNM at hp
  refine lv_istore_n (lv' := [(2, .int k0), (0, .ref a_m), (1, .int x1)]) hx hb aNv.2.2.2.2.2.2.2.2.2.2.2.2.2.2.1 rfl hl (by decide) rfl (fun ls hl => ?_)
  refine lv_goto (tgt := 6) hx hb aNv.2.2.2.2.2.2.2.2.2.2.2.2.2.2.2 (by decide) ?_
  exact hK6 x1 k0 rP dQ H locs ls hp hP hD hS (lv_sub hl [1, 2, 0] rfl)
def ws_X10_product_45 (WT WH : aOw) (post : Int32 -> Int32 -> Int32 -> Prop) (K6 : Int32 -> Int32 -> Int32 -> Int32 -> Prop) (jD : Nat) (mLn oF bZ aR aE bI aW : Int32) (m_x gR pW nG oO qO qQ : Nat -> Int32) (x1 x2 k0 rP dQ : Int32) : Prop := ∀ v_7 : Int32, v_7 = rP + 1 -> wp_X10_thing WT WH (fun r_8 aIj aEq => (k0 = 0 -> (¬ r_8 = 0 -> ¬ r_8 = 0 /\ (∀ aGH : Int32, aGH = x2 / r_8 -> aNM WT WH post K6 jD mLn oF bZ aR aE bI aW m_x gR pW nG oO qO qQ x1 aGH aIj aEq)) /\ (r_8 = 0 -> aNM WT WH post K6 jD mLn oF bZ aR aE bI aW m_x gR pW nG oO qO qQ x1 0 aIj aEq)) /\ (¬ k0 = 0 -> ∀ aEp : Int32, aEp = x2 * r_8 -> aNM WT WH post K6 jD mLn oF bZ aR aE bI aW m_x gR pW nG oO qO qQ x1 aEp aIj aEq)) x1 jD mLn oF v_7 dQ bZ aR aE bI aW m_x gR pW nG oO qO qQ
set_option maxHeartbeats 4000000 in
set_option maxRecDepth 100000 in
theorem ks_X10_product_45 (C0 : gc aDM (some .int) 5 zX (dC, dI) (tyl cI cC cZ cB cJ) A p s m args meth c) (hT : aR8 l WT (6 * rn - 3) (200 * rn - 136)) (hH : aVV l WH (6 * rn) (200 * rn - 65)) {K6 : Int32 -> Int32 -> Int32 -> Int32 -> Prop} (hK6 : ∀ (x1 : Int32) (x2 : Int32) (rP : Int32) (dQ : Int32) (H : Heap) (locs : List Loc) (ls : Array Slot), K6 x1 x2 rP dQ -> va_P (dC, dI) classes (aFf cI cC cZ cB cJ a_m nY sJ eG iY lY jR jW jZ jO oQ bR aY jQ gY iJ mQ lJ jA bG mK jB mW mJ eJ dG bT aG jC bL bY jD mLn oF rP dQ aJ aB bW bZ aR aE bI aW bU fJ dO bM bQ bO jY oX m_x gR pW nG oO qO qQ) H -> va_D A (aFf cI cC cZ cB cJ a_m nY sJ eG iY lY jR jW jZ jO oQ bR aY jQ gY iJ mQ lJ jA bG mK jB mW mJ eJ dG bT aG jC bL bY jD mLn oF rP dQ aJ aB bW bZ aR aE bI aW bU fJ dO bM bQ bO jY oX m_x gR pW nG oO qO qQ) -> va_S A s.heap H locs -> lv_has ls 5 [(0, .ref a_m), (1, .int x1), (2, .int x2)] -> W p l e (rm_X10_product rn) s m args below meth c H locs 0 0 (MQ below (q_X10_product dC dI cI cC cZ cB cJ A a_m nY sJ eG iY lY jR jW jZ jO oQ bR aY jQ gY iJ mQ lJ jA bG mK jB mW mJ eJ dG bT aG jC bL bY jD mLn oF aJ aB bW bZ aR aE bI aW bU fJ dO bM bQ bO jY oX m_x gR pW nG oO qO qQ post) args s 0 0 A) (F0 m 6 ls [])) : ∀ (x1 x2 k0 rP dQ : Int32) (H : Heap) (locs : List Loc) (ls : Array Slot), (ws_X10_product_45 WT WH post K6 jD mLn oF bZ aR aE bI aW m_x gR pW nG oO qO qQ) x1 x2 k0 rP dQ -> va_P (dC, dI) classes (aFf cI cC cZ cB cJ a_m nY sJ eG iY lY jR jW jZ jO oQ bR aY jQ gY iJ mQ lJ jA bG mK jB mW mJ eJ dG bT aG jC bL bY jD mLn oF rP dQ aJ aB bW bZ aR aE bI aW bU fJ dO bM bQ bO jY oX m_x gR pW nG oO qO qQ) H -> va_D A (aFf cI cC cZ cB cJ a_m nY sJ eG iY lY jR jW jZ jO oQ bR aY jQ gY iJ mQ lJ jA bG mK jB mW mJ eJ dG bT aG jC bL bY jD mLn oF rP dQ aJ aB bW bZ aR aE bI aW bU fJ dO bM bQ bO jY oX m_x gR pW nG oO qO qQ) -> va_S A s.heap H locs -> lv_has ls 5 [(0, .ref a_m), (1, .int x1), (2, .int x2)] -> W p l e (rm_X10_product rn) s m args below meth c H locs 0 0 (MQ below (q_X10_product dC dI cI cC cZ cB cJ A a_m nY sJ eG iY lY jR jW jZ jO oQ bR aY jQ gY iJ mQ lJ jA bG mK jB mW mJ eJ dG bT aG jC bL bY jD mLn oF aJ aB bW bZ aR aE bI aW bU fJ dO bM bQ bO jY oX m_x gR pW nG oO qO qQ post) args s 0 0 A) (F0 m 45 ls [.int k0]) := by
  obtain ⟨hx, hb, hr, hml, hown, hts, hlocks, hA, hK, hN, tL, tM, hZL, hTL, hZM, hTM, hZX⟩ := id C0
  intro x1 x2 k0 rP dQ H locs ls hp hP hD hS hl
  unfold ws_X10_product_45 at hp
  refine lv_istore_n (lv' := [(3, .int k0), (0, .ref a_m), (1, .int x1), (2, .int x2)]) hx hb aNu.2.2.2.2.2.2.1 rfl hl (by decide) rfl (fun ls hl => ?_)
  refine lv_aload_n hx hb aNu.2.2.2.2.2.2.2.1 rfl (lv_at hl 1 rfl) ?_
  refine lv_dup hx hb aNu.2.2.2.2.2.2.2.2.1 rfl ?_
  refine va_get (D := (dC, dI)) (ci := 10) (v := .int rP) (C := zX) (T := aBe) (N := 51) hx hb hts aAt hown hK hP 0 rfl rfl 18 (lbz rfl) (hts _ q_648) (fun _ h9 => h9) rfl aNu.2.2.2.2.2.2.2.2.2.1 ?_
  refine lv_iconst (v := 1) hx hb aNu.2.2.2.2.2.2.2.2.2.2.1 aDx ?_
  refine lv_iadd hx hb aNu.2.2.2.2.2.2.2.2.2.2.2.1 ?_
  refine lv_topi (fun v_7 ev_7 => ?_)
  have hp := hp v_7 ev_7
  refine va_put (D := (dC, dI)) (ci := 10) (v := .int v_7) (ty := .int) (C := zX) (T := aBe) (N := 51) hx hb hts aAt aD2 aAa aEC hown hK hP hD hS 0 rfl rfl 18 (lbz rfl) (hts _ q_648) (fun _ h9 => h9) rfl (aAa 18 (lbz rfl)) rfl rfl (lbz rfl) aNu.2.2.2.2.2.2.2.2.2.2.2.2.1 (fun H locs hP hD hS => ?_)
  have hPD := PDw (ws' := (aFf cI cC cZ cB cJ a_m nY sJ eG iY lY jR jW jZ jO oQ bR aY jQ gY iJ mQ lJ jA bG mK jB mW mJ eJ dG bT aG jC bL bY jD mLn oF v_7 dQ aJ aB bW bZ aR aE bI aW bU fJ dO bM bQ bO jY oX m_x gR pW nG oO qO qQ)) hP hD rfl
  have hP := hPD.1
  have hD := hPD.2
  refine lv_aload_n hx hb aNu.2.2.2.2.2.2.2.2.2.2.2.2.2.1 rfl (lv_at hl 1 rfl) ?_
  refine lv_iload_n hx hb aNu.2.2.2.2.2.2.2.2.2.2.2.2.2.2.1 rfl (lv_at hl 2 rfl) ?_
  have hm := mgk (wc := (aHG cI cC cZ cB cJ a_m nY sJ eG iY lY jR jW jZ jO oQ bR aY jQ gY iJ mQ lJ jA bG mK jB mW mJ eJ dG bT aG jC bL bY jD mLn oF v_7 dQ aJ aB bW bZ aR aE bI aW bU fJ dO bM bQ bO jY oX m_x gR pW nG oO qO qQ)) hP aRe 8 rfl rfl rfl
  refine yW hP hD hS hA (yS aRe) (aAi aRe) hm.1 hm.2 (aAk _) (zW _) (zF (As := [.int x1]) (rest := []) C0 hP hD hS (yS aRe) hm.1 (aAl _) 0 10 rfl rfl (c_X10_thing l rn WT WH hT hH dC dI cI cC cZ cB cJ a_m nY sJ eG iY lY jR jW jZ jO oQ bR aY jQ gY iJ mQ lJ jA bG mK jB mW mJ eJ dG H.size x1 bT aG jC bL bY jD mLn oF v_7 dQ aJ aB bW bZ aR aE bI aW bU fJ dO bM bQ bO jY oX m_x gR pW nG oO qO qQ _ hp) q_720 q_723 q_721 q_722 aBL h_X10_thing rfl rfl ⟨(show 6 * rn + 3 + 1 <= 6 * rn + 4 by omega), (show 8 + (4 + 11) + (200 * rn + 64) <= 200 * rn + 87 by omega)⟩ rfl rfl hl.1 rfl (lv_room (lbz rfl)) aNu.2.2.2.2.2.2.2.2.2.2.2.2.2.2.2 ⟨Nat.zero_le _, Nat.zero_le _⟩) (fun r_8 u H locs hp hP hD hS => ?_)
  obtain ⟨aIj, aEq⟩ := u
  have hPD := PDm (ws' := (aFf cI cC cZ cB cJ a_m nY sJ eG iY lY jR jW jZ jO oQ bR aY jQ gY iJ mQ lJ jA bG mK jB mW mJ eJ dG bT aG jC bL bY jD mLn oF aIj aEq aJ aB bW bZ aR aE bI aW bU fJ dO bM bQ bO jY oX m_x gR pW nG oO qO qQ)) hP hD 8 rfl rfl rfl
  have hP := hPD.1
  have hD := hPD.2
  refine lv_istore (lv' := [(4, .int r_8), (3, .int k0), (0, .ref a_m), (1, .int x1), (2, .int x2)]) hx hb aNv.1 hl (by decide) rfl (fun ls hl => ?_)
  refine lv_iload_n hx hb aNv.2.1 rfl (lv_at hl 1 rfl) ?_
  refine lv_if_eq (tgt := 74) hx hb aNv.2.2.1 (by decide) (fun hc => ?_) (fun hc => ?_)
  · have hp := hp.1 hc
    refine lv_iload hx hb aNv.2.2.2.2.2.2.2.1 (lv_at hl 0 rfl) ?_
    refine lv_if_ne (tgt := 83) hx hb aNv.2.2.2.2.2.2.2.2.1 (by decide) (fun hc => ?_) (fun hc => ?_)
    · have hp := hp.1 hc
      refine lv_iload_n hx hb aNv.2.2.2.2.2.2.2.2.2.2.2.1 rfl (lv_at hl 4 rfl) ?_
      refine lv_iload hx hb aNv.2.2.2.2.2.2.2.2.2.2.2.2.1 (lv_at hl 0 rfl) ?_
      have hne := hp.1
      have hp := hp.2
      refine lv_idiv hx hb aNv.2.2.2.2.2.2.2.2.2.2.2.2.2.1 hne ?_
      refine lv_topi (fun aGH ev_11 => ?_)
      have hp := hp aGH ev_11
      exact ks_X10_product_87 C0 hT hH hK6 x1 aGH aIj aEq H locs ls hp hP hD hS (lv_sub hl [2, 3] rfl)
    · have hp := hp.2 hc
      refine lv_iconst (v := 0) hx hb aNv.2.2.2.2.2.2.2.2.2.1 aCi ?_
      refine lv_goto (tgt := 87) hx hb aNv.2.2.2.2.2.2.2.2.2.2.1 (by decide) ?_
      exact ks_X10_product_87 C0 hT hH hK6 x1 0 aIj aEq H locs ls hp hP hD hS (lv_sub hl [2, 3] rfl)
  · have hp := hp.2 hc
    refine lv_iload_n hx hb aNv.2.2.2.1 rfl (lv_at hl 4 rfl) ?_
    refine lv_iload hx hb aNv.2.2.2.2.1 (lv_at hl 0 rfl) ?_
    refine lv_imul hx hb aNv.2.2.2.2.2.1 ?_
    refine lv_topi (fun aEp ev_12 => ?_)
    have hp := hp aEp ev_12
    refine lv_goto (tgt := 87) hx hb aNv.2.2.2.2.2.2.1 (by decide) ?_
    exact ks_X10_product_87 C0 hT hH hK6 x1 aEp aIj aEq H locs ls hp hP hD hS (lv_sub hl [2, 3] rfl)
def ws_X10_product_31 (WT WH : aOw) (post : Int32 -> Int32 -> Int32 -> Prop) (K6 : Int32 -> Int32 -> Int32 -> Int32 -> Prop) (jD : Nat) (mLn oF bZ aR aE bI aW : Int32) (m_x gR pW nG oO qO qQ : Nat -> Int32) (x1 x2 rP dQ : Int32) : Prop := aPe (fun r_6 => (¬ r_6 = 42 -> ws_X10_product_45 WT WH post K6 jD mLn oF bZ aR aE bI aW m_x gR pW nG oO qO qQ x1 x2 0 rP dQ) /\ (r_6 = 42 -> ws_X10_product_45 WT WH post K6 jD mLn oF bZ aR aE bI aW m_x gR pW nG oO qO qQ x1 x2 1 rP dQ)) jD mLn oF rP qO qQ
set_option maxHeartbeats 4000000 in
set_option maxRecDepth 100000 in
theorem ks_X10_product_31 (C0 : gc aDM (some .int) 5 zX (dC, dI) (tyl cI cC cZ cB cJ) A p s m args meth c) (hT : aR8 l WT (6 * rn - 3) (200 * rn - 136)) (hH : aVV l WH (6 * rn) (200 * rn - 65)) {K6 : Int32 -> Int32 -> Int32 -> Int32 -> Prop} (hK6 : ∀ (x1 : Int32) (x2 : Int32) (rP : Int32) (dQ : Int32) (H : Heap) (locs : List Loc) (ls : Array Slot), K6 x1 x2 rP dQ -> va_P (dC, dI) classes (aFf cI cC cZ cB cJ a_m nY sJ eG iY lY jR jW jZ jO oQ bR aY jQ gY iJ mQ lJ jA bG mK jB mW mJ eJ dG bT aG jC bL bY jD mLn oF rP dQ aJ aB bW bZ aR aE bI aW bU fJ dO bM bQ bO jY oX m_x gR pW nG oO qO qQ) H -> va_D A (aFf cI cC cZ cB cJ a_m nY sJ eG iY lY jR jW jZ jO oQ bR aY jQ gY iJ mQ lJ jA bG mK jB mW mJ eJ dG bT aG jC bL bY jD mLn oF rP dQ aJ aB bW bZ aR aE bI aW bU fJ dO bM bQ bO jY oX m_x gR pW nG oO qO qQ) -> va_S A s.heap H locs -> lv_has ls 5 [(0, .ref a_m), (1, .int x1), (2, .int x2)] -> W p l e (rm_X10_product rn) s m args below meth c H locs 0 0 (MQ below (q_X10_product dC dI cI cC cZ cB cJ A a_m nY sJ eG iY lY jR jW jZ jO oQ bR aY jQ gY iJ mQ lJ jA bG mK jB mW mJ eJ dG bT aG jC bL bY jD mLn oF aJ aB bW bZ aR aE bI aW bU fJ dO bM bQ bO jY oX m_x gR pW nG oO qO qQ post) args s 0 0 A) (F0 m 6 ls [])) : ∀ (x1 x2 rP dQ : Int32) (H : Heap) (locs : List Loc) (ls : Array Slot), (ws_X10_product_31 WT WH post K6 jD mLn oF bZ aR aE bI aW m_x gR pW nG oO qO qQ) x1 x2 rP dQ -> va_P (dC, dI) classes (aFf cI cC cZ cB cJ a_m nY sJ eG iY lY jR jW jZ jO oQ bR aY jQ gY iJ mQ lJ jA bG mK jB mW mJ eJ dG bT aG jC bL bY jD mLn oF rP dQ aJ aB bW bZ aR aE bI aW bU fJ dO bM bQ bO jY oX m_x gR pW nG oO qO qQ) H -> va_D A (aFf cI cC cZ cB cJ a_m nY sJ eG iY lY jR jW jZ jO oQ bR aY jQ gY iJ mQ lJ jA bG mK jB mW mJ eJ dG bT aG jC bL bY jD mLn oF rP dQ aJ aB bW bZ aR aE bI aW bU fJ dO bM bQ bO jY oX m_x gR pW nG oO qO qQ) -> va_S A s.heap H locs -> lv_has ls 5 [(0, .ref a_m), (1, .int x1), (2, .int x2)] -> W p l e (rm_X10_product rn) s m args below meth c H locs 0 0 (MQ below (q_X10_product dC dI cI cC cZ cB cJ A a_m nY sJ eG iY lY jR jW jZ jO oQ bR aY jQ gY iJ mQ lJ jA bG mK jB mW mJ eJ dG bT aG jC bL bY jD mLn oF aJ aB bW bZ aR aE bI aW bU fJ dO bM bQ bO jY oX m_x gR pW nG oO qO qQ post) args s 0 0 A) (F0 m 31 ls []) := by
  obtain ⟨hx, hb, hr, hml, hown, hts, hlocks, hA, hK, hN, tL, tM, hZL, hTL, hZM, hTM, hZX⟩ := id C0
  intro x1 x2 rP dQ H locs ls hp hP hD hS hl
  unfold ws_X10_product_31 at hp
  refine lv_aload_n hx hb aQQ.2.2.2.2.2.2.2.2.2.2.2.2.2.2.2 rfl (lv_at hl 0 rfl) ?_
  have hm := mgk (wc := (aVg cI cC cZ cB cJ a_m nY sJ eG iY lY jR jW jZ jO oQ bR aY jQ gY iJ mQ lJ jA bG mK jB mW mJ eJ dG bT aG jC bL bY jD mLn oF rP dQ aJ aB bW bZ aR aE bI aW bU fJ dO bM bQ bO jY oX qO qQ)) hP aLf 8 rfl rfl rfl
  refine yW hP hD hS hA (yS aLf) (aAi aLf) hm.1 hm.2 (aAk _) (zW _) (zF (As := []) (rest := []) C0 hP hD hS (yS aLf) hm.1 (aAl _) 0 10 rfl rfl (c_X10_here l dC dI cI cC cZ cB cJ a_m nY sJ eG iY lY jR jW jZ jO oQ bR aY jQ gY iJ mQ lJ jA bG mK jB mW mJ eJ dG H.size bT aG jC bL bY jD mLn oF rP dQ aJ aB bW bZ aR aE bI aW bU fJ dO bM bQ bO jY oX qO qQ _ hp) q_658 q_661 q_659 q_660 aBL h_X10_here rfl rfl ⟨(show 0 + 1 <= 6 * rn + 4 by omega), (show 8 + (1 + 11) + (0) <= 200 * rn + 87 by omega)⟩ rfl rfl hl.1 rfl (lv_room (lbz rfl)) aNu.1 ⟨Nat.zero_le _, Nat.zero_le _⟩) (fun r_6 u H locs hp hP hD hS => ?_)
  have hPD := PDm (ws' := (aFf cI cC cZ cB cJ a_m nY sJ eG iY lY jR jW jZ jO oQ bR aY jQ gY iJ mQ lJ jA bG mK jB mW mJ eJ dG bT aG jC bL bY jD mLn oF rP dQ aJ aB bW bZ aR aE bI aW bU fJ dO bM bQ bO jY oX m_x gR pW nG oO qO qQ)) hP hD 8 rfl rfl rfl
  have hP := hPD.1
  have hD := hPD.2
  refine lv_bipush (v := 42) hx hb aNu.2.1 bp_42 ?_
  refine lv_icmp_ne (tgt := 44) hx hb aNu.2.2.1 (by decide) (fun hc => ?_) (fun hc => ?_)
  · have hp := hp.1 hc
    refine lv_iconst (v := 0) hx hb aNu.2.2.2.2.2.1 aCi ?_
    exact ks_X10_product_45 C0 hT hH hK6 x1 x2 0 rP dQ H locs ls hp hP hD hS (lv_sub hl [0, 1, 2] rfl)
  · have hp := hp.2 hc
    refine lv_iconst (v := 1) hx hb aNu.2.2.2.1 aDx ?_
    refine lv_goto (tgt := 45) hx hb aNu.2.2.2.2.1 (by decide) ?_
    exact ks_X10_product_45 C0 hT hH hK6 x1 x2 1 rP dQ H locs ls hp hP hD hS (lv_sub hl [0, 1, 2] rfl)
def ws_X10_product_6 (WT WH : aOw) (post : Int32 -> Int32 -> Int32 -> Prop) (next : Int32 -> Int32 -> Int32 -> Int32 -> Prop) (jD : Nat) (mLn oF bZ aR aE bI aW : Int32) (m_x gR pW nG oO qO qQ : Nat -> Int32) (x1 x2 rP dQ : Int32) : Prop := aRX (fun r_4 => (r_4 = 0 -> post x2 rP dQ) /\ (¬ r_4 = 0 -> aPe (fun r_5 => (r_5 = 42 -> ws_X10_product_31 WT WH post next jD mLn oF bZ aR aE bI aW m_x gR pW nG oO qO qQ x1 x2 rP dQ) /\ (¬ r_5 = 42 -> aPe (fun r_13 => (¬ r_13 = 47 -> post x2 rP dQ) /\ (r_13 = 47 -> ws_X10_product_31 WT WH post next jD mLn oF bZ aR aE bI aW m_x gR pW nG oO qO qQ x1 x2 rP dQ)) jD mLn oF rP qO qQ)) jD mLn oF rP qO qQ)) dQ
noncomputable def wb_X10_product_6 (WT WH : aOw) (post : Int32 -> Int32 -> Int32 -> Prop) (jD : Nat) (mLn oF bZ aR aE bI aW : Int32) (m_x gR pW nG oO qO qQ : Nat -> Int32) : Nat -> Int32 -> Int32 -> Int32 -> Int32 -> Prop := fun n => Nat.rec (motive := fun _ => Int32 -> Int32 -> Int32 -> Int32 -> Prop) (fun _ _ _ _ => False) (fun _ ih => ws_X10_product_6 WT WH post ih jD mLn oF bZ aR aE bI aW m_x gR pW nG oO qO qQ) n
set_option maxHeartbeats 4000000 in
set_option maxRecDepth 100000 in
theorem ks_X10_product_6 (C0 : gc aDM (some .int) 5 zX (dC, dI) (tyl cI cC cZ cB cJ) A p s m args meth c) (hT : aR8 l WT (6 * rn - 3) (200 * rn - 136)) (hH : aVV l WH (6 * rn) (200 * rn - 65)) {next : Int32 -> Int32 -> Int32 -> Int32 -> Prop} (hKn : ∀ (x1 : Int32) (x2 : Int32) (rP : Int32) (dQ : Int32) (H : Heap) (locs : List Loc) (ls : Array Slot), next x1 x2 rP dQ -> va_P (dC, dI) classes (aFf cI cC cZ cB cJ a_m nY sJ eG iY lY jR jW jZ jO oQ bR aY jQ gY iJ mQ lJ jA bG mK jB mW mJ eJ dG bT aG jC bL bY jD mLn oF rP dQ aJ aB bW bZ aR aE bI aW bU fJ dO bM bQ bO jY oX m_x gR pW nG oO qO qQ) H -> va_D A (aFf cI cC cZ cB cJ a_m nY sJ eG iY lY jR jW jZ jO oQ bR aY jQ gY iJ mQ lJ jA bG mK jB mW mJ eJ dG bT aG jC bL bY jD mLn oF rP dQ aJ aB bW bZ aR aE bI aW bU fJ dO bM bQ bO jY oX m_x gR pW nG oO qO qQ) -> va_S A s.heap H locs -> lv_has ls 5 [(0, .ref a_m), (1, .int x1), (2, .int x2)] -> W p l e (rm_X10_product rn) s m args below meth c H locs 0 0 (MQ below (q_X10_product dC dI cI cC cZ cB cJ A a_m nY sJ eG iY lY jR jW jZ jO oQ bR aY jQ gY iJ mQ lJ jA bG mK jB mW mJ eJ dG bT aG jC bL bY jD mLn oF aJ aB bW bZ aR aE bI aW bU fJ dO bM bQ bO jY oX m_x gR pW nG oO qO qQ post) args s 0 0 A) (F0 m 6 ls [])) : ∀ (x1 x2 rP dQ : Int32) (H : Heap) (locs : List Loc) (ls : Array Slot), (ws_X10_product_6 WT WH post next jD mLn oF bZ aR aE bI aW m_x gR pW nG oO qO qQ) x1 x2 rP dQ -> va_P (dC, dI) classes (aFf cI cC cZ cB cJ a_m nY sJ eG iY lY jR jW jZ jO oQ bR aY jQ gY iJ mQ lJ jA bG mK jB mW mJ eJ dG bT aG jC bL bY jD mLn oF rP dQ aJ aB bW bZ aR aE bI aW bU fJ dO bM bQ bO jY oX m_x gR pW nG oO qO qQ) H -> va_D A (aFf cI cC cZ cB cJ a_m nY sJ eG iY lY jR jW jZ jO oQ bR aY jQ gY iJ mQ lJ jA bG mK jB mW mJ eJ dG bT aG jC bL bY jD mLn oF rP dQ aJ aB bW bZ aR aE bI aW bU fJ dO bM bQ bO jY oX m_x gR pW nG oO qO qQ) -> va_S A s.heap H locs -> lv_has ls 5 [(0, .ref a_m), (1, .int x1), (2, .int x2)] -> W p l e (rm_X10_product rn) s m args below meth c H locs 0 0 (MQ below (q_X10_product dC dI cI cC cZ cB cJ A a_m nY sJ eG iY lY jR jW jZ jO oQ bR aY jQ gY iJ mQ lJ jA bG mK jB mW mJ eJ dG bT aG jC bL bY jD mLn oF aJ aB bW bZ aR aE bI aW bU fJ dO bM bQ bO jY oX m_x gR pW nG oO qO qQ post) args s 0 0 A) (F0 m 6 ls []) := by
  obtain ⟨hx, hb, hr, hml, hown, hts, hlocks, hA, hK, hN, tL, tM, hZL, hTL, hZM, hTM, hZX⟩ := id C0
  intro x1 x2 rP dQ H locs ls hp hP hD hS hl
  unfold ws_X10_product_6 at hp
  refine lv_aload_n hx hb aQQ.2.2.2.2.1 rfl (lv_at hl 0 rfl) ?_
  have hm := mgk (wc := (aVf cI cC cZ cB cJ a_m nY sJ eG iY lY jR jW jZ jO oQ bR aY jQ gY iJ mQ lJ jA bG mK jB mW mJ eJ dG bT aG jC bL bY jD mLn oF rP dQ aJ aB bW bZ aR aE bI aW bU fJ dO bM bQ bO jY oX)) hP mk_206 8 rfl rfl rfl
  refine yW hP hD hS hA (yS mk_206) (aAi mk_206) hm.1 hm.2 (aAk _) (zW _) (zF (As := []) (rest := []) C0 hP hD hS (yS mk_206) hm.1 (aAl _) 0 10 rfl rfl (c_X10_fine l dC dI cI cC cZ cB cJ a_m nY sJ eG iY lY jR jW jZ jO oQ bR aY jQ gY iJ mQ lJ jA bG mK jB mW mJ eJ dG H.size bT aG jC bL bY jD mLn oF rP dQ aJ aB bW bZ aR aE bI aW bU fJ dO bM bQ bO jY oX _ hp) q_650 q_653 q_651 q_652 aBL h_X10_fine rfl rfl ⟨(show 0 + 1 <= 6 * rn + 4 by omega), (show 8 + (1 + 11) + (0) <= 200 * rn + 87 by omega)⟩ rfl rfl hl.1 rfl (lv_room (lbz rfl)) aQQ.2.2.2.2.2.1 ⟨Nat.zero_le _, Nat.zero_le _⟩) (fun r_4 u H locs hp hP hD hS => ?_)
  have hPD := PDm (ws' := (aFf cI cC cZ cB cJ a_m nY sJ eG iY lY jR jW jZ jO oQ bR aY jQ gY iJ mQ lJ jA bG mK jB mW mJ eJ dG bT aG jC bL bY jD mLn oF rP dQ aJ aB bW bZ aR aE bI aW bU fJ dO bM bQ bO jY oX m_x gR pW nG oO qO qQ)) hP hD 8 rfl rfl rfl
  have hP := hPD.1
  have hD := hPD.2
  refine lv_if_eq (tgt := 91) hx hb aQQ.2.2.2.2.2.2.1 (by decide) (fun hc => ?_) (fun hc => ?_)
  · have hp := hp.1 hc
    refine lv_iload_n hx hb eX10_product_91.1 rfl (lv_at hl 2 rfl) ?_
    exact W.iret (v := x2) hx hb hr (fun t ht hW => ⟨⟨x2, (rP, dQ), rfl, hp, by rw [ht]; exact hP, va_K.moved hW.alike hK, hD⟩, hS.F ht⟩) hS.2.2 eX10_product_91.2
  · have hp := hp.2 hc
    refine lv_aload_n hx hb aQQ.2.2.2.2.2.2.2.1 rfl (lv_at hl 0 rfl) ?_
    have hm := mgk (wc := (aVg cI cC cZ cB cJ a_m nY sJ eG iY lY jR jW jZ jO oQ bR aY jQ gY iJ mQ lJ jA bG mK jB mW mJ eJ dG bT aG jC bL bY jD mLn oF rP dQ aJ aB bW bZ aR aE bI aW bU fJ dO bM bQ bO jY oX qO qQ)) hP aLf 8 rfl rfl rfl
    refine yW hP hD hS hA (yS aLf) (aAi aLf) hm.1 hm.2 (aAk _) (zW _) (zF (As := []) (rest := []) C0 hP hD hS (yS aLf) hm.1 (aAl _) 0 10 rfl rfl (c_X10_here l dC dI cI cC cZ cB cJ a_m nY sJ eG iY lY jR jW jZ jO oQ bR aY jQ gY iJ mQ lJ jA bG mK jB mW mJ eJ dG H.size bT aG jC bL bY jD mLn oF rP dQ aJ aB bW bZ aR aE bI aW bU fJ dO bM bQ bO jY oX qO qQ _ hp) q_658 q_661 q_659 q_660 aBL h_X10_here rfl rfl ⟨(show 0 + 1 <= 6 * rn + 4 by omega), (show 8 + (1 + 11) + (0) <= 200 * rn + 87 by omega)⟩ rfl rfl hl.1 rfl (lv_room (lbz rfl)) aQQ.2.2.2.2.2.2.2.2.1 ⟨Nat.zero_le _, Nat.zero_le _⟩) (fun r_5 u H locs hp hP hD hS => ?_)
    have hPD := PDm (ws' := (aFf cI cC cZ cB cJ a_m nY sJ eG iY lY jR jW jZ jO oQ bR aY jQ gY iJ mQ lJ jA bG mK jB mW mJ eJ dG bT aG jC bL bY jD mLn oF rP dQ aJ aB bW bZ aR aE bI aW bU fJ dO bM bQ bO jY oX m_x gR pW nG oO qO qQ)) hP hD 8 rfl rfl rfl
    have hP := hPD.1
    have hD := hPD.2
    refine lv_bipush (v := 42) hx hb aQQ.2.2.2.2.2.2.2.2.2.1 bp_42 ?_
    refine lv_icmp_eq (tgt := 31) hx hb aQQ.2.2.2.2.2.2.2.2.2.2.1 (by decide) (fun hc => ?_) (fun hc => ?_)
    · have hp := hp.1 hc
      exact ks_X10_product_31 C0 hT hH hKn x1 x2 rP dQ H locs ls hp hP hD hS (lv_sub hl [0, 1, 2] rfl)
    · have hp := hp.2 hc
      refine lv_aload_n hx hb aQQ.2.2.2.2.2.2.2.2.2.2.2.1 rfl (lv_at hl 0 rfl) ?_
      have hm := mgk (wc := (aVg cI cC cZ cB cJ a_m nY sJ eG iY lY jR jW jZ jO oQ bR aY jQ gY iJ mQ lJ jA bG mK jB mW mJ eJ dG bT aG jC bL bY jD mLn oF rP dQ aJ aB bW bZ aR aE bI aW bU fJ dO bM bQ bO jY oX qO qQ)) hP aLf 8 rfl rfl rfl
      refine yW hP hD hS hA (yS aLf) (aAi aLf) hm.1 hm.2 (aAk _) (zW _) (zF (As := []) (rest := []) C0 hP hD hS (yS aLf) hm.1 (aAl _) 0 10 rfl rfl (c_X10_here l dC dI cI cC cZ cB cJ a_m nY sJ eG iY lY jR jW jZ jO oQ bR aY jQ gY iJ mQ lJ jA bG mK jB mW mJ eJ dG H.size bT aG jC bL bY jD mLn oF rP dQ aJ aB bW bZ aR aE bI aW bU fJ dO bM bQ bO jY oX qO qQ _ hp) q_658 q_661 q_659 q_660 aBL h_X10_here rfl rfl ⟨(show 0 + 1 <= 6 * rn + 4 by omega), (show 8 + (1 + 11) + (0) <= 200 * rn + 87 by omega)⟩ rfl rfl hl.1 rfl (lv_room (lbz rfl)) aQQ.2.2.2.2.2.2.2.2.2.2.2.2.1 ⟨Nat.zero_le _, Nat.zero_le _⟩) (fun r_13 u H locs hp hP hD hS => ?_)
      have hPD := PDm (ws' := (aFf cI cC cZ cB cJ a_m nY sJ eG iY lY jR jW jZ jO oQ bR aY jQ gY iJ mQ lJ jA bG mK jB mW mJ eJ dG bT aG jC bL bY jD mLn oF rP dQ aJ aB bW bZ aR aE bI aW bU fJ dO bM bQ bO jY oX m_x gR pW nG oO qO qQ)) hP hD 8 rfl rfl rfl
      have hP := hPD.1
      have hD := hPD.2
      refine lv_bipush (v := 47) hx hb aQQ.2.2.2.2.2.2.2.2.2.2.2.2.2.1 bp_47 ?_
      refine lv_icmp_ne (tgt := 91) hx hb aQQ.2.2.2.2.2.2.2.2.2.2.2.2.2.2.1 (by decide) (fun hc => ?_) (fun hc => ?_)
      · have hp := hp.1 hc
        refine lv_iload_n hx hb eX10_product_91.1 rfl (lv_at hl 2 rfl) ?_
        exact W.iret (v := x2) hx hb hr (fun t ht hW => ⟨⟨x2, (rP, dQ), rfl, hp, by rw [ht]; exact hP, va_K.moved hW.alike hK, hD⟩, hS.F ht⟩) hS.2.2 eX10_product_91.2
      · have hp := hp.2 hc
        exact ks_X10_product_31 C0 hT hH hKn x1 x2 rP dQ H locs ls hp hP hD hS (lv_sub hl [0, 1, 2] rfl)
set_option maxHeartbeats 4000000 in
set_option maxRecDepth 100000 in
theorem kb_X10_product_6 (C0 : gc aDM (some .int) 5 zX (dC, dI) (tyl cI cC cZ cB cJ) A p s m args meth c) (hT : aR8 l WT (6 * rn - 3) (200 * rn - 136)) (hH : aVV l WH (6 * rn) (200 * rn - 65)) : ∀ (n : Nat), ∀ (x1 x2 rP dQ : Int32) (H : Heap) (locs : List Loc) (ls : Array Slot), (wb_X10_product_6 WT WH post jD mLn oF bZ aR aE bI aW m_x gR pW nG oO qO qQ n) x1 x2 rP dQ -> va_P (dC, dI) classes (aFf cI cC cZ cB cJ a_m nY sJ eG iY lY jR jW jZ jO oQ bR aY jQ gY iJ mQ lJ jA bG mK jB mW mJ eJ dG bT aG jC bL bY jD mLn oF rP dQ aJ aB bW bZ aR aE bI aW bU fJ dO bM bQ bO jY oX m_x gR pW nG oO qO qQ) H -> va_D A (aFf cI cC cZ cB cJ a_m nY sJ eG iY lY jR jW jZ jO oQ bR aY jQ gY iJ mQ lJ jA bG mK jB mW mJ eJ dG bT aG jC bL bY jD mLn oF rP dQ aJ aB bW bZ aR aE bI aW bU fJ dO bM bQ bO jY oX m_x gR pW nG oO qO qQ) -> va_S A s.heap H locs -> lv_has ls 5 [(0, .ref a_m), (1, .int x1), (2, .int x2)] -> W p l e (rm_X10_product rn) s m args below meth c H locs 0 0 (MQ below (q_X10_product dC dI cI cC cZ cB cJ A a_m nY sJ eG iY lY jR jW jZ jO oQ bR aY jQ gY iJ mQ lJ jA bG mK jB mW mJ eJ dG bT aG jC bL bY jD mLn oF aJ aB bW bZ aR aE bI aW bU fJ dO bM bQ bO jY oX m_x gR pW nG oO qO qQ post) args s 0 0 A) (F0 m 6 ls []) := by
  intro n
  induction n with
  | zero =>
    intro x1 x2 rP dQ H locs ls hp
    exact False.elim hp
  | succ n ih =>
    intro x1 x2 rP dQ H locs ls hp
    exact ks_X10_product_6 C0 hT hH ih x1 x2 rP dQ H locs ls hp
end S_X10_product
def wp_X10_product (WT WH : aOw) (post : Int32 -> Int32 -> Int32 -> Prop) (p0 : Int32) (jD : Nat) (mLn oF rP dQ bZ aR aE bI aW : Int32) (m_x gR pW nG oO qO qQ : Nat -> Int32) : Prop := wp_X10_thing WT WH (fun r_1 aQ4 aHp => ∃ n : Nat, wb_X10_product_6 WT WH post jD mLn oF bZ aR aE bI aW m_x gR pW nG oO qO qQ n p0 r_1 aQ4 aHp) p0 jD mLn oF rP dQ bZ aR aE bI aW m_x gR pW nG oO qO qQ
set_option maxHeartbeats 4000000 in
set_option maxRecDepth 100000 in
theorem c_X10_product (l : Launch) (rn : Nat) (WT WH : aOw) (hT : aR8 l WT (6 * rn - 3) (200 * rn - 136)) (hH : aVV l WH (6 * rn) (200 * rn - 65)) (dC : Nat -> ClassId) (dI : Nat -> Nat -> Nat) (cI cC cZ cB cJ : ClassId) (a_m nY sJ eG iY lY jR jW jZ jO oQ bR aY jQ gY iJ mQ lJ jA bG mK jB mW mJ eJ dG sz : Nat) (p0 bT aG jC bL bY : Int32) (jD : Nat) (mLn oF rP dQ aJ aB bW bZ aR aE bI aW bU fJ dO bM bQ bO jY oX : Int32) (m_x gR pW nG oO qO qQ : Nat -> Int32) (post : Int32 -> Int32 -> Int32 -> Prop) (hw : wp_X10_product WT WH post p0 jD mLn oF rP dQ bZ aR aE bI aW m_x gR pW nG oO qO qQ) : Met l yX10_product (gw yX10_product aDM 5 (some .int)) (rm_X10_product rn) (va_Pc [.ref a_m, .int p0] (gPre (dC, dI) (tyl cI cC cZ cB cJ) (aFf cI cC cZ cB cJ a_m nY sJ eG iY lY jR jW jZ jO oQ bR aY jQ gY iJ mQ lJ jA bG mK jB mW mJ eJ dG bT aG jC bL bY jD mLn oF rP dQ aJ aB bW bZ aR aE bI aW bU fJ dO bM bQ bO jY oX m_x gR pW nG oO qO qQ) sz)) (q_X10_product dC dI cI cC cZ cB cJ (va_A (aFf cI cC cZ cB cJ a_m nY sJ eG iY lY jR jW jZ jO oQ bR aY jQ gY iJ mQ lJ jA bG mK jB mW mJ eJ dG bT aG jC bL bY jD mLn oF rP dQ aJ aB bW bZ aR aE bI aW bU fJ dO bM bQ bO jY oX m_x gR pW nG oO qO qQ) sz) a_m nY sJ eG iY lY jR jW jZ jO oQ bR aY jQ gY iJ mQ lJ jA bG mK jB mW mJ eJ dG bT aG jC bL bY jD mLn oF aJ aB bW bZ aR aE bI aW bU fJ dO bM bQ bO jY oX m_x gR pW nG oO qO qQ post) 0 0 (va_A (aFf cI cC cZ cB cJ a_m nY sJ eG iY lY jR jW jZ jO oQ bR aY jQ gY iJ mQ lJ jA bG mK jB mW mJ eJ dG bT aG jC bL bY jD mLn oF rP dQ aJ aB bW bZ aR aE bI aW bU fJ dO bM bQ bO jY oX m_x gR pW nG oO qO qQ) sz) := by
  refine aBJ (own := zX) (dC, dI) (tyl cI cC cZ cB cJ) (aFf cI cC cZ cB cJ a_m nY sJ eG iY lY jR jW jZ jO oQ bR aY jQ gY iJ mQ lJ jA bG mK jB mW mJ eJ dG bT aG jC bL bY jD mLn oF rP dQ aJ aB bW bZ aR aE bI aW bU fJ dO bM bQ bO jY oX m_x gR pW nG oO qO qQ) sz [.ref a_m, .int p0] (fun A => q_X10_product dC dI cI cC cZ cB cJ A a_m nY sJ eG iY lY jR jW jZ jO oQ bR aY jQ gY iJ mQ lJ jA bG mK jB mW mJ eJ dG bT aG jC bL bY jD mLn oF aJ aB bW bZ aR aE bI aW bU fJ dO bM bQ bO jY oX m_x gR pW nG oO qO qQ post) aFY rfl (lbz rfl) ?_
  intro p e s m args below meth c A H locs ls C0 hP hD hS hl
  have hl : lv_has ls 5 [(0, .ref a_m), (1, .int p0)] := hl
  obtain ⟨hx, hb, hr, hml, hown, hts, hlocks, hA, hK, hN, tL, tM, hZL, hTL, hZM, hTM, hZX⟩ := id C0
  have hp := hw
  unfold wp_X10_product at hp
  refine lv_aload_n hx hb aQQ.1 rfl (lv_at hl 0 rfl) ?_
  refine lv_iload_n hx hb aQQ.2.1 rfl (lv_at hl 1 rfl) ?_
  have hm := mgk (wc := (aHG cI cC cZ cB cJ a_m nY sJ eG iY lY jR jW jZ jO oQ bR aY jQ gY iJ mQ lJ jA bG mK jB mW mJ eJ dG bT aG jC bL bY jD mLn oF rP dQ aJ aB bW bZ aR aE bI aW bU fJ dO bM bQ bO jY oX m_x gR pW nG oO qO qQ)) hP aRe 8 rfl rfl rfl
  refine yW hP hD hS hA (yS aRe) (aAi aRe) hm.1 hm.2 (aAk _) (zW _) (zF (As := [.int p0]) (rest := []) C0 hP hD hS (yS aRe) hm.1 (aAl _) 0 10 rfl rfl (c_X10_thing l rn WT WH hT hH dC dI cI cC cZ cB cJ a_m nY sJ eG iY lY jR jW jZ jO oQ bR aY jQ gY iJ mQ lJ jA bG mK jB mW mJ eJ dG H.size p0 bT aG jC bL bY jD mLn oF rP dQ aJ aB bW bZ aR aE bI aW bU fJ dO bM bQ bO jY oX m_x gR pW nG oO qO qQ _ hp) q_720 q_723 q_721 q_722 aBL h_X10_thing rfl rfl ⟨(show 6 * rn + 3 + 1 <= 6 * rn + 4 by omega), (show 8 + (4 + 11) + (200 * rn + 64) <= 200 * rn + 87 by omega)⟩ rfl rfl hl.1 rfl (lv_room (lbz rfl)) aQQ.2.2.1 ⟨Nat.zero_le _, Nat.zero_le _⟩) (fun r_1 u H locs hp hP hD hS => ?_)
  obtain ⟨aQ4, aHp⟩ := u
  have hPD := PDm (ws' := (aFf cI cC cZ cB cJ a_m nY sJ eG iY lY jR jW jZ jO oQ bR aY jQ gY iJ mQ lJ jA bG mK jB mW mJ eJ dG bT aG jC bL bY jD mLn oF aQ4 aHp aJ aB bW bZ aR aE bI aW bU fJ dO bM bQ bO jY oX m_x gR pW nG oO qO qQ)) hP hD 8 rfl rfl rfl
  have hP := hPD.1
  have hD := hPD.2
  refine lv_istore_n (lv' := [(2, .int r_1), (0, .ref a_m), (1, .int p0)]) hx hb aQQ.2.2.2.1 rfl hl (by decide) rfl (fun ls hl => ?_)
  obtain ⟨n9, hp⟩ := hp
  exact kb_X10_product_6 C0 hT hH n9 p0 r_1 aQ4 aHp H locs ls hp hP hD hS (lv_sub hl [1, 2, 0] rfl)
