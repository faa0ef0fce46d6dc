abbrev aI8 (cI cC cZ cB cJ : ClassId) (a_m nY sJ eG iY lY jR jW jZ jO oQ bR aY jQ gY iJ mQ lJ jA bG mK jB mW mJ eJ dG : Nat) (bT aG jC bL bY : Int32) (jD : Nat) (mLn oF rP dQ aJ aB bW bZ aR aE bI aW bU fJ dO bM bQ bO jY oX : Int32) (m_x gR pW nG oO qO qQ : Nat -> Int32) : va_W := [(a_m, .inr (10, [.ref nY, .int bT, .ref sJ, .ref eG, .ref iY, .ref lY, .int aG, .ref jR, .ref jW, .ref jZ, .ref jO, .int jC, .ref oQ, .int bL, .int bY, rdv jO jQ jD, .int mLn, .int oF, .int rP, .int dQ, .ref bR, .ref aY, .int aJ, .int aB, .ref jQ, .int bW, .int bZ, .int aR, .int aE, .int bI, .int aW, .ref gY, .int bU, .ref iJ, .ref mQ, .int fJ, .ref lJ, .int dO, .ref jA, .ref bG, .int bM, .int bQ, .int bO, .ref mK, .ref jB, .ref mW, .int jY, .int oX, .ref mJ, .ref eJ, .ref dG])), (sJ, .inl (cI, 16, .inl m_x)), (eG, .inl (cI, 16, .inl gR)), (iY, .inl (cI, 16, .inl pW)), (jR, .inl (cI, 8, .inl nG)), (jW, .inl (cI, 8, .inl oO)), (jO, .inl (cB, 80, .inl qO)), (jQ, .inl (cB, 40, .inl qQ))]
abbrev q_X10_sum (dC : Nat -> ClassId) (dI : Nat -> Nat -> Nat) (cI cC cZ cB cJ : ClassId) (A : Nat -> Prop) (a_m nY sJ eG iY lY jR jW jZ jO oQ bR aY jQ gY iJ mQ lJ jA bG mK jB mW mJ eJ dG : Nat) (bT aG jC bL bY : Int32) (jD : Nat) (mLn oF aJ aB bW bZ aR aE bI aW bU fJ dO bM bQ bO jY oX : Int32) (m_x gR pW nG oO qO qQ : Nat -> Int32) (post : Int32 -> Int32 -> Int32 -> Prop) : Array Value -> State -> Outcome -> State -> Prop := va_Qi (fun (r : Int32) (u : Int32 × Int32) => post r u.1 u.2) (fun u t => gB (dC, dI) (tyl cI cC cZ cB cJ) A (aI8 cI cC cZ cB cJ a_m nY sJ eG iY lY jR jW jZ jO oQ bR aY jQ gY iJ mQ lJ jA bG mK jB mW mJ eJ dG bT aG jC bL bY jD mLn oF u.1 u.2 aJ aB bW bZ aR aE bI aW bU fJ dO bM bQ bO jY oX m_x gR pW nG oO qO qQ) t) A
abbrev rm_X10_sum (rn : Nat) : Room := { frames := 6 * rn + 5, cells := 0, slots := 0, locals := 200 * rn + 111 }
section S_X10_sum
variable {p : Program} {l : Launch} {e : Env} {s : State} {m : MethodId} {args : Array Value} {below : List Frame} {meth : Method} {c : Code} {dC : Nat -> ClassId} {dI : Nat -> Nat -> Nat} {cI cC cZ cB cJ : ClassId} {A : Nat -> Prop} {a_m nY sJ eG iY lY jR jW jZ jO oQ bR aY jQ gY iJ mQ lJ jA bG mK jB mW mJ eJ dG : Nat} {bT aG jC bL bY : Int32} {jD : Nat} {mLn oF aJ aB bW bZ aR aE bI aW bU fJ dO bM bQ bO jY oX : Int32} {m_x gR pW nG oO qO qQ : Nat -> Int32} {post : Int32 -> Int32 -> Int32 -> Prop} {rn : Nat} {WT WH : aOw}
def ws_X10_sum_78 (WT WH : aOw) (post : Int32 -> Int32 -> Int32 -> Prop) (K6 : Int32 -> Int32 -> Int32 -> Int32 -> Prop) (jD : Nat) (mLn oF bZ aR aE bI aW : Int32) (m_x gR pW nG oO qO qQ : Nat -> Int32) (x1 k0 rP dQ : Int32) : Prop := K6 x1 k0 rP dQ
set_option maxHeartbeats 4000000 in
set_option maxRecDepth 100000 in
theorem ks_X10_sum_78 (C0 : gc aHh (some .int) 5 zX (dC, dI) (tyl cI cC cZ cB cJ) A p s m args meth c) (hT : aR8 l WT (6 * rn - 3) (200 * rn - 136)) (hH : aVV l WH (6 * rn) (200 * rn - 65)) {K6 : Int32 -> Int32 -> Int32 -> Int32 -> Prop} (hK6 : ∀ (x1 : Int32) (x2 : Int32) (rP : Int32) (dQ : Int32) (H : Heap) (locs : List Loc) (ls : Array Slot), K6 x1 x2 rP dQ -> va_P (dC, dI) classes (aI8 cI cC cZ cB cJ a_m nY sJ eG iY lY jR jW jZ jO oQ bR aY jQ gY iJ mQ lJ jA bG mK jB mW mJ eJ dG bT aG jC bL bY jD mLn oF rP dQ aJ aB bW bZ aR aE bI aW bU fJ dO bM bQ bO jY oX m_x gR pW nG oO qO qQ) H -> va_D A (aI8 cI cC cZ cB cJ a_m nY sJ eG iY lY jR jW jZ jO oQ bR aY jQ gY iJ mQ lJ jA bG mK jB mW mJ eJ dG bT aG jC bL bY jD mLn oF rP dQ aJ aB bW bZ aR aE bI aW bU fJ dO bM bQ bO jY oX m_x gR pW nG oO qO qQ) -> va_S A s.heap H locs -> lv_has ls 5 [(0, .ref a_m), (1, .int x1), (2, .int x2)] -> W p l e (rm_X10_sum rn) s m args below meth c H locs 0 0 (MQ below (q_X10_sum dC dI cI cC cZ cB cJ A a_m nY sJ eG iY lY jR jW jZ jO oQ bR aY jQ gY iJ mQ lJ jA bG mK jB mW mJ eJ dG bT aG jC bL bY jD mLn oF aJ aB bW bZ aR aE bI aW bU fJ dO bM bQ bO jY oX m_x gR pW nG oO qO qQ post) args s 0 0 A) (F0 m 6 ls [])) : ∀ (x1 k0 rP dQ : Int32) (H : Heap) (locs : List Loc) (ls : Array Slot), (ws_X10_sum_78 WT WH post K6 jD mLn oF bZ aR aE bI aW m_x gR pW nG oO qO qQ) x1 k0 rP dQ -> va_P (dC, dI) classes (aI8 cI cC cZ cB cJ a_m nY sJ eG iY lY jR jW jZ jO oQ bR aY jQ gY iJ mQ lJ jA bG mK jB mW mJ eJ dG bT aG jC bL bY jD mLn oF rP dQ aJ aB bW bZ aR aE bI aW bU fJ dO bM bQ bO jY oX m_x gR pW nG oO qO qQ) H -> va_D A (aI8 cI cC cZ cB cJ a_m nY sJ eG iY lY jR jW jZ jO oQ bR aY jQ gY iJ mQ lJ jA bG mK jB mW mJ eJ dG bT aG jC bL bY jD mLn oF rP dQ aJ aB bW bZ aR aE bI aW bU fJ dO bM bQ bO jY oX m_x gR pW nG oO qO qQ) -> va_S A s.heap H locs -> lv_has ls 5 [(0, .ref a_m), (1, .int x1)] -> W p l e (rm_X10_sum rn) s m args below meth c H locs 0 0 (MQ below (q_X10_sum dC dI cI cC cZ cB cJ A a_m nY sJ eG iY lY jR jW jZ jO oQ bR aY jQ gY iJ mQ lJ jA bG mK jB mW mJ eJ dG bT aG jC bL bY jD mLn oF aJ aB bW bZ aR aE bI aW bU fJ dO bM bQ bO jY oX m_x gR pW nG oO qO qQ post) args s 0 0 A) (F0 m 78 ls [.int k0]) := by
  obtain ⟨hx, hb, hr, hml, hown, hts, hlocks, hA, hK, hN, tL, tM, hZL, hTL, hZM, hTM, hZX⟩ := id C0
  intro x1 k0 rP dQ H locs ls hp hP hD hS hl
  unfold ws_X10_sum_78 at hp
  refine lv_istore_n (lv' := [(2, .int k0), (0, .ref a_m), (1, .int x1)]) hx hb bAP.2.2.2.2.2.2.2.2.2.2.1 rfl hl (by decide) rfl (fun ls hl => ?_)
  refine lv_goto (tgt := 6) hx hb bAP.2.2.2.2.2.2.2.2.2.2.2.1 (by decide) ?_
  exact hK6 x1 k0 rP dQ H locs ls hp hP hD hS (lv_sub hl [1, 2, 0] rfl)
def ws_X10_sum_45 (WT WH : aOw) (post : Int32 -> Int32 -> Int32 -> Prop) (K6 : Int32 -> Int32 -> Int32 -> Int32 -> Prop) (jD : Nat) (mLn oF bZ aR aE bI aW : Int32) (m_x gR pW nG oO qO qQ : Nat -> Int32) (x1 x2 k0 rP dQ : Int32) : Prop := ∀ v_7 : Int32, v_7 = rP + 1 -> wp_X10_product WT WH (fun r_8 aIj aEq => (k0 = 0 -> ∀ aGH : Int32, aGH = x2 - r_8 -> ws_X10_sum_78 WT WH post K6 jD mLn oF bZ aR aE bI aW m_x gR pW nG oO qO qQ x1 aGH aIj aEq) /\ (¬ k0 = 0 -> ∀ aEp : Int32, aEp = x2 + r_8 -> ws_X10_sum_78 WT WH post K6 jD mLn oF bZ aR aE bI aW m_x gR pW nG oO qO qQ x1 aEp aIj aEq)) x1 jD mLn oF v_7 dQ bZ aR aE bI aW m_x gR pW nG oO qO qQ
set_option maxHeartbeats 4000000 in
set_option maxRecDepth 100000 in
theorem ks_X10_sum_45 (C0 : gc aHh (some .int) 5 zX (dC, dI) (tyl cI cC cZ cB cJ) A p s m args meth c) (hT : aR8 l WT (6 * rn - 3) (200 * rn - 136)) (hH : aVV l WH (6 * rn) (200 * rn - 65)) {K6 : Int32 -> Int32 -> Int32 -> Int32 -> Prop} (hK6 : ∀ (x1 : Int32) (x2 : Int32) (rP : Int32) (dQ : Int32) (H : Heap) (locs : List Loc) (ls : Array Slot), K6 x1 x2 rP dQ -> va_P (dC, dI) classes (aI8 cI cC cZ cB cJ a_m nY sJ eG iY lY jR jW jZ jO oQ bR aY jQ gY iJ mQ lJ jA bG mK jB mW mJ eJ dG bT aG jC bL bY jD mLn oF rP dQ aJ aB bW bZ aR aE bI aW bU fJ dO bM bQ bO jY oX m_x gR pW nG oO qO qQ) H -> va_D A (aI8 cI cC cZ cB cJ a_m nY sJ eG iY lY jR jW jZ jO oQ bR aY jQ gY iJ mQ lJ jA bG mK jB mW mJ eJ dG bT aG jC bL bY jD mLn oF rP dQ aJ aB bW bZ aR aE bI aW bU fJ dO bM bQ bO jY oX m_x gR pW nG oO qO qQ) -> va_S A s.heap H locs -> lv_has ls 5 [(0, .ref a_m), (1, .int x1), (2, .int x2)] -> W p l e (rm_X10_sum rn) s m args below meth c H locs 0 0 (MQ below (q_X10_sum dC dI cI cC cZ cB cJ A a_m nY sJ eG iY lY jR jW jZ jO oQ bR aY jQ gY iJ mQ lJ jA bG mK jB mW mJ eJ dG bT aG jC bL bY jD mLn oF aJ aB bW bZ aR aE bI aW bU fJ dO bM bQ bO jY oX m_x gR pW nG oO qO qQ post) args s 0 0 A) (F0 m 6 ls [])) : ∀ (x1 x2 k0 rP dQ : Int32) (H : Heap) (locs : List Loc) (ls : Array Slot), (ws_X10_sum_45 WT WH post K6 jD mLn oF bZ aR aE bI aW m_x gR pW nG oO qO qQ) x1 x2 k0 rP dQ -> va_P (dC, dI) classes (aI8 cI cC cZ cB cJ a_m nY sJ eG iY lY jR jW jZ jO oQ bR aY jQ gY iJ mQ lJ jA bG mK jB mW mJ eJ dG bT aG jC bL bY jD mLn oF rP dQ aJ aB bW bZ aR aE bI aW bU fJ dO bM bQ bO jY oX m_x gR pW nG oO qO qQ) H -> va_D A (aI8 cI cC cZ cB cJ a_m nY sJ eG iY lY jR jW jZ jO oQ bR aY jQ gY iJ mQ lJ jA bG mK jB mW mJ eJ dG bT aG jC bL bY jD mLn oF rP dQ aJ aB bW bZ aR aE bI aW bU fJ dO bM bQ bO jY oX m_x gR pW nG oO qO qQ) -> va_S A s.heap H locs -> lv_has ls 5 [(0, .ref a_m), (1, .int x1), (2, .int x2)] -> W p l e (rm_X10_sum rn) s m args below meth c H locs 0 0 (MQ below (q_X10_sum dC dI cI cC cZ cB cJ A a_m nY sJ eG iY lY jR jW jZ jO oQ bR aY jQ gY iJ mQ lJ jA bG mK jB mW mJ eJ dG bT aG jC bL bY jD mLn oF aJ aB bW bZ aR aE bI aW bU fJ dO bM bQ bO jY oX m_x gR pW nG oO qO qQ post) args s 0 0 A) (F0 m 45 ls [.int k0]) := by
  obtain ⟨hx, hb, hr, hml, hown, hts, hlocks, hA, hK, hN, tL, tM, hZL, hTL, hZM, hTM, hZX⟩ := id C0
  intro x1 x2 k0 rP dQ H locs ls hp hP hD hS hl
  unfold ws_X10_sum_45 at hp
  refine lv_istore_n (lv' := [(3, .int k0), (0, .ref a_m), (1, .int x1), (2, .int x2)]) hx hb bAO.2.2.2.2.2.2.1 rfl hl (by decide) rfl (fun ls hl => ?_)
  refine lv_aload_n hx hb bAO.2.2.2.2.2.2.2.1 rfl (lv_at hl 1 rfl) ?_
  refine lv_dup hx hb bAO.2.2.2.2.2.2.2.2.1 rfl ?_
  refine va_get (D := (dC, dI)) (ci := 10) (v := .int rP) (C := zX) (T := aBe) (N := 51) hx hb hts aAt hown hK hP 0 rfl rfl 18 (lbz rfl) (hts _ q_648) (fun _ h9 => h9) rfl bAO.2.2.2.2.2.2.2.2.2.1 ?_
  refine lv_iconst (v := 1) hx hb bAO.2.2.2.2.2.2.2.2.2.2.1 aDx ?_
  refine lv_iadd hx hb bAO.2.2.2.2.2.2.2.2.2.2.2.1 ?_
  refine lv_topi (fun v_7 ev_7 => ?_)
  have hp := hp v_7 ev_7
  refine va_put (D := (dC, dI)) (ci := 10) (v := .int v_7) (ty := .int) (C := zX) (T := aBe) (N := 51) hx hb hts aAt aD2 aAa aEC hown hK hP hD hS 0 rfl rfl 18 (lbz rfl) (hts _ q_648) (fun _ h9 => h9) rfl (aAa 18 (lbz rfl)) rfl rfl (lbz rfl) bAO.2.2.2.2.2.2.2.2.2.2.2.2.1 (fun H locs hP hD hS => ?_)
  have hPD := PDw (ws' := (aI8 cI cC cZ cB cJ a_m nY sJ eG iY lY jR jW jZ jO oQ bR aY jQ gY iJ mQ lJ jA bG mK jB mW mJ eJ dG bT aG jC bL bY jD mLn oF v_7 dQ aJ aB bW bZ aR aE bI aW bU fJ dO bM bQ bO jY oX m_x gR pW nG oO qO qQ)) hP hD rfl
  have hP := hPD.1
  have hD := hPD.2
  refine lv_aload_n hx hb bAO.2.2.2.2.2.2.2.2.2.2.2.2.2.1 rfl (lv_at hl 1 rfl) ?_
  refine lv_iload_n hx hb bAO.2.2.2.2.2.2.2.2.2.2.2.2.2.2.1 rfl (lv_at hl 2 rfl) ?_
  have hm := mgk (wc := (aFf cI cC cZ cB cJ a_m nY sJ eG iY lY jR jW jZ jO oQ bR aY jQ gY iJ mQ lJ jA bG mK jB mW mJ eJ dG bT aG jC bL bY jD mLn oF v_7 dQ aJ aB bW bZ aR aE bI aW bU fJ dO bM bQ bO jY oX m_x gR pW nG oO qO qQ)) hP aRe 8 rfl rfl rfl
  refine yW hP hD hS hA (yS aRe) (aAi aRe) hm.1 hm.2 (aAk _) (zW _) (zF (As := [.int x1]) (rest := []) C0 hP hD hS (yS aRe) hm.1 (aAl _) 0 10 rfl rfl (c_X10_product l rn WT WH hT hH dC dI cI cC cZ cB cJ a_m nY sJ eG iY lY jR jW jZ jO oQ bR aY jQ gY iJ mQ lJ jA bG mK jB mW mJ eJ dG H.size x1 bT aG jC bL bY jD mLn oF v_7 dQ aJ aB bW bZ aR aE bI aW bU fJ dO bM bQ bO jY oX m_x gR pW nG oO qO qQ _ hp) q_724 q_727 q_725 q_726 aBL h_X10_product rfl rfl ⟨(show 6 * rn + 4 + 1 <= 6 * rn + 5 by omega), (show 8 + (5 + 11) + (200 * rn + 87) <= 200 * rn + 111 by omega)⟩ rfl rfl hl.1 rfl (lv_room (lbz rfl)) bAO.2.2.2.2.2.2.2.2.2.2.2.2.2.2.2 ⟨Nat.zero_le _, Nat.zero_le _⟩) (fun r_8 u H locs hp hP hD hS => ?_)
  obtain ⟨aIj, aEq⟩ := u
  have hPD := PDm (ws' := (aI8 cI cC cZ cB cJ a_m nY sJ eG iY lY jR jW jZ jO oQ bR aY jQ gY iJ mQ lJ jA bG mK jB mW mJ eJ dG bT aG jC bL bY jD mLn oF aIj aEq aJ aB bW bZ aR aE bI aW bU fJ dO bM bQ bO jY oX m_x gR pW nG oO qO qQ)) hP hD 8 rfl rfl rfl
  have hP := hPD.1
  have hD := hPD.2
  refine lv_istore (lv' := [(4, .int r_8), (3, .int k0), (0, .ref a_m), (1, .int x1), (2, .int x2)]) hx hb bAP.1 hl (by decide) rfl (fun ls hl => ?_)
  refine lv_iload_n hx hb bAP.2.1 rfl (lv_at hl 1 rfl) ?_
  refine lv_if_eq (tgt := 74) hx hb bAP.2.2.1 (by decide) (fun hc => ?_) (fun hc => ?_)
  · have hp := hp.1 hc
    refine lv_iload_n hx hb bAP.2.2.2.2.2.2.2.1 rfl (lv_at hl 4 rfl) ?_
    refine lv_iload hx hb bAP.2.2.2.2.2.2.2.2.1 (lv_at hl 0 rfl) ?_
    refine lv_isub hx hb bAP.2.2.2.2.2.2.2.2.2.1 ?_
    refine lv_topi (fun aGH ev_11 => ?_)
    have hp := hp aGH ev_11
    exact ks_X10_sum_78 C0 hT hH hK6 x1 aGH aIj aEq H locs ls hp hP hD hS (lv_sub hl [2, 3] rfl)
  · have hp := hp.2 hc
    refine lv_iload_n hx hb bAP.2.2.2.1 rfl (lv_at hl 4 rfl) ?_
    refine lv_iload hx hb bAP.2.2.2.2.1 (lv_at hl 0 rfl) ?_
    refine lv_iadd hx hb bAP.2.2.2.2.2.1 ?_
    refine lv_topi (fun aEp ev_12 => ?_)
    have hp := hp aEp ev_12
    refine lv_goto (tgt := 78) hx hb bAP.2.2.2.2.2.2.1 (by decide) ?_
    exact ks_X10_sum_78 C0 hT hH hK6 x1 aEp aIj aEq H locs ls hp hP hD hS (lv_sub hl [2, 3] rfl)
def ws_X10_sum_31 (WT WH : aOw) (post : Int32 -> Int32 -> Int32 -> Prop) (K6 : Int32 -> Int32 -> Int32 -> Int32 -> Prop) (jD : Nat) (mLn oF bZ aR aE bI aW : Int32) (m_x gR pW nG oO qO qQ : Nat -> Int32) (x1 x2 rP dQ : Int32) : Prop := aPe (fun r_6 => (¬ r_6 = 43 -> ws_X10_sum_45 WT WH post K6 jD mLn oF bZ aR aE bI aW m_x gR pW nG oO qO qQ x1 x2 0 rP dQ) /\ (r_6 = 43 -> ws_X10_sum_45 WT WH post K6 jD mLn oF bZ aR aE bI aW m_x gR pW nG oO qO qQ x1 x2 1 rP dQ)) jD mLn oF rP qO qQ
set_option maxHeartbeats 4000000 in
set_option maxRecDepth 100000 in
theorem ks_X10_sum_31 (C0 : gc aHh (some .int) 5 zX (dC, dI) (tyl cI cC cZ cB cJ) A p s m args meth c) (hT : aR8 l WT (6 * rn - 3) (200 * rn - 136)) (hH : aVV l WH (6 * rn) (200 * rn - 65)) {K6 : Int32 -> Int32 -> Int32 -> Int32 -> Prop} (hK6 : ∀ (x1 : Int32) (x2 : Int32) (rP : Int32) (dQ : Int32) (H : Heap) (locs : List Loc) (ls : Array Slot), K6 x1 x2 rP dQ -> va_P (dC, dI) classes (aI8 cI cC cZ cB cJ a_m nY sJ eG iY lY jR jW jZ jO oQ bR aY jQ gY iJ mQ lJ jA bG mK jB mW mJ eJ dG bT aG jC bL bY jD mLn oF rP dQ aJ aB bW bZ aR aE bI aW bU fJ dO bM bQ bO jY oX m_x gR pW nG oO qO qQ) H -> va_D A (aI8 cI cC cZ cB cJ a_m nY sJ eG iY lY jR jW jZ jO oQ bR aY jQ gY iJ mQ lJ jA bG mK jB mW mJ eJ dG bT aG jC bL bY jD mLn oF rP dQ aJ aB bW bZ aR aE bI aW bU fJ dO bM bQ bO jY oX m_x gR pW nG oO qO qQ) -> va_S A s.heap H locs -> lv_has ls 5 [(0, .ref a_m), (1, .int x1), (2, .int x2)] -> W p l e (rm_X10_sum rn) s m args below meth c H locs 0 0 (MQ below (q_X10_sum dC dI cI cC cZ cB cJ A a_m nY sJ eG iY lY jR jW jZ jO oQ bR aY jQ gY iJ mQ lJ jA bG mK jB mW mJ eJ dG bT aG jC bL bY jD mLn oF aJ aB bW bZ aR aE bI aW bU fJ dO bM bQ bO jY oX m_x gR pW nG oO qO qQ post) args s 0 0 A) (F0 m 6 ls [])) : ∀ (x1 x2 rP dQ : Int32) (H : Heap) (locs : List Loc) (ls : Array Slot), (ws_X10_sum_31 WT WH post K6 jD mLn oF bZ aR aE bI aW m_x gR pW nG oO qO qQ) x1 x2 rP dQ -> va_P (dC, dI) classes (aI8 cI cC cZ cB cJ a_m nY sJ eG iY lY jR jW jZ jO oQ bR aY jQ gY iJ mQ lJ jA bG mK jB mW mJ eJ dG bT aG jC bL bY jD mLn oF rP dQ aJ aB bW bZ aR aE bI aW bU fJ dO bM bQ bO jY oX m_x gR pW nG oO qO qQ) H -> va_D A (aI8 cI cC cZ cB cJ a_m nY sJ eG iY lY jR jW jZ jO oQ bR aY jQ gY iJ mQ lJ jA bG mK jB mW mJ eJ dG bT aG jC bL bY jD mLn oF rP dQ aJ aB bW bZ aR aE bI aW bU fJ dO bM bQ bO jY oX m_x gR pW nG oO qO qQ) -> va_S A s.heap H locs -> lv_has ls 5 [(0, .ref a_m), (1, .int x1), (2, .int x2)] -> W p l e (rm_X10_sum rn) s m args below meth c H locs 0 0 (MQ below (q_X10_sum dC dI cI cC cZ cB cJ A a_m nY sJ eG iY lY jR jW jZ jO oQ bR aY jQ gY iJ mQ lJ jA bG mK jB mW mJ eJ dG bT aG jC bL bY jD mLn oF aJ aB bW bZ aR aE bI aW bU fJ dO bM bQ bO jY oX m_x gR pW nG oO qO qQ post) args s 0 0 A) (F0 m 31 ls []) := by
  obtain ⟨hx, hb, hr, hml, hown, hts, hlocks, hA, hK, hN, tL, tM, hZL, hTL, hZM, hTM, hZX⟩ := id C0
  intro x1 x2 rP dQ H locs ls hp hP hD hS hl
  unfold ws_X10_sum_31 at hp
  refine lv_aload_n hx hb eX10_sum_0.2.2.2.2.2.2.2.2.2.2.2.2.2.2.2 rfl (lv_at hl 0 rfl) ?_
  have hm := mgk (wc := (aVg cI cC cZ cB cJ a_m nY sJ eG iY lY jR jW jZ jO oQ bR aY jQ gY iJ mQ lJ jA bG mK jB mW mJ eJ dG bT aG jC bL bY jD mLn oF rP dQ aJ aB bW bZ aR aE bI aW bU fJ dO bM bQ bO jY oX qO qQ)) hP aLf 8 rfl rfl rfl
  refine yW hP hD hS hA (yS aLf) (aAi aLf) hm.1 hm.2 (aAk _) (zW _) (zF (As := []) (rest := []) C0 hP hD hS (yS aLf) hm.1 (aAl _) 0 10 rfl rfl (c_X10_here l dC dI cI cC cZ cB cJ a_m nY sJ eG iY lY jR jW jZ jO oQ bR aY jQ gY iJ mQ lJ jA bG mK jB mW mJ eJ dG H.size bT aG jC bL bY jD mLn oF rP dQ aJ aB bW bZ aR aE bI aW bU fJ dO bM bQ bO jY oX qO qQ _ hp) q_658 q_661 q_659 q_660 aBL h_X10_here rfl rfl ⟨(show 0 + 1 <= 6 * rn + 5 by omega), (show 8 + (1 + 11) + (0) <= 200 * rn + 111 by omega)⟩ rfl rfl hl.1 rfl (lv_room (lbz rfl)) bAO.1 ⟨Nat.zero_le _, Nat.zero_le _⟩) (fun r_6 u H locs hp hP hD hS => ?_)
  have hPD := PDm (ws' := (aI8 cI cC cZ cB cJ a_m nY sJ eG iY lY jR jW jZ jO oQ bR aY jQ gY iJ mQ lJ jA bG mK jB mW mJ eJ dG bT aG jC bL bY jD mLn oF rP dQ aJ aB bW bZ aR aE bI aW bU fJ dO bM bQ bO jY oX m_x gR pW nG oO qO qQ)) hP hD 8 rfl rfl rfl
  have hP := hPD.1
  have hD := hPD.2
  refine lv_bipush (v := 43) hx hb bAO.2.1 bp_43 ?_
  refine lv_icmp_ne (tgt := 44) hx hb bAO.2.2.1 (by decide) (fun hc => ?_) (fun hc => ?_)
  · have hp := hp.1 hc
    refine lv_iconst (v := 0) hx hb bAO.2.2.2.2.2.1 aCi ?_
    exact ks_X10_sum_45 C0 hT hH hK6 x1 x2 0 rP dQ H locs ls hp hP hD hS (lv_sub hl [0, 1, 2] rfl)
  · have hp := hp.2 hc
    refine lv_iconst (v := 1) hx hb bAO.2.2.2.1 aDx ?_
    refine lv_goto (tgt := 45) hx hb bAO.2.2.2.2.1 (by decide) ?_
    exact ks_X10_sum_45 C0 hT hH hK6 x1 x2 1 rP dQ H locs ls hp hP hD hS (lv_sub hl [0, 1, 2] rfl)
def ws_X10_sum_6 (WT WH : aOw) (post : Int32 -> Int32 -> Int32 -> Prop) (next : Int32 -> Int32 -> Int32 -> Int32 -> Prop) (jD : Nat) (mLn oF bZ aR aE bI aW : Int32) (m_x gR pW nG oO qO qQ : Nat -> Int32) (x1 x2 rP dQ : Int32) : Prop := aRX (fun r_4 => (r_4 = 0 -> post x2 rP dQ) /\ (¬ r_4 = 0 -> aPe (fun r_5 => (r_5 = 43 -> ws_X10_sum_31 WT WH post next jD mLn oF bZ aR aE bI aW m_x gR pW nG oO qO qQ x1 x2 rP dQ) /\ (¬ r_5 = 43 -> aPe (fun r_13 => (¬ r_13 = 45 -> post x2 rP dQ) /\ (r_13 = 45 -> ws_X10_sum_31 WT WH post next jD mLn oF bZ aR aE bI aW m_x gR pW nG oO qO qQ x1 x2 rP dQ)) jD mLn oF rP qO qQ)) jD mLn oF rP qO qQ)) dQ
noncomputable def wb_X10_sum_6 (WT WH : aOw) (post : Int32 -> Int32 -> Int32 -> Prop) (jD : Nat) (mLn oF bZ aR aE bI aW : Int32) (m_x gR pW nG oO qO qQ : Nat -> Int32) : Nat -> Int32 -> Int32 -> Int32 -> Int32 -> Prop := fun n => Nat.rec (motive := fun _ => Int32 -> Int32 -> Int32 -> Int32 -> Prop) (fun _ _ _ _ => False) (fun _ ih => ws_X10_sum_6 WT WH post ih jD mLn oF bZ aR aE bI aW m_x gR pW nG oO qO qQ) n
set_option maxHeartbeats 4000000 in
set_option maxRecDepth 100000 in
theorem ks_X10_sum_6 (C0 : gc aHh (some .int) 5 zX (dC, dI) (tyl cI cC cZ cB cJ) A p s m args meth c) (hT : aR8 l WT (6 * rn - 3) (200 * rn - 136)) (hH : aVV l WH (6 * rn) (200 * rn - 65)) {next : Int32 -> Int32 -> Int32 -> Int32 -> Prop} (hKn : ∀ (x1 : Int32) (x2 : Int32) (rP : Int32) (dQ : Int32) (H : Heap) (locs : List Loc) (ls : Array Slot), next x1 x2 rP dQ -> va_P (dC, dI) classes (aI8 cI cC cZ cB cJ a_m nY sJ eG iY lY jR jW jZ jO oQ bR aY jQ gY iJ mQ lJ jA bG mK jB mW mJ eJ dG bT aG jC bL bY jD mLn oF rP dQ aJ aB bW bZ aR aE bI aW bU fJ dO bM bQ bO jY oX m_x gR pW nG oO qO qQ) H -> va_D A (aI8 cI cC cZ cB cJ a_m nY sJ eG iY lY jR jW jZ jO oQ bR aY jQ gY iJ mQ lJ jA bG mK jB mW mJ eJ dG bT aG jC bL bY jD mLn oF rP dQ aJ aB bW bZ aR aE bI aW bU fJ dO bM bQ bO jY oX m_x gR pW nG oO qO qQ) -> va_S A s.heap H locs -> lv_has ls 5 [(0, .ref a_m), (1, .int x1), (2, .int x2)] -> W p l e (rm_X10_sum rn) s m args below meth c H locs 0 0 (MQ below (q_X10_sum dC dI cI cC cZ cB cJ A a_m nY sJ eG iY lY jR jW jZ jO oQ bR aY jQ gY iJ mQ lJ jA bG mK jB mW mJ eJ dG bT aG jC bL bY jD mLn oF aJ aB bW bZ aR aE bI aW bU fJ dO bM bQ bO jY oX m_x gR pW nG oO qO qQ post) args s 0 0 A) (F0 m 6 ls [])) : ∀ (x1 x2 rP dQ : Int32) (H : Heap) (locs : List Loc) (ls : Array Slot), (ws_X10_sum_6 WT WH post next jD mLn oF bZ aR aE bI aW m_x gR pW nG oO qO qQ) x1 x2 rP dQ -> va_P (dC, dI) classes (aI8 cI cC cZ cB cJ a_m nY sJ eG iY lY jR jW jZ jO oQ bR aY jQ gY iJ mQ lJ jA bG mK jB mW mJ eJ dG bT aG jC bL bY jD mLn oF rP dQ aJ aB bW bZ aR aE bI aW bU fJ dO bM bQ bO jY oX m_x gR pW nG oO qO qQ) H -> va_D A (aI8 cI cC cZ cB cJ a_m nY sJ eG iY lY jR jW jZ jO oQ bR aY jQ gY iJ mQ lJ jA bG mK jB mW mJ eJ dG bT aG jC bL bY jD mLn oF rP dQ aJ aB bW bZ aR aE bI aW bU fJ dO bM bQ bO jY oX m_x gR pW nG oO qO qQ) -> va_S A s.heap H locs -> lv_has ls 5 [(0, .ref a_m), (1, .int x1), (2, .int x2)] -> W p l e (rm_X10_sum rn) s m args below meth c H locs 0 0 (MQ below (q_X10_sum dC dI cI cC cZ cB cJ A a_m nY sJ eG iY lY jR jW jZ jO oQ bR aY jQ gY iJ mQ lJ jA bG mK jB mW mJ eJ dG bT aG jC bL bY jD mLn oF aJ aB bW bZ aR aE bI aW bU fJ dO bM bQ bO jY oX m_x gR pW nG oO qO qQ post) args s 0 0 A) (F0 m 6 ls []) := by
  obtain ⟨hx, hb, hr, hml, hown, hts, hlocks, hA, hK, hN, tL, tM, hZL, hTL, hZM, hTM, hZX⟩ := id C0
  intro x1 x2 rP dQ H locs ls hp hP hD hS hl
  unfold ws_X10_sum_6 at hp
  refine lv_aload_n hx hb eX10_sum_0.2.2.2.2.1 rfl (lv_at hl 0 rfl) ?_
  have hm := mgk (wc := (aVf cI cC cZ cB cJ a_m nY sJ eG iY lY jR jW jZ jO oQ bR aY jQ gY iJ mQ lJ jA bG mK jB mW mJ eJ dG bT aG jC bL bY jD mLn oF rP dQ aJ aB bW bZ aR aE bI aW bU fJ dO bM bQ bO jY oX)) hP mk_206 8 rfl rfl rfl
  refine yW hP hD hS hA (yS mk_206) (aAi mk_206) hm.1 hm.2 (aAk _) (zW _) (zF (As := []) (rest := []) C0 hP hD hS (yS mk_206) hm.1 (aAl _) 0 10 rfl rfl (c_X10_fine l dC dI cI cC cZ cB cJ a_m nY sJ eG iY lY jR jW jZ jO oQ bR aY jQ gY iJ mQ lJ jA bG mK jB mW mJ eJ dG H.size bT aG jC bL bY jD mLn oF rP dQ aJ aB bW bZ aR aE bI aW bU fJ dO bM bQ bO jY oX _ hp) q_650 q_653 q_651 q_652 aBL h_X10_fine rfl rfl ⟨(show 0 + 1 <= 6 * rn + 5 by omega), (show 8 + (1 + 11) + (0) <= 200 * rn + 111 by omega)⟩ rfl rfl hl.1 rfl (lv_room (lbz rfl)) eX10_sum_0.2.2.2.2.2.1 ⟨Nat.zero_le _, Nat.zero_le _⟩) (fun r_4 u H locs hp hP hD hS => ?_)
  have hPD := PDm (ws' := (aI8 cI cC cZ cB cJ a_m nY sJ eG iY lY jR jW jZ jO oQ bR aY jQ gY iJ mQ lJ jA bG mK jB mW mJ eJ dG bT aG jC bL bY jD mLn oF rP dQ aJ aB bW bZ aR aE bI aW bU fJ dO bM bQ bO jY oX m_x gR pW nG oO qO qQ)) hP hD 8 rfl rfl rfl
  have hP := hPD.1
  have hD := hPD.2
  refine lv_if_eq (tgt := 82) hx hb eX10_sum_0.2.2.2.2.2.2.1 (by decide) (fun hc => ?_) (fun hc => ?_)
  · have hp := hp.1 hc
    refine lv_iload_n hx hb bAP.2.2.2.2.2.2.2.2.2.2.2.2.1 rfl (lv_at hl 2 rfl) ?_
    exact W.iret (v := x2) hx hb hr (fun t ht hW => ⟨⟨x2, (rP, dQ), rfl, hp, by rw [ht]; exact hP, va_K.moved hW.alike hK, hD⟩, hS.F ht⟩) hS.2.2 bAP.2.2.2.2.2.2.2.2.2.2.2.2.2
  · have hp := hp.2 hc
    refine lv_aload_n hx hb eX10_sum_0.2.2.2.2.2.2.2.1 rfl (lv_at hl 0 rfl) ?_
    have hm := mgk (wc := (aVg cI cC cZ cB cJ a_m nY sJ eG iY lY jR jW jZ jO oQ bR aY jQ gY iJ mQ lJ jA bG mK jB mW mJ eJ dG bT aG jC bL bY jD mLn oF rP dQ aJ aB bW bZ aR aE bI aW bU fJ dO bM bQ bO jY oX qO qQ)) hP aLf 8 rfl rfl rfl
    refine yW hP hD hS hA (yS aLf) (aAi aLf) hm.1 hm.2 (aAk _) (zW _) (zF (As := []) (rest := []) C0 hP hD hS (yS aLf) hm.1 (aAl _) 0 10 rfl rfl (c_X10_here l dC dI cI cC cZ cB cJ a_m nY sJ eG iY lY jR jW jZ jO oQ bR aY jQ gY iJ mQ lJ jA bG mK jB mW mJ eJ dG H.size bT aG jC bL bY jD mLn oF rP dQ aJ aB bW bZ aR aE bI aW bU fJ dO bM bQ bO jY oX qO qQ _ hp) q_658 q_661 q_659 q_660 aBL h_X10_here rfl rfl ⟨(show 0 + 1 <= 6 * rn + 5 by omega), (show 8 + (1 + 11) + (0) <= 200 * rn + 111 by omega)⟩ rfl rfl hl.1 rfl (lv_room (lbz rfl)) eX10_sum_0.2.2.2.2.2.2.2.2.1 ⟨Nat.zero_le _, Nat.zero_le _⟩) (fun r_5 u H locs hp hP hD hS => ?_)
    have hPD := PDm (ws' := (aI8 cI cC cZ cB cJ a_m nY sJ eG iY lY jR jW jZ jO oQ bR aY jQ gY iJ mQ lJ jA bG mK jB mW mJ eJ dG bT aG jC bL bY jD mLn oF rP dQ aJ aB bW bZ aR aE bI aW bU fJ dO bM bQ bO jY oX m_x gR pW nG oO qO qQ)) hP hD 8 rfl rfl rfl
    have hP := hPD.1
    have hD := hPD.2
    refine lv_bipush (v := 43) hx hb eX10_sum_0.2.2.2.2.2.2.2.2.2.1 bp_43 ?_
    refine lv_icmp_eq (tgt := 31) hx hb eX10_sum_0.2.2.2.2.2.2.2.2.2.2.1 (by decide) (fun hc => ?_) (fun hc => ?_)
    · have hp := hp.1 hc
      exact ks_X10_sum_31 C0 hT hH hKn x1 x2 rP dQ H locs ls hp hP hD hS (lv_sub hl [0, 1, 2] rfl)
    · have hp := hp.2 hc
      refine lv_aload_n hx hb eX10_sum_0.2.2.2.2.2.2.2.2.2.2.2.1 rfl (lv_at hl 0 rfl) ?_
      have hm := mgk (wc := (aVg cI cC cZ cB cJ a_m nY sJ eG iY lY jR jW jZ jO oQ bR aY jQ gY iJ mQ lJ jA bG mK jB mW mJ eJ dG bT aG jC bL bY jD mLn oF rP dQ aJ aB bW bZ aR aE bI aW bU fJ dO bM bQ bO jY oX qO qQ)) hP aLf 8 rfl rfl rfl
      refine yW hP hD hS hA (yS aLf) (aAi aLf) hm.1 hm.2 (aAk _) (zW _) (zF (As := []) (rest := []) C0 hP hD hS (yS aLf) hm.1 (aAl _) 0 10 rfl rfl (c_X10_here l dC dI cI cC cZ cB cJ a_m nY sJ eG iY lY jR jW jZ jO oQ bR aY jQ gY iJ mQ lJ jA bG mK jB mW mJ eJ dG H.size bT aG jC bL bY jD mLn oF rP dQ aJ aB bW bZ aR aE bI aW bU fJ dO bM bQ bO jY oX qO qQ _ hp) q_658 q_661 q_659 q_660 aBL h_X10_here rfl rfl ⟨(show 0 + 1 <= 6 * rn + 5 by omega), (show 8 + (1 + 11) + (0) <= 200 * rn + 111 by omega)⟩ rfl rfl hl.1 rfl (lv_room (lbz rfl)) eX10_sum_0.2.2.2.2.2.2.2.2.2.2.2.2.1 ⟨Nat.zero_le _, Nat.zero_le _⟩) (fun r_13 u H locs hp hP hD hS => ?_)
      have hPD := PDm (ws' := (aI8 cI cC cZ cB cJ a_m nY sJ eG iY lY jR jW jZ jO oQ bR aY jQ gY iJ mQ lJ jA bG mK jB mW mJ eJ dG bT aG jC bL bY jD mLn oF rP dQ aJ aB bW bZ aR aE bI aW bU fJ dO bM bQ bO jY oX m_x gR pW nG oO qO qQ)) hP hD 8 rfl rfl rfl
      have hP := hPD.1
      have hD := hPD.2
      refine lv_bipush (v := 45) hx hb eX10_sum_0.2.2.2.2.2.2.2.2.2.2.2.2.2.1 bp_45 ?_
      refine lv_icmp_ne (tgt := 82) hx hb eX10_sum_0.2.2.2.2.2.2.2.2.2.2.2.2.2.2.1 (by decide) (fun hc => ?_) (fun hc => ?_)
      · have hp := hp.1 hc
        refine lv_iload_n hx hb bAP.2.2.2.2.2.2.2.2.2.2.2.2.1 rfl (lv_at hl 2 rfl) ?_
        exact W.iret (v := x2) hx hb hr (fun t ht hW => ⟨⟨x2, (rP, dQ), rfl, hp, by rw [ht]; exact hP, va_K.moved hW.alike hK, hD⟩, hS.F ht⟩) hS.2.2 bAP.2.2.2.2.2.2.2.2.2.2.2.2.2
      · have hp := hp.2 hc
        exact ks_X10_sum_31 C0 hT hH hKn x1 x2 rP dQ H locs ls hp hP hD hS (lv_sub hl [0, 1, 2] rfl)
set_option maxHeartbeats 4000000 in
set_option maxRecDepth 100000 in
theorem kb_X10_sum_6 (C0 : gc aHh (some .int) 5 zX (dC, dI) (tyl cI cC cZ cB cJ) A p s m args meth c) (hT : aR8 l WT (6 * rn - 3) (200 * rn - 136)) (hH : aVV l WH (6 * rn) (200 * rn - 65)) : ∀ (n : Nat), ∀ (x1 x2 rP dQ : Int32) (H : Heap) (locs : List Loc) (ls : Array Slot), (wb_X10_sum_6 WT WH post jD mLn oF bZ aR aE bI aW m_x gR pW nG oO qO qQ n) x1 x2 rP dQ -> va_P (dC, dI) classes (aI8 cI cC cZ cB cJ a_m nY sJ eG iY lY jR jW jZ jO oQ bR aY jQ gY iJ mQ lJ jA bG mK jB mW mJ eJ dG bT aG jC bL bY jD mLn oF rP dQ aJ aB bW bZ aR aE bI aW bU fJ dO bM bQ bO jY oX m_x gR pW nG oO qO qQ) H -> va_D A (aI8 cI cC cZ cB cJ a_m nY sJ eG iY lY jR jW jZ jO oQ bR aY jQ gY iJ mQ lJ jA bG mK jB mW mJ eJ dG bT aG jC bL bY jD mLn oF rP dQ aJ aB bW bZ aR aE bI aW bU fJ dO bM bQ bO jY oX m_x gR pW nG oO qO qQ) -> va_S A s.heap H locs -> lv_has ls 5 [(0, .ref a_m), (1, .int x1), (2, .int x2)] -> W p l e (rm_X10_sum rn) s m args below meth c H locs 0 0 (MQ below (q_X10_sum dC dI cI cC cZ cB cJ A a_m nY sJ eG iY lY jR jW jZ jO oQ bR aY jQ gY iJ mQ lJ jA bG mK jB mW mJ eJ dG bT aG jC bL bY jD mLn oF aJ aB bW bZ aR aE bI aW bU fJ dO bM bQ bO jY oX m_x gR pW nG oO qO qQ post) args s 0 0 A) (F0 m 6 ls []) := by
  intro n
  induction n with
  | zero =>
    intro x1 x2 rP dQ H locs ls hp
    exact False.elim hp
  | succ n ih =>
    intro x1 x2 rP dQ H locs ls hp
    exact ks_X10_sum_6 C0 hT hH ih x1 x2 rP dQ H locs ls hp
end S_X10_sum
def wp_X10_sum (WT WH : aOw) (post : Int32 -> Int32 -> Int32 -> Prop) (p0 : Int32) (jD : Nat) (mLn oF rP dQ bZ aR aE bI aW : Int32) (m_x gR pW nG oO qO qQ : Nat -> Int32) : Prop := wp_X10_product WT WH (fun r_1 aQ4 aHp => ∃ n : Nat, wb_X10_sum_6 WT WH post jD mLn oF bZ aR aE bI aW m_x gR pW nG oO qO qQ n p0 r_1 aQ4 aHp) p0 jD mLn oF rP dQ bZ aR aE bI aW m_x gR pW nG oO qO qQ
set_option maxHeartbeats 4000000 in
set_option maxRecDepth 100000 in
theorem c_X10_sum (l : Launch) (rn : Nat) (WT WH : aOw) (hT : aR8 l WT (6 * rn - 3) (200 * rn - 136)) (hH : aVV l WH (6 * rn) (200 * rn - 65)) (dC : Nat -> ClassId) (dI : Nat -> Nat -> Nat) (cI cC cZ cB cJ : ClassId) (a_m nY sJ eG iY lY jR jW jZ jO oQ bR aY jQ gY iJ mQ lJ jA bG mK jB mW mJ eJ dG sz : Nat) (p0 bT aG jC bL bY : Int32) (jD : Nat) (mLn oF rP dQ aJ aB bW bZ aR aE bI aW bU fJ dO bM bQ bO jY oX : Int32) (m_x gR pW nG oO qO qQ : Nat -> Int32) (post : Int32 -> Int32 -> Int32 -> Prop) (hw : wp_X10_sum WT WH post p0 jD mLn oF rP dQ bZ aR aE bI aW m_x gR pW nG oO qO qQ) : Met l yX10_sum (gw yX10_sum aHh 5 (some .int)) (rm_X10_sum rn) (va_Pc [.ref a_m, .int p0] (gPre (dC, dI) (tyl cI cC cZ cB cJ) (aI8 cI cC cZ cB cJ a_m nY sJ eG iY lY jR jW jZ jO oQ bR aY jQ gY iJ mQ lJ jA bG mK jB mW mJ eJ dG bT aG jC bL bY jD mLn oF rP dQ aJ aB bW bZ aR aE bI aW bU fJ dO bM bQ bO jY oX m_x gR pW nG oO qO qQ) sz)) (q_X10_sum dC dI cI cC cZ cB cJ (va_A (aI8 cI cC cZ cB cJ a_m nY sJ eG iY lY jR jW jZ jO oQ bR aY jQ gY iJ mQ lJ jA bG mK jB mW mJ eJ dG bT aG jC bL bY jD mLn oF rP dQ aJ aB bW bZ aR aE bI aW bU fJ dO bM bQ bO jY oX m_x gR pW nG oO qO qQ) sz) a_m nY sJ eG iY lY jR jW jZ jO oQ bR aY jQ gY iJ mQ lJ jA bG mK jB mW mJ eJ dG bT aG jC bL bY jD mLn oF aJ aB bW bZ aR aE bI aW bU fJ dO bM bQ bO jY oX m_x gR pW nG oO qO qQ post) 0 0 (va_A (aI8 cI cC cZ cB cJ a_m nY sJ eG iY lY jR jW jZ jO oQ bR aY jQ gY iJ mQ lJ jA bG mK jB mW mJ eJ dG bT aG jC bL bY jD mLn oF rP dQ aJ aB bW bZ aR aE bI aW bU fJ dO bM bQ bO jY oX m_x gR pW nG oO qO qQ) sz) := by
  refine aBJ (own := zX) (dC, dI) (tyl cI cC cZ cB cJ) (aI8 cI cC cZ cB cJ a_m nY sJ eG iY lY jR jW jZ jO oQ bR aY jQ gY iJ mQ lJ jA bG mK jB mW mJ eJ dG bT aG jC bL bY jD mLn oF rP dQ aJ aB bW bZ aR aE bI aW bU fJ dO bM bQ bO jY oX m_x gR pW nG oO qO qQ) sz [.ref a_m, .int p0] (fun A => q_X10_sum dC dI cI cC cZ cB cJ A a_m nY sJ eG iY lY jR jW jZ jO oQ bR aY jQ gY iJ mQ lJ jA bG mK jB mW mJ eJ dG bT aG jC bL bY jD mLn oF aJ aB bW bZ aR aE bI aW bU fJ dO bM bQ bO jY oX m_x gR pW nG oO qO qQ post) aFY rfl (lbz rfl) ?_
  intro p e s m args below meth c A H locs ls C0 hP hD hS hl
  have hl : lv_has ls 5 [(0, .ref a_m), (1, .int p0)] := hl
  obtain ⟨hx, hb, hr, hml, hown, hts, hlocks, hA, hK, hN, tL, tM, hZL, hTL, hZM, hTM, hZX⟩ := id C0
  have hp := hw
  unfold wp_X10_sum at hp
  refine lv_aload_n hx hb eX10_sum_0.1 rfl (lv_at hl 0 rfl) ?_
  refine lv_iload_n hx hb eX10_sum_0.2.1 rfl (lv_at hl 1 rfl) ?_
  have hm := mgk (wc := (aFf cI cC cZ cB cJ a_m nY sJ eG iY lY jR jW jZ jO oQ bR aY jQ gY iJ mQ lJ jA bG mK jB mW mJ eJ dG bT aG jC bL bY jD mLn oF rP dQ aJ aB bW bZ aR aE bI aW bU fJ dO bM bQ bO jY oX m_x gR pW nG oO qO qQ)) hP aRe 8 rfl rfl rfl
  refine yW hP hD hS hA (yS aRe) (aAi aRe) hm.1 hm.2 (aAk _) (zW _) (zF (As := [.int p0]) (rest := []) C0 hP hD hS (yS aRe) hm.1 (aAl _) 0 10 rfl rfl (c_X10_product l rn WT WH hT hH dC dI cI cC cZ cB cJ a_m nY sJ eG iY lY jR jW jZ jO oQ bR aY jQ gY iJ mQ lJ jA bG mK jB mW mJ eJ dG H.size p0 bT aG jC bL bY jD mLn oF rP dQ aJ aB bW bZ aR aE bI aW bU fJ dO bM bQ bO jY oX m_x gR pW nG oO qO qQ _ hp) q_724 q_727 q_725 q_726 aBL h_X10_product rfl rfl ⟨(show 6 * rn + 4 + 1 <= 6 * rn + 5 by omega), (show 8 + (5 + 11) + (200 * rn + 87) <= 200 * rn + 111 by omega)⟩ rfl rfl hl.1 rfl (lv_room (lbz rfl)) eX10_sum_0.2.2.1 ⟨Nat.zero_le _, Nat.zero_le _⟩) (fun r_1 u H locs hp hP hD hS => ?_)
  obtain ⟨aQ4, aHp⟩ := u
  have hPD := PDm (ws' := (aI8 cI cC cZ cB cJ a_m nY sJ eG iY lY jR jW jZ jO oQ bR aY jQ gY iJ mQ lJ jA bG mK jB mW mJ eJ dG bT aG jC bL bY jD mLn oF aQ4 aHp aJ aB bW bZ aR aE bI aW bU fJ dO bM bQ bO jY oX m_x gR pW nG oO qO qQ)) hP hD 8 rfl rfl rfl
  have hP := hPD.1
  have hD := hPD.2
  refine lv_istore_n (lv' := [(2, .int r_1), (0, .ref a_m), (1, .int p0)]) hx hb eX10_sum_0.2.2.2.1 rfl hl (by decide) rfl (fun ls hl => ?_)
  obtain ⟨n9, hp⟩ := hp
  exact kb_X10_sum_6 C0 hT hH n9 p0 r_1 aQ4 aHp H locs ls hp hP hD hS (lv_sub hl [1, 2, 0] rfl)
abbrev wd_X10_held (cI cC cZ cB cJ : ClassId) (a_m nY sJ eG iY lY jR jW jZ jO oQ bR aY jQ gY iJ mQ lJ jA bG mK jB mW mJ eJ dG : Nat) (bT aG jC bL bY : Int32) (jD : Nat) (mLn oF rP dQ aJ aB bW bZ aR aE bI aW bU fJ dO bM bQ bO jY oX : Int32) (m_x gR pW nG oO qO qQ : Nat -> Int32) : va_W := [(a_m, .inr (10, [.ref nY, .int bT, .ref sJ, .ref eG, .ref iY, .ref lY, .int aG, .ref jR, .ref jW, .ref jZ, .ref jO, .int jC, .ref oQ, .int bL, .int bY, rdv jO jQ jD, .int mLn, .int oF, .int rP, .int dQ, .ref bR, .ref aY, .int aJ, .int aB, .ref jQ, .int bW, .int bZ, .int aR, .int aE, .int bI, .int aW, .ref gY, .int bU, .ref iJ, .ref mQ, .int fJ, .ref lJ, .int dO, .ref jA, .ref bG, .int bM, .int bQ, .int bO, .ref mK, .ref jB, .ref mW, .int jY, .int oX, .ref mJ, .ref eJ, .ref dG])), (sJ, .inl (cI, 16, .inl m_x)), (eG, .inl (cI, 16, .inl gR)), (iY, .inl (cI, 16, .inl pW)), (jR, .inl (cI, 8, .inl nG)), (jW, .inl (cI, 8, .inl oO)), (jO, .inl (cB, 80, .inl qO)), (jQ, .inl (cB, 40, .inl qQ))]
abbrev q_X10_held (dC : Nat -> ClassId) (dI : Nat -> Nat -> Nat) (cI cC cZ cB cJ : ClassId) (A : Nat -> Prop) (a_m nY sJ eG iY lY jR jW jZ jO oQ bR aY jQ gY iJ mQ lJ jA bG mK jB mW mJ eJ dG : Nat) (bT aG jC bL bY : Int32) (jD : Nat) (mLn oF aJ aB bW bZ aR aE bI aW bU fJ dO bM bQ bO jY oX : Int32) (m_x gR pW nG oO qO qQ : Nat -> Int32) (post : Int32 -> Int32 -> Int32 -> Prop) : Array Value -> State -> Outcome -> State -> Prop := va_Qi (fun (r : Int32) (u : Int32 × Int32) => post r u.1 u.2) (fun u t => gB (dC, dI) (tyl cI cC cZ cB cJ) A (wd_X10_held cI cC cZ cB cJ a_m nY sJ eG iY lY jR jW jZ jO oQ bR aY jQ gY iJ mQ lJ jA bG mK jB mW mJ eJ dG bT aG jC bL bY jD mLn oF u.1 u.2 aJ aB bW bZ aR aE bI aW bU fJ dO bM bQ bO jY oX m_x gR pW nG oO qO qQ) t) A
abbrev rm_X10_held (rn : Nat) : Room := { frames := 6 * rn + 6, cells := 0, slots := 0, locals := 200 * rn + 135 }
def wp_X10_held (WT WH : aOw) (post : Int32 -> Int32 -> Int32 -> Prop) (p0 : Int32) (jD : Nat) (mLn oF rP dQ bZ aR aE bI aW : Int32) (m_x gR pW nG oO qO qQ : Nat -> Int32) : Prop := wp_X10_sum WT WH (fun r_1 aQ4 aHp => aPM (fun r_4 m_at_5 => (r_4 = 0 -> aPM (fun r_6 m_at_7 => (r_6 = 0 -> aPM (fun r_8 aIj => (r_8 = 0 -> post r_1 aIj aHp) /\ (¬ r_8 = 0 -> wp_X10_sum WT WH (fun r_10 m_at_11 aVJ => (¬ r_1 = r_10 -> post 0 m_at_11 aVJ) /\ (r_1 = r_10 -> post 1 m_at_11 aVJ)) p0 jD mLn oF aIj aHp bZ aR aE bI aW m_x gR pW nG oO qO qQ)) 61 jD mLn oF m_at_7 aHp qO qQ) /\ (¬ r_6 = 0 -> wp_X10_sum WT WH (fun r_13 m_at_14 m_wrong_15 => (r_1 <= r_13 -> post 0 m_at_14 m_wrong_15) /\ (¬ r_1 <= r_13 -> post 1 m_at_14 m_wrong_15)) p0 jD mLn oF m_at_7 aHp bZ aR aE bI aW m_x gR pW nG oO qO qQ)) 62 jD mLn oF m_at_5 aHp qO qQ) /\ (¬ r_4 = 0 -> wp_X10_sum WT WH (fun r_16 m_at_17 m_wrong_18 => (r_16 <= r_1 -> post 0 m_at_17 m_wrong_18) /\ (¬ r_16 <= r_1 -> post 1 m_at_17 m_wrong_18)) p0 jD mLn oF m_at_5 aHp bZ aR aE bI aW m_x gR pW nG oO qO qQ)) 60 jD mLn oF aQ4 aHp qO qQ) p0 jD mLn oF rP dQ bZ aR aE bI aW m_x gR pW nG oO qO qQ
set_option maxHeartbeats 4000000 in
set_option maxRecDepth 100000 in
theorem c_X10_held (l : Launch) (rn : Nat) (WT WH : aOw) (hT : aR8 l WT (6 * rn - 3) (200 * rn - 136)) (hH : aVV l WH (6 * rn) (200 * rn - 65)) (dC : Nat -> ClassId) (dI : Nat -> Nat -> Nat) (cI cC cZ cB cJ : ClassId) (a_m nY sJ eG iY lY jR jW jZ jO oQ bR aY jQ gY iJ mQ lJ jA bG mK jB mW mJ eJ dG sz : Nat) (p0 bT aG jC bL bY : Int32) (jD : Nat) (mLn oF rP dQ aJ aB bW bZ aR aE bI aW bU fJ dO bM bQ bO jY oX : Int32) (m_x gR pW nG oO qO qQ : Nat -> Int32) (post : Int32 -> Int32 -> Int32 -> Prop) (hw : wp_X10_held WT WH post p0 jD mLn oF rP dQ bZ aR aE bI aW m_x gR pW nG oO qO qQ) : Met l yX10_held (gw yX10_held aGx 3 (some .int)) (rm_X10_held rn) (va_Pc [.ref a_m, .int p0] (gPre (dC, dI) (tyl cI cC cZ cB cJ) (wd_X10_held cI cC cZ cB cJ a_m nY sJ eG iY lY jR jW jZ jO oQ bR aY jQ gY iJ mQ lJ jA bG mK jB mW mJ eJ dG bT aG jC bL bY jD mLn oF rP dQ aJ aB bW bZ aR aE bI aW bU fJ dO bM bQ bO jY oX m_x gR pW nG oO qO qQ) sz)) (q_X10_held dC dI cI cC cZ cB cJ (va_A (wd_X10_held cI cC cZ cB cJ a_m nY sJ eG iY lY jR jW jZ jO oQ bR aY jQ gY iJ mQ lJ jA bG mK jB mW mJ eJ dG bT aG jC bL bY jD mLn oF rP dQ aJ aB bW bZ aR aE bI aW bU fJ dO bM bQ bO jY oX m_x gR pW nG oO qO qQ) sz) a_m nY sJ eG iY lY jR jW jZ jO oQ bR aY jQ gY iJ mQ lJ jA bG mK jB mW mJ eJ dG bT aG jC bL bY jD mLn oF aJ aB bW bZ aR aE bI aW bU fJ dO bM bQ bO jY oX m_x gR pW nG oO qO qQ post) 0 0 (va_A (wd_X10_held cI cC cZ cB cJ a_m nY sJ eG iY lY jR jW jZ jO oQ bR aY jQ gY iJ mQ lJ jA bG mK jB mW mJ eJ dG bT aG jC bL bY jD mLn oF rP dQ aJ aB bW bZ aR aE bI aW bU fJ dO bM bQ bO jY oX m_x gR pW nG oO qO qQ) sz) := by
  refine aBJ (own := zX) (dC, dI) (tyl cI cC cZ cB cJ) (wd_X10_held cI cC cZ cB cJ a_m nY sJ eG iY lY jR jW jZ jO oQ bR aY jQ gY iJ mQ lJ jA bG mK jB mW mJ eJ dG bT aG jC bL bY jD mLn oF rP dQ aJ aB bW bZ aR aE bI aW bU fJ dO bM bQ bO jY oX m_x gR pW nG oO qO qQ) sz [.ref a_m, .int p0] (fun A => q_X10_held dC dI cI cC cZ cB cJ A a_m nY sJ eG iY lY jR jW jZ jO oQ bR aY jQ gY iJ mQ lJ jA bG mK jB mW mJ eJ dG bT aG jC bL bY jD mLn oF aJ aB bW bZ aR aE bI aW bU fJ dO bM bQ bO jY oX m_x gR pW nG oO qO qQ post) aFY rfl (lbz rfl) ?_
  intro p e s m args below meth c A H locs ls C0 hP hD hS hl
  have hl : lv_has ls 3 [(0, .ref a_m), (1, .int p0)] := hl
  obtain ⟨hx, hb, hr, hml, hown, hts, hlocks, hA, hK, hN, tL, tM, hZL, hTL, hZM, hTM, hZX⟩ := id C0
  have hp := hw
  unfold wp_X10_held at hp
  refine lv_aload_n hx hb bAF.1 rfl (lv_at hl 0 rfl) ?_
  refine lv_iload_n hx hb bAF.2.1 rfl (lv_at hl 1 rfl) ?_
  have hm := mgk (wc := (aI8 cI cC cZ cB cJ a_m nY sJ eG iY lY jR jW jZ jO oQ bR aY jQ gY iJ mQ lJ jA bG mK jB mW mJ eJ dG bT aG jC bL bY jD mLn oF rP dQ aJ aB bW bZ aR aE bI aW bU fJ dO bM bQ bO jY oX m_x gR pW nG oO qO qQ)) hP aRe 8 rfl rfl rfl
  refine yW hP hD hS hA (yS aRe) (aAi aRe) hm.1 hm.2 (aAk _) (zW _) (zF (As := [.int p0]) (rest := []) C0 hP hD hS (yS aRe) hm.1 (aAl _) 0 10 rfl rfl (c_X10_sum l rn WT WH hT hH dC dI cI cC cZ cB cJ a_m nY sJ eG iY lY jR jW jZ jO oQ bR aY jQ gY iJ mQ lJ jA bG mK jB mW mJ eJ dG H.size p0 bT aG jC bL bY jD mLn oF rP dQ aJ aB bW bZ aR aE bI aW bU fJ dO bM bQ bO jY oX m_x gR pW nG oO qO qQ _ hp) q_728 q_731 q_729 q_730 aBL h_X10_sum rfl rfl ⟨(show 6 * rn + 5 + 1 <= 6 * rn + 6 by omega), (show 8 + (5 + 11) + (200 * rn + 111) <= 200 * rn + 135 by omega)⟩ rfl rfl hl.1 rfl (lv_room (lbz rfl)) bAF.2.2.1 ⟨Nat.zero_le _, Nat.zero_le _⟩) (fun r_1 u H locs hp hP hD hS => ?_)
  obtain ⟨aQ4, aHp⟩ := u
  have hPD := PDm (ws' := (wd_X10_held cI cC cZ cB cJ a_m nY sJ eG iY lY jR jW jZ jO oQ bR aY jQ gY iJ mQ lJ jA bG mK jB mW mJ eJ dG bT aG jC bL bY jD mLn oF aQ4 aHp aJ aB bW bZ aR aE bI aW bU fJ dO bM bQ bO jY oX m_x gR pW nG oO qO qQ)) hP hD 8 rfl rfl rfl
  have hP := hPD.1
  have hD := hPD.2
  refine lv_istore_n (lv' := [(2, .int r_1), (0, .ref a_m), (1, .int p0)]) hx hb bAF.2.2.2.1 rfl hl (by decide) rfl (fun ls hl => ?_)
  refine lv_aload_n hx hb bAF.2.2.2.2.1 rfl (lv_at hl 1 rfl) ?_
  refine lv_bipush (v := 60) hx hb bAF.2.2.2.2.2.1 bp_60 ?_
  have hm := mgk (wc := (aOh cI cC cZ cB cJ a_m nY sJ eG iY lY jR jW jZ jO oQ bR aY jQ gY iJ mQ lJ jA bG mK jB mW mJ eJ dG bT aG jC bL bY jD mLn oF aQ4 aHp aJ aB bW bZ aR aE bI aW bU fJ dO bM bQ bO jY oX qO qQ)) hP aLf 8 rfl rfl rfl
  refine yW hP hD hS hA (yS aLf) (aAi aLf) hm.1 hm.2 (aAk _) (zW _) (zF (As := [.int 60]) (rest := []) C0 hP hD hS (yS aLf) hm.1 (aAl _) 0 10 rfl rfl (c_X10_passes l dC dI cI cC cZ cB cJ a_m nY sJ eG iY lY jR jW jZ jO oQ bR aY jQ gY iJ mQ lJ jA bG mK jB mW mJ eJ dG H.size 60 bT aG jC bL bY jD mLn oF aQ4 aHp aJ aB bW bZ aR aE bI aW bU fJ dO bM bQ bO jY oX qO qQ _ hp) q_662 q_665 q_663 q_664 aBL h_X10_passes rfl rfl ⟨(show 1 + 1 <= 6 * rn + 6 by omega), (show 8 + (2 + 11) + (20) <= 200 * rn + 135 by omega)⟩ rfl rfl hl.1 rfl (lv_room (lbz rfl)) bAF.2.2.2.2.2.2.1 ⟨Nat.zero_le _, Nat.zero_le _⟩) (fun r_4 u H locs hp hP hD hS => ?_)
  obtain ⟨m_at_5, rfl⟩ : ∃ z, z = u := ⟨_, rfl⟩
  have hPD := PDm (ws' := (wd_X10_held cI cC cZ cB cJ a_m nY sJ eG iY lY jR jW jZ jO oQ bR aY jQ gY iJ mQ lJ jA bG mK jB mW mJ eJ dG bT aG jC bL bY jD mLn oF m_at_5 aHp aJ aB bW bZ aR aE bI aW bU fJ dO bM bQ bO jY oX m_x gR pW nG oO qO qQ)) hP hD 8 rfl rfl rfl
  have hP := hPD.1
  have hD := hPD.2
  refine lv_if_eq (tgt := 30) hx hb bAF.2.2.2.2.2.2.2.1 (by decide) (fun hc => ?_) (fun hc => ?_)
  · have hp := hp.1 hc
    refine lv_aload_n hx hb aSD.2.1 rfl (lv_at hl 1 rfl) ?_
    refine lv_bipush (v := 62) hx hb aSD.2.2.1 bp_62 ?_
    have hm := mgk (wc := (aOh cI cC cZ cB cJ a_m nY sJ eG iY lY jR jW jZ jO oQ bR aY jQ gY iJ mQ lJ jA bG mK jB mW mJ eJ dG bT aG jC bL bY jD mLn oF m_at_5 aHp aJ aB bW bZ aR aE bI aW bU fJ dO bM bQ bO jY oX qO qQ)) hP aLf 8 rfl rfl rfl
    refine yW hP hD hS hA (yS aLf) (aAi aLf) hm.1 hm.2 (aAk _) (zW _) (zF (As := [.int 62]) (rest := []) C0 hP hD hS (yS aLf) hm.1 (aAl _) 0 10 rfl rfl (c_X10_passes l dC dI cI cC cZ cB cJ a_m nY sJ eG iY lY jR jW jZ jO oQ bR aY jQ gY iJ mQ lJ jA bG mK jB mW mJ eJ dG H.size 62 bT aG jC bL bY jD mLn oF m_at_5 aHp aJ aB bW bZ aR aE bI aW bU fJ dO bM bQ bO jY oX qO qQ _ hp) q_662 q_665 q_663 q_664 aBL h_X10_passes rfl rfl ⟨(show 1 + 1 <= 6 * rn + 6 by omega), (show 8 + (2 + 11) + (20) <= 200 * rn + 135 by omega)⟩ rfl rfl hl.1 rfl (lv_room (lbz rfl)) aSD.2.2.2.1 ⟨Nat.zero_le _, Nat.zero_le _⟩) (fun r_6 u H locs hp hP hD hS => ?_)
    obtain ⟨m_at_7, rfl⟩ : ∃ z, z = u := ⟨_, rfl⟩
    have hPD := PDm (ws' := (wd_X10_held cI cC cZ cB cJ a_m nY sJ eG iY lY jR jW jZ jO oQ bR aY jQ gY iJ mQ lJ jA bG mK jB mW mJ eJ dG bT aG jC bL bY jD mLn oF m_at_7 aHp aJ aB bW bZ aR aE bI aW bU fJ dO bM bQ bO jY oX m_x gR pW nG oO qO qQ)) hP hD 8 rfl rfl rfl
    have hP := hPD.1
    have hD := hPD.2
    refine lv_if_eq (tgt := 54) hx hb aSD.2.2.2.2.1 (by decide) (fun hc => ?_) (fun hc => ?_)
    · have hp := hp.1 hc
      refine lv_aload_n hx hb aSD.2.2.2.2.2.2.2.2.2.2.2.2.2.2.1 rfl (lv_at hl 1 rfl) ?_
      refine lv_bipush (v := 61) hx hb aSD.2.2.2.2.2.2.2.2.2.2.2.2.2.2.2 bp_61 ?_
      have hm := mgk (wc := (aOh cI cC cZ cB cJ a_m nY sJ eG iY lY jR jW jZ jO oQ bR aY jQ gY iJ mQ lJ jA bG mK jB mW mJ eJ dG bT aG jC bL bY jD mLn oF m_at_7 aHp aJ aB bW bZ aR aE bI aW bU fJ dO bM bQ bO jY oX qO qQ)) hP aLf 8 rfl rfl rfl
      refine yW hP hD hS hA (yS aLf) (aAi aLf) hm.1 hm.2 (aAk _) (zW _) (zF (As := [.int 61]) (rest := []) C0 hP hD hS (yS aLf) hm.1 (aAl _) 0 10 rfl rfl (c_X10_passes l dC dI cI cC cZ cB cJ a_m nY sJ eG iY lY jR jW jZ jO oQ bR aY jQ gY iJ mQ lJ jA bG mK jB mW mJ eJ dG H.size 61 bT aG jC bL bY jD mLn oF m_at_7 aHp aJ aB bW bZ aR aE bI aW bU fJ dO bM bQ bO jY oX qO qQ _ hp) q_662 q_665 q_663 q_664 aBL h_X10_passes rfl rfl ⟨(show 1 + 1 <= 6 * rn + 6 by omega), (show 8 + (2 + 11) + (20) <= 200 * rn + 135 by omega)⟩ rfl rfl hl.1 rfl (lv_room (lbz rfl)) bBB.1 ⟨Nat.zero_le _, Nat.zero_le _⟩) (fun r_8 u H locs hp hP hD hS => ?_)
      obtain ⟨aIj, rfl⟩ : ∃ z, z = u := ⟨_, rfl⟩
      have hPD := PDm (ws' := (wd_X10_held cI cC cZ cB cJ a_m nY sJ eG iY lY jR jW jZ jO oQ bR aY jQ gY iJ mQ lJ jA bG mK jB mW mJ eJ dG bT aG jC bL bY jD mLn oF aIj aHp aJ aB bW bZ aR aE bI aW bU fJ dO bM bQ bO jY oX m_x gR pW nG oO qO qQ)) hP hD 8 rfl rfl rfl
      have hP := hPD.1
      have hD := hPD.2
      refine lv_if_eq (tgt := 78) hx hb bBB.2.1 (by decide) (fun hc => ?_) (fun hc => ?_)
      · have hp := hp.1 hc
        refine lv_iload_n hx hb bBB.2.2.2.2.2.2.2.2.2.2.2.1 rfl (lv_at hl 0 rfl) ?_
        exact W.iret (v := r_1) hx hb hr (fun t ht hW => ⟨⟨r_1, (aIj, aHp), rfl, hp, by rw [ht]; exact hP, va_K.moved hW.alike hK, hD⟩, hS.F ht⟩) hS.2.2 bBB.2.2.2.2.2.2.2.2.2.2.2.2
      · have hp := hp.2 hc
        refine lv_iload_n hx hb bBB.2.2.1 rfl (lv_at hl 0 rfl) ?_
        refine lv_aload_n hx hb bBB.2.2.2.1 rfl (lv_at hl 1 rfl) ?_
        refine lv_iload_n hx hb bBB.2.2.2.2.1 rfl (lv_at hl 2 rfl) ?_
        have hm := mgk (wc := (aI8 cI cC cZ cB cJ a_m nY sJ eG iY lY jR jW jZ jO oQ bR aY jQ gY iJ mQ lJ jA bG mK jB mW mJ eJ dG bT aG jC bL bY jD mLn oF aIj aHp aJ aB bW bZ aR aE bI aW bU fJ dO bM bQ bO jY oX m_x gR pW nG oO qO qQ)) hP aRe 8 rfl rfl rfl
        refine yW hP hD hS hA (yS aRe) (aAi aRe) hm.1 hm.2 (aAk _) (zW _) (zF (As := [.int p0]) (rest := [.int r_1]) C0 hP hD hS (yS aRe) hm.1 (aAl _) 0 10 rfl rfl (c_X10_sum l rn WT WH hT hH dC dI cI cC cZ cB cJ a_m nY sJ eG iY lY jR jW jZ jO oQ bR aY jQ gY iJ mQ lJ jA bG mK jB mW mJ eJ dG H.size p0 bT aG jC bL bY jD mLn oF aIj aHp aJ aB bW bZ aR aE bI aW bU fJ dO bM bQ bO jY oX m_x gR pW nG oO qO qQ _ hp) q_728 q_731 q_729 q_730 aBL h_X10_sum rfl rfl ⟨(show 6 * rn + 5 + 1 <= 6 * rn + 6 by omega), (show 8 + (5 + 11) + (200 * rn + 111) <= 200 * rn + 135 by omega)⟩ rfl rfl hl.1 rfl (lv_room (lbz rfl)) bBB.2.2.2.2.2.1 ⟨Nat.zero_le _, Nat.zero_le _⟩) (fun r_10 u H locs hp hP hD hS => ?_)
        obtain ⟨m_at_11, aVJ⟩ := u
        have hPD := PDm (ws' := (wd_X10_held cI cC cZ cB cJ a_m nY sJ eG iY lY jR jW jZ jO oQ bR aY jQ gY iJ mQ lJ jA bG mK jB mW mJ eJ dG bT aG jC bL bY jD mLn oF m_at_11 aVJ aJ aB bW bZ aR aE bI aW bU fJ dO bM bQ bO jY oX m_x gR pW nG oO qO qQ)) hP hD 8 rfl rfl rfl
        have hP := hPD.1
        have hD := hPD.2
        refine lv_icmp_ne (tgt := 76) hx hb bBB.2.2.2.2.2.2.1 (by decide) (fun hc => ?_) (fun hc => ?_)
        · have hp := hp.1 hc
          refine lv_iconst (v := 0) hx hb bBB.2.2.2.2.2.2.2.2.2.1 aCi ?_
          exact W.iret (v := 0) hx hb hr (fun t ht hW => ⟨⟨0, (m_at_11, aVJ), rfl, hp, by rw [ht]; exact hP, va_K.moved hW.alike hK, hD⟩, hS.F ht⟩) hS.2.2 bBB.2.2.2.2.2.2.2.2.2.2.1
        · have hp := hp.2 hc
          refine lv_iconst (v := 1) hx hb bBB.2.2.2.2.2.2.2.1 aDx ?_
          refine lv_goto (tgt := 77) hx hb bBB.2.2.2.2.2.2.2.2.1 (by decide) ?_
          exact W.iret (v := 1) hx hb hr (fun t ht hW => ⟨⟨1, (m_at_11, aVJ), rfl, hp, by rw [ht]; exact hP, va_K.moved hW.alike hK, hD⟩, hS.F ht⟩) hS.2.2 bBB.2.2.2.2.2.2.2.2.2.2.1
    · have hp := hp.2 hc
      refine lv_iload_n hx hb aSD.2.2.2.2.2.1 rfl (lv_at hl 0 rfl) ?_
      refine lv_aload_n hx hb aSD.2.2.2.2.2.2.1 rfl (lv_at hl 1 rfl) ?_
      refine lv_iload_n hx hb aSD.2.2.2.2.2.2.2.1 rfl (lv_at hl 2 rfl) ?_
      have hm := mgk (wc := (aI8 cI cC cZ cB cJ a_m nY sJ eG iY lY jR jW jZ jO oQ bR aY jQ gY iJ mQ lJ jA bG mK jB mW mJ eJ dG bT aG jC bL bY jD mLn oF m_at_7 aHp aJ aB bW bZ aR aE bI aW bU fJ dO bM bQ bO jY oX m_x gR pW nG oO qO qQ)) hP aRe 8 rfl rfl rfl
      refine yW hP hD hS hA (yS aRe) (aAi aRe) hm.1 hm.2 (aAk _) (zW _) (zF (As := [.int p0]) (rest := [.int r_1]) C0 hP hD hS (yS aRe) hm.1 (aAl _) 0 10 rfl rfl (c_X10_sum l rn WT WH hT hH dC dI cI cC cZ cB cJ a_m nY sJ eG iY lY jR jW jZ jO oQ bR aY jQ gY iJ mQ lJ jA bG mK jB mW mJ eJ dG H.size p0 bT aG jC bL bY jD mLn oF m_at_7 aHp aJ aB bW bZ aR aE bI aW bU fJ dO bM bQ bO jY oX m_x gR pW nG oO qO qQ _ hp) q_728 q_731 q_729 q_730 aBL h_X10_sum rfl rfl ⟨(show 6 * rn + 5 + 1 <= 6 * rn + 6 by omega), (show 8 + (5 + 11) + (200 * rn + 111) <= 200 * rn + 135 by omega)⟩ rfl rfl hl.1 rfl (lv_room (lbz rfl)) aSD.2.2.2.2.2.2.2.2.1 ⟨Nat.zero_le _, Nat.zero_le _⟩) (fun r_13 u H locs hp hP hD hS => ?_)
      obtain ⟨m_at_14, m_wrong_15⟩ := u
      have hPD := PDm (ws' := (wd_X10_held cI cC cZ cB cJ a_m nY sJ eG iY lY jR jW jZ jO oQ bR aY jQ gY iJ mQ lJ jA bG mK jB mW mJ eJ dG bT aG jC bL bY jD mLn oF m_at_14 m_wrong_15 aJ aB bW bZ aR aE bI aW bU fJ dO bM bQ bO jY oX m_x gR pW nG oO qO qQ)) hP hD 8 rfl rfl rfl
      have hP := hPD.1
      have hD := hPD.2
      refine lv_icmp_le (tgt := 52) hx hb aSD.2.2.2.2.2.2.2.2.2.1 (by decide) (fun hc => ?_) (fun hc => ?_)
      · have hp := hp.1 hc
        refine lv_iconst (v := 0) hx hb aSD.2.2.2.2.2.2.2.2.2.2.2.2.1 aCi ?_
        exact W.iret (v := 0) hx hb hr (fun t ht hW => ⟨⟨0, (m_at_14, m_wrong_15), rfl, hp, by rw [ht]; exact hP, va_K.moved hW.alike hK, hD⟩, hS.F ht⟩) hS.2.2 aSD.2.2.2.2.2.2.2.2.2.2.2.2.2.1
      · have hp := hp.2 hc
        refine lv_iconst (v := 1) hx hb aSD.2.2.2.2.2.2.2.2.2.2.1 aDx ?_
        refine lv_goto (tgt := 53) hx hb aSD.2.2.2.2.2.2.2.2.2.2.2.1 (by decide) ?_
        exact W.iret (v := 1) hx hb hr (fun t ht hW => ⟨⟨1, (m_at_14, m_wrong_15), rfl, hp, by rw [ht]; exact hP, va_K.moved hW.alike hK, hD⟩, hS.F ht⟩) hS.2.2 aSD.2.2.2.2.2.2.2.2.2.2.2.2.2.1
  · have hp := hp.2 hc
    refine lv_iload_n hx hb bAF.2.2.2.2.2.2.2.2.1 rfl (lv_at hl 0 rfl) ?_
    refine lv_aload_n hx hb bAF.2.2.2.2.2.2.2.2.2.1 rfl (lv_at hl 1 rfl) ?_
    refine lv_iload_n hx hb bAF.2.2.2.2.2.2.2.2.2.2.1 rfl (lv_at hl 2 rfl) ?_
    have hm := mgk (wc := (aI8 cI cC cZ cB cJ a_m nY sJ eG iY lY jR jW jZ jO oQ bR aY jQ gY iJ mQ lJ jA bG mK jB mW mJ eJ dG bT aG jC bL bY jD mLn oF m_at_5 aHp aJ aB bW bZ aR aE bI aW bU fJ dO bM bQ bO jY oX m_x gR pW nG oO qO qQ)) hP aRe 8 rfl rfl rfl
    refine yW hP hD hS hA (yS aRe) (aAi aRe) hm.1 hm.2 (aAk _) (zW _) (zF (As := [.int p0]) (rest := [.int r_1]) C0 hP hD hS (yS aRe) hm.1 (aAl _) 0 10 rfl rfl (c_X10_sum l rn WT WH hT hH dC dI cI cC cZ cB cJ a_m nY sJ eG iY lY jR jW jZ jO oQ bR aY jQ gY iJ mQ lJ jA bG mK jB mW mJ eJ dG H.size p0 bT aG jC bL bY jD mLn oF m_at_5 aHp aJ aB bW bZ aR aE bI aW bU fJ dO bM bQ bO jY oX m_x gR pW nG oO qO qQ _ hp) q_728 q_731 q_729 q_730 aBL h_X10_sum rfl rfl ⟨(show 6 * rn + 5 + 1 <= 6 * rn + 6 by omega), (show 8 + (5 + 11) + (200 * rn + 111) <= 200 * rn + 135 by omega)⟩ rfl rfl hl.1 rfl (lv_room (lbz rfl)) bAF.2.2.2.2.2.2.2.2.2.2.2.1 ⟨Nat.zero_le _, Nat.zero_le _⟩) (fun r_16 u H locs hp hP hD hS => ?_)
    obtain ⟨m_at_17, m_wrong_18⟩ := u
    have hPD := PDm (ws' := (wd_X10_held cI cC cZ cB cJ a_m nY sJ eG iY lY jR jW jZ jO oQ bR aY jQ gY iJ mQ lJ jA bG mK jB mW mJ eJ dG bT aG jC bL bY jD mLn oF m_at_17 m_wrong_18 aJ aB bW bZ aR aE bI aW bU fJ dO bM bQ bO jY oX m_x gR pW nG oO qO qQ)) hP hD 8 rfl rfl rfl
    have hP := hPD.1
    have hD := hPD.2
    refine lv_icmp_ge (tgt := 28) hx hb bAF.2.2.2.2.2.2.2.2.2.2.2.2.1 (by decide) (fun hc => ?_) (fun hc => ?_)
    · have hp := hp.1 hc
      refine lv_iconst (v := 0) hx hb bAF.2.2.2.2.2.2.2.2.2.2.2.2.2.2.2 aCi ?_
      exact W.iret (v := 0) hx hb hr (fun t ht hW => ⟨⟨0, (m_at_17, m_wrong_18), rfl, hp, by rw [ht]; exact hP, va_K.moved hW.alike hK, hD⟩, hS.F ht⟩) hS.2.2 aSD.1
    · have hp := hp.2 hc
      refine lv_iconst (v := 1) hx hb bAF.2.2.2.2.2.2.2.2.2.2.2.2.2.1 aDx ?_
      refine lv_goto (tgt := 29) hx hb bAF.2.2.2.2.2.2.2.2.2.2.2.2.2.2.1 (by decide) ?_
      exact W.iret (v := 1) hx hb hr (fun t ht hW => ⟨⟨1, (m_at_17, m_wrong_18), rfl, hp, by rw [ht]; exact hP, va_K.moved hW.alike hK, hD⟩, hS.F ht⟩) hS.2.2 aSD.1
abbrev wd_X10_heldR (cI cC cZ cB cJ : ClassId) (a_m nY sJ eG iY lY jR jW jZ jO oQ bR aY jQ gY iJ mQ lJ jA bG mK jB mW mJ eJ dG : Nat) (bT aG jC bL bY : Int32) (jD : Nat) (mLn oF rP dQ aJ aB bW bZ aR aE bI aW bU fJ dO bM bQ bO jY oX : Int32) (m_x gR pW nG oO qO qQ : Nat -> Int32) : va_W := [(a_m, .inr (10, [.ref nY, .int bT, .ref sJ, .ref eG, .ref iY, .ref lY, .int aG, .ref jR, .ref jW, .ref jZ, .ref jO, .int jC, .ref oQ, .int bL, .int bY, rdv jO jQ jD, .int mLn, .int oF, .int rP, .int dQ, .ref bR, .ref aY, .int aJ, .int aB, .ref jQ, .int bW, .int bZ, .int aR, .int aE, .int bI, .int aW, .ref gY, .int bU, .ref iJ, .ref mQ, .int fJ, .ref lJ, .int dO, .ref jA, .ref bG, .int bM, .int bQ, .int bO, .ref mK, .ref jB, .ref mW, .int jY, .int oX, .ref mJ, .ref eJ, .ref dG])), (sJ, .inl (cI, 16, .inl m_x)), (eG, .inl (cI, 16, .inl gR)), (iY, .inl (cI, 16, .inl pW)), (jR, .inl (cI, 8, .inl nG)), (jW, .inl (cI, 8, .inl oO)), (jO, .inl (cB, 80, .inl qO)), (jQ, .inl (cB, 40, .inl qQ))]
abbrev q_X10_heldR (dC : Nat -> ClassId) (dI : Nat -> Nat -> Nat) (cI cC cZ cB cJ : ClassId) (A : Nat -> Prop) (a_m nY sJ eG iY lY jR jW jZ jO oQ bR aY jQ gY iJ mQ lJ jA bG mK jB mW mJ eJ dG : Nat) (bT aG jC bL bY : Int32) (jD : Nat) (mLn oF aJ aB bW bZ aR aE bI aW bU fJ dO bM bQ bO jY oX : Int32) (m_x gR pW nG oO qO qQ : Nat -> Int32) (post : Int32 -> Int32 -> Int32 -> Prop) : Array Value -> State -> Outcome -> State -> Prop := va_Qi (fun (r : Int32) (u : Int32 × Int32) => post r u.1 u.2) (fun u t => gB (dC, dI) (tyl cI cC cZ cB cJ) A (wd_X10_heldR cI cC cZ cB cJ a_m nY sJ eG iY lY jR jW jZ jO oQ bR aY jQ gY iJ mQ lJ jA bG mK jB mW mJ eJ dG bT aG jC bL bY jD mLn oF u.1 u.2 aJ aB bW bZ aR aE bI aW bU fJ dO bM bQ bO jY oX m_x gR pW nG oO qO qQ) t) A
abbrev rm_X10_heldR : Room := { frames := 264, cells := 0, slots := 0, locals := 8735 }
noncomputable def rr_X10 : Nat -> aOw × aOw := fun n => Nat.rec (motive := fun _ => aOw × aOw) ((fun _ _ _ _ _ _ _ _ _ _ _ _ _ _ _ _ _ _ _ => False), (fun _ _ _ _ _ _ _ _ _ _ _ _ _ _ _ _ _ _ _ => False)) (fun _ p => (wp_X10_thing p.1 p.2, wp_X10_held p.1 p.2)) n
set_option maxHeartbeats 4000000 in
theorem rr_X10_ok (l : Launch) : ∀ n, aR8 l (rr_X10 n).1 (6 * n - 3) (200 * n - 136) /\ aVV l (rr_X10 n).2 (6 * n) (200 * n - 65) := by
  intro n
  induction n with
  | zero =>
    constructor
    · intro dC dI cI cC cZ cB cJ a_m nY sJ eG iY lY jR jW jZ jO oQ bR aY jQ gY iJ mQ lJ jA bG mK jB mW mJ eJ dG sz p0 bT aG jC bL bY jD mLn oF rP dQ aJ aB bW bZ aR aE bI aW bU fJ dO bM bQ bO jY oX m_x gR pW nG oO qO qQ post h; exact False.elim h
    · intro dC dI cI cC cZ cB cJ a_m nY sJ eG iY lY jR jW jZ jO oQ bR aY jQ gY iJ mQ lJ jA bG mK jB mW mJ eJ dG sz p0 bT aG jC bL bY jD mLn oF rP dQ aJ aB bW bZ aR aE bI aW bU fJ dO bM bQ bO jY oX m_x gR pW nG oO qO qQ post h; exact False.elim h
  | succ n ih =>
    have h1 : aR8 l (rr_X10 (n + 1)).1 (6 * n + 3) (200 * n + 64) := fun dC dI cI cC cZ cB cJ a_m nY sJ eG iY lY jR jW jZ jO oQ bR aY jQ gY iJ mQ lJ jA bG mK jB mW mJ eJ dG sz p0 bT aG jC bL bY jD mLn oF rP dQ aJ aB bW bZ aR aE bI aW bU fJ dO bM bQ bO jY oX m_x gR pW nG oO qO qQ post h => c_X10_thing l n _ _ ih.1 ih.2 dC dI cI cC cZ cB cJ a_m nY sJ eG iY lY jR jW jZ jO oQ bR aY jQ gY iJ mQ lJ jA bG mK jB mW mJ eJ dG sz p0 bT aG jC bL bY jD mLn oF rP dQ aJ aB bW bZ aR aE bI aW bU fJ dO bM bQ bO jY oX m_x gR pW nG oO qO qQ post h
    have h2 : aVV l (rr_X10 (n + 1)).2 (6 * n + 6) (200 * n + 135) := fun dC dI cI cC cZ cB cJ a_m nY sJ eG iY lY jR jW jZ jO oQ bR aY jQ gY iJ mQ lJ jA bG mK jB mW mJ eJ dG sz p0 bT aG jC bL bY jD mLn oF rP dQ aJ aB bW bZ aR aE bI aW bU fJ dO bM bQ bO jY oX m_x gR pW nG oO qO qQ post h => c_X10_held l n _ _ ih.1 ih.2 dC dI cI cC cZ cB cJ a_m nY sJ eG iY lY jR jW jZ jO oQ bR aY jQ gY iJ mQ lJ jA bG mK jB mW mJ eJ dG sz p0 bT aG jC bL bY jD mLn oF rP dQ aJ aB bW bZ aR aE bI aW bU fJ dO bM bQ bO jY oX m_x gR pW nG oO qO qQ post h
    have e1 : 6 * (n + 1) - 3 = 6 * n + 3 := by omega
    have e2 : 200 * (n + 1) - 136 = 200 * n + 64 := by omega
    have e3 : 6 * (n + 1) = 6 * n + 6 := by omega
    have e4 : 200 * (n + 1) - 65 = 200 * n + 135 := by omega
    rw [e1, e2, e3, e4]
    exact ⟨h1, h2⟩
def wp_X10_heldR (post : Int32 -> Int32 -> Int32 -> Prop) (p0 : Int32) (jD : Nat) (mLn oF rP dQ bZ aR aE bI aW : Int32) (m_x gR pW nG oO qO qQ : Nat -> Int32) : Prop := wp_X10_held (rr_X10 43).1 (rr_X10 43).2 post p0 jD mLn oF rP dQ bZ aR aE bI aW m_x gR pW nG oO qO qQ
set_option maxHeartbeats 4000000 in
theorem c_X10_heldR (l : Launch) (dC : Nat -> ClassId) (dI : Nat -> Nat -> Nat) (cI cC cZ cB cJ : ClassId) (a_m nY sJ eG iY lY jR jW jZ jO oQ bR aY jQ gY iJ mQ lJ jA bG mK jB mW mJ eJ dG sz : Nat) (p0 bT aG jC bL bY : Int32) (jD : Nat) (mLn oF rP dQ aJ aB bW bZ aR aE bI aW bU fJ dO bM bQ bO jY oX : Int32) (m_x gR pW nG oO qO qQ : Nat -> Int32) (post : Int32 -> Int32 -> Int32 -> Prop) (hw : wp_X10_heldR post p0 jD mLn oF rP dQ bZ aR aE bI aW m_x gR pW nG oO qO qQ) : Met l yX10_held (gw yX10_held aGx 3 (some .int)) rm_X10_heldR (va_Pc [.ref a_m, .int p0] (gPre (dC, dI) (tyl cI cC cZ cB cJ) (wd_X10_heldR cI cC cZ cB cJ a_m nY sJ eG iY lY jR jW jZ jO oQ bR aY jQ gY iJ mQ lJ jA bG mK jB mW mJ eJ dG bT aG jC bL bY jD mLn oF rP dQ aJ aB bW bZ aR aE bI aW bU fJ dO bM bQ bO jY oX m_x gR pW nG oO qO qQ) sz)) (q_X10_heldR dC dI cI cC cZ cB cJ (va_A (wd_X10_heldR cI cC cZ cB cJ a_m nY sJ eG iY lY jR jW jZ jO oQ bR aY jQ gY iJ mQ lJ jA bG mK jB mW mJ eJ dG bT aG jC bL bY jD mLn oF rP dQ aJ aB bW bZ aR aE bI aW bU fJ dO bM bQ bO jY oX m_x gR pW nG oO qO qQ) sz) a_m nY sJ eG iY lY jR jW jZ jO oQ bR aY jQ gY iJ mQ lJ jA bG mK jB mW mJ eJ dG bT aG jC bL bY jD mLn oF aJ aB bW bZ aR aE bI aW bU fJ dO bM bQ bO jY oX m_x gR pW nG oO qO qQ post) 0 0 (va_A (wd_X10_heldR cI cC cZ cB cJ a_m nY sJ eG iY lY jR jW jZ jO oQ bR aY jQ gY iJ mQ lJ jA bG mK jB mW mJ eJ dG bT aG jC bL bY jD mLn oF rP dQ aJ aB bW bZ aR aE bI aW bU fJ dO bM bQ bO jY oX m_x gR pW nG oO qO qQ) sz) := c_X10_held l 43 _ _ (rr_X10_ok l 43).1 (rr_X10_ok l 43).2 dC dI cI cC cZ cB cJ a_m nY sJ eG iY lY jR jW jZ jO oQ bR aY jQ gY iJ mQ lJ jA bG mK jB mW mJ eJ dG sz p0 bT aG jC bL bY jD mLn oF rP dQ aJ aB bW bZ aR aE bI aW bU fJ dO bM bQ bO jY oX m_x gR pW nG oO qO qQ post hw
abbrev aJc (cI cC cZ cB cJ : ClassId) (a_m nY sJ eG iY lY jR jW jZ jO oQ bR aY jQ gY iJ mQ lJ jA bG mK jB mW mJ eJ dG : Nat) (bT aG jC bL bY : Int32) (jD : Nat) (mLn oF rP dQ aJ aB bW bZ aR aE bI aW bU fJ dO bM bQ bO jY oX : Int32) (m_x gR pW nG oO qO qQ : Nat -> Int32) : va_W := [(a_m, .inr (10, [.ref nY, .int bT, .ref sJ, .ref eG, .ref iY, .ref lY, .int aG, .ref jR, .ref jW, .ref jZ, .ref jO, .int jC, .ref oQ, .int bL, .int bY, rdv jO jQ jD, .int mLn, .int oF, .int rP, .int dQ, .ref bR, .ref aY, .int aJ, .int aB, .ref jQ, .int bW, .int bZ, .int aR, .int aE, .int bI, .int aW, .ref gY, .int bU, .ref iJ, .ref mQ, .int fJ, .ref lJ, .int dO, .ref jA, .ref bG, .int bM, .int bQ, .int bO, .ref mK, .ref jB, .ref mW, .int jY, .int oX, .ref mJ, .ref eJ, .ref dG])), (sJ, .inl (cI, 16, .inl m_x)), (eG, .inl (cI, 16, .inl gR)), (iY, .inl (cI, 16, .inl pW)), (jR, .inl (cI, 8, .inl nG)), (jW, .inl (cI, 8, .inl oO)), (jO, .inl (cB, 80, .inl qO)), (jQ, .inl (cB, 40, .inl qQ))]
abbrev q_X10_rule (dC : Nat -> ClassId) (dI : Nat -> Nat -> Nat) (cI cC cZ cB cJ : ClassId) (A : Nat -> Prop) (a_m nY sJ eG iY lY jR jW jZ jO oQ bR aY jQ gY iJ mQ lJ jA bG mK jB mW mJ eJ dG : Nat) (bT aG bL aJ aB aR aE bI aW bU fJ dO bM bQ bO jY oX : Int32) (m_x gR pW nG oO qO : Nat -> Int32) (post : Int32 -> Int32 -> Int32 -> Nat -> Int32 -> Int32 -> Int32 -> Int32 -> Int32 -> Int32 -> (Nat -> Int32) -> Prop) : Array Value -> State -> Outcome -> State -> Prop := va_Qi (fun (r : Int32) (u : Int32 × Int32 × Nat × Int32 × Int32 × Int32 × Int32 × Int32 × Int32 × (Nat -> Int32)) => post r u.1 u.2.1 u.2.2.1 u.2.2.2.1 u.2.2.2.2.1 u.2.2.2.2.2.1 u.2.2.2.2.2.2.1 u.2.2.2.2.2.2.2.1 u.2.2.2.2.2.2.2.2.1 u.2.2.2.2.2.2.2.2.2) (fun u t => gB (dC, dI) (tyl cI cC cZ cB cJ) A (aJc cI cC cZ cB cJ a_m nY sJ eG iY lY jR jW jZ jO oQ bR aY jQ gY iJ mQ lJ jA bG mK jB mW mJ eJ dG bT aG u.1 bL u.2.1 u.2.2.1 u.2.2.2.1 u.2.2.2.2.1 u.2.2.2.2.2.1 u.2.2.2.2.2.2.1 aJ aB u.2.2.2.2.2.2.2.1 u.2.2.2.2.2.2.2.2.1 aR aE bI aW bU fJ dO bM bQ bO jY oX m_x gR pW nG oO qO u.2.2.2.2.2.2.2.2.2) t) A
abbrev rm_X10_rule : Room := { frames := 265, cells := 0, slots := 0, locals := 8757 }
section S_X10_rule
variable {p : Program} {l : Launch} {e : Env} {s : State} {m : MethodId} {args : Array Value} {below : List Frame} {meth : Method} {c : Code} {dC : Nat -> ClassId} {dI : Nat -> Nat -> Nat} {cI cC cZ cB cJ : ClassId} {A : Nat -> Prop} {a_m nY sJ eG iY lY jR jW jZ jO oQ bR aY jQ gY iJ mQ lJ jA bG mK jB mW mJ eJ dG : Nat} {bT aG bL aJ aB aR aE bI aW bU fJ dO bM bQ bO jY oX : Int32} {m_x gR pW nG oO qO : Nat -> Int32} {post : Int32 -> Int32 -> Int32 -> Nat -> Int32 -> Int32 -> Int32 -> Int32 -> Int32 -> Int32 -> (Nat -> Int32) -> Prop}
def ws_X10_rule_73 (post : Int32 -> Int32 -> Int32 -> Nat -> Int32 -> Int32 -> Int32 -> Int32 -> Int32 -> Int32 -> (Nat -> Int32) -> Prop) (next : Int32 -> Int32 -> Int32 -> Int32 -> Nat -> Int32 -> Int32 -> Int32 -> Int32 -> Int32 -> Int32 -> (Nat -> Int32) -> Prop) (aR aE bI aW : Int32) (m_x gR pW nG oO qO : Nat -> Int32) (x1 x2 jC bY : Int32) (jD : Nat) (mLn oF rP dQ bW bZ : Int32) (qQ : Nat -> Int32) : Prop := (x1 <= x2 -> post 0 jC bY jD mLn oF rP dQ x1 bZ qQ) /\ (¬ x1 <= x2 -> vp_in x2 80 /\ (∀ v_6 : Int32, v_6 = qO x2.toNatClampNeg -> vp_in x2 40 /\ (∀ v_7 : Int32, v_7 = x2 + 1 -> next x1 v_7 jC bY jD mLn oF rP dQ bW bZ (upd qQ x2.toNatClampNeg (vp_nar .byte v_6)))))
noncomputable def wb_X10_rule_73 (post : Int32 -> Int32 -> Int32 -> Nat -> Int32 -> Int32 -> Int32 -> Int32 -> Int32 -> Int32 -> (Nat -> Int32) -> Prop) (aR aE bI aW : Int32) (m_x gR pW nG oO qO : Nat -> Int32) : Nat -> Int32 -> Int32 -> Int32 -> Int32 -> Nat -> Int32 -> Int32 -> Int32 -> Int32 -> Int32 -> Int32 -> (Nat -> Int32) -> Prop := fun n => Nat.rec (motive := fun _ => Int32 -> Int32 -> Int32 -> Int32 -> Nat -> Int32 -> Int32 -> Int32 -> Int32 -> Int32 -> Int32 -> (Nat -> Int32) -> Prop) (fun _ _ _ _ _ _ _ _ _ _ _ _ => False) (fun _ ih => ws_X10_rule_73 post ih aR aE bI aW m_x gR pW nG oO qO) n
set_option maxHeartbeats 4000000 in
set_option maxRecDepth 100000 in
theorem ks_X10_rule_73 (C0 : gc aEY (some .int) 3 zX (dC, dI) (tyl cI cC cZ cB cJ) A p s m args meth c) {next : Int32 -> Int32 -> Int32 -> Int32 -> Nat -> Int32 -> Int32 -> Int32 -> Int32 -> Int32 -> Int32 -> (Nat -> Int32) -> Prop} (hKn : ∀ (x1 : Int32) (x2 : Int32) (jC : Int32) (bY : Int32) (jD : Nat) (mLn : Int32) (oF : Int32) (rP : Int32) (dQ : Int32) (bW : Int32) (bZ : Int32) (qQ : Nat -> Int32) (H : Heap) (locs : List Loc) (ls : Array Slot), next x1 x2 jC bY jD mLn oF rP dQ bW bZ qQ -> va_P (dC, dI) classes (aJc cI cC cZ cB cJ a_m nY sJ eG iY lY jR jW jZ jO oQ bR aY jQ gY iJ mQ lJ jA bG mK jB mW mJ eJ dG bT aG jC bL bY jD mLn oF rP dQ aJ aB bW bZ aR aE bI aW bU fJ dO bM bQ bO jY oX m_x gR pW nG oO qO qQ) H -> va_D A (aJc cI cC cZ cB cJ a_m nY sJ eG iY lY jR jW jZ jO oQ bR aY jQ gY iJ mQ lJ jA bG mK jB mW mJ eJ dG bT aG jC bL bY jD mLn oF rP dQ aJ aB bW bZ aR aE bI aW bU fJ dO bM bQ bO jY oX m_x gR pW nG oO qO qQ) -> va_S A s.heap H locs -> lv_has ls 3 [(0, .ref a_m), (1, .int x1), (2, .int x2)] -> W p l e rm_X10_rule s m args below meth c H locs 0 0 (MQ below (q_X10_rule dC dI cI cC cZ cB cJ A a_m nY sJ eG iY lY jR jW jZ jO oQ bR aY jQ gY iJ mQ lJ jA bG mK jB mW mJ eJ dG bT aG bL aJ aB aR aE bI aW bU fJ dO bM bQ bO jY oX m_x gR pW nG oO qO post) args s 0 0 A) (F0 m 73 ls [])) : ∀ (x1 x2 jC bY : Int32) (jD : Nat) (mLn oF rP dQ bW bZ : Int32) (qQ : Nat -> Int32) (H : Heap) (locs : List Loc) (ls : Array Slot), (ws_X10_rule_73 post next aR aE bI aW m_x gR pW nG oO qO) x1 x2 jC bY jD mLn oF rP dQ bW bZ qQ -> va_P (dC, dI) classes (aJc cI cC cZ cB cJ a_m nY sJ eG iY lY jR jW jZ jO oQ bR aY jQ gY iJ mQ lJ jA bG mK jB mW mJ eJ dG bT aG jC bL bY jD mLn oF rP dQ aJ aB bW bZ aR aE bI aW bU fJ dO bM bQ bO jY oX m_x gR pW nG oO qO qQ) H -> va_D A (aJc cI cC cZ cB cJ a_m nY sJ eG iY lY jR jW jZ jO oQ bR aY jQ gY iJ mQ lJ jA bG mK jB mW mJ eJ dG bT aG jC bL bY jD mLn oF rP dQ aJ aB bW bZ aR aE bI aW bU fJ dO bM bQ bO jY oX m_x gR pW nG oO qO qQ) -> va_S A s.heap H locs -> lv_has ls 3 [(0, .ref a_m), (1, .int x1), (2, .int x2)] -> W p l e rm_X10_rule s m args below meth c H locs 0 0 (MQ below (q_X10_rule dC dI cI cC cZ cB cJ A a_m nY sJ eG iY lY jR jW jZ jO oQ bR aY jQ gY iJ mQ lJ jA bG mK jB mW mJ eJ dG bT aG bL aJ aB aR aE bI aW bU fJ dO bM bQ bO jY oX m_x gR pW nG oO qO post) args s 0 0 A) (F0 m 73 ls []) := by
  obtain ⟨hx, hb, hr, hml, hown, hts, hlocks, hA, hK, hN, tL, tM, hZL, hTL, hZM, hTM, hZX⟩ := id C0
  intro x1 x2 jC bY jD mLn oF rP dQ bW bZ qQ H locs ls hp hP hD hS hl
  unfold ws_X10_rule_73 at hp
  refine lv_iload_n hx hb aWP.2.2.2.2.2.2.2.2.2.2.1 rfl (lv_at hl 2 rfl) ?_
  refine lv_iload_n hx hb aWP.2.2.2.2.2.2.2.2.2.2.2.1 rfl (lv_at hl 1 rfl) ?_
  refine lv_icmp_ge (tgt := 96) hx hb aWP.2.2.2.2.2.2.2.2.2.2.2.2.1 (by decide) (fun hc => ?_) (fun hc => ?_)
  · have hp := hp.1 hc
    refine lv_aload_n hx hb eX10_rule_83.2.2.2.2.2.2.2.1 rfl (lv_at hl 0 rfl) ?_
    refine lv_iload_n hx hb eX10_rule_83.2.2.2.2.2.2.2.2.1 rfl (lv_at hl 1 rfl) ?_
    refine va_put (D := (dC, dI)) (ci := 10) (v := .int x1) (ty := .int) (C := zX) (T := aBe) (N := 51) hx hb hts aAt aD2 aAa aEC hown hK hP hD hS 0 rfl rfl 25 (lbz rfl) (hts _ q_732) (fun _ h9 => h9) rfl (aAa 25 (lbz rfl)) rfl rfl (lbz rfl) eX10_rule_83.2.2.2.2.2.2.2.2.2.1 (fun H locs hP hD hS => ?_)
    have hPD := PDw (ws' := (aJc cI cC cZ cB cJ a_m nY sJ eG iY lY jR jW jZ jO oQ bR aY jQ gY iJ mQ lJ jA bG mK jB mW mJ eJ dG bT aG jC bL bY jD mLn oF rP dQ aJ aB x1 bZ aR aE bI aW bU fJ dO bM bQ bO jY oX m_x gR pW nG oO qO qQ)) hP hD rfl
    have hP := hPD.1
    have hD := hPD.2
    refine lv_iconst (v := 0) hx hb eX10_rule_83.2.2.2.2.2.2.2.2.2.2.1 aCi ?_
    exact W.iret (v := 0) hx hb hr (fun t ht hW => ⟨⟨0, (jC, bY, jD, mLn, oF, rP, dQ, x1, bZ, qQ), rfl, hp, by rw [ht]; exact hP, va_K.moved hW.alike hK, hD⟩, hS.F ht⟩) hS.2.2 eX10_rule_83.2.2.2.2.2.2.2.2.2.2.2
  · have hp := hp.2 hc
    refine lv_aload_n hx hb aWP.2.2.2.2.2.2.2.2.2.2.2.2.2.1 rfl (lv_at hl 0 rfl) ?_
    refine va_get (D := (dC, dI)) (ci := 10) (v := .ref jQ) (C := zX) (T := aBe) (N := 51) hx hb hts aAt hown hK hP 0 rfl rfl 24 (lbz rfl) (hts _ q_733) (fun _ h9 => h9) rfl aWP.2.2.2.2.2.2.2.2.2.2.2.2.2.2.1 ?_
    refine lv_iload_n hx hb aWP.2.2.2.2.2.2.2.2.2.2.2.2.2.2.2 rfl (lv_at hl 2 rfl) ?_
    refine lv_aload_n hx hb eX10_rule_83.1 rfl (lv_at hl 0 rfl) ?_
    refine va_get (D := (dC, dI)) (ci := 10) (v := .ref jO) (C := zX) (T := aBe) (N := 51) hx hb hts aAt hown hK hP 0 rfl rfl 10 (lbz rfl) (hts _ q_640) (fun _ h9 => h9) rfl eX10_rule_83.2.1 ?_
    refine lv_iload_n hx hb eX10_rule_83.2.2.1 rfl (lv_at hl 2 rfl) ?_
    have hin := hp.1
    have hp := hp.2
    refine va_bald hx hb hK hP 6 3 rfl rfl hin eX10_rule_83.2.2.2.1 ?_
    refine lv_topi (fun v_6 ev_6 => ?_)
    have hp := hp v_6 ev_6
    have hin := hp.1
    have hp := hp.2
    refine va_bast hx hb hK hP hD hS 7 3 rfl rfl hin eX10_rule_83.2.2.2.2.1 (fun H locs hP hD hS => ?_)
    have hPD := PDw (ws' := (aJc cI cC cZ cB cJ a_m nY sJ eG iY lY jR jW jZ jO oQ bR aY jQ gY iJ mQ lJ jA bG mK jB mW mJ eJ dG bT aG jC bL bY jD mLn oF rP dQ aJ aB bW bZ aR aE bI aW bU fJ dO bM bQ bO jY oX m_x gR pW nG oO qO (upd qQ x2.toNatClampNeg (vp_nar .byte v_6)))) hP hD rfl
    have hP := hPD.1
    have hD := hPD.2
    obtain ⟨v_7, ev_7⟩ : ∃ y : Int32, y = x2 + 1 := ⟨_, rfl⟩
    refine lv_iinc (v := v_7) (lv' := [(2, .int v_7), (0, .ref a_m), (1, .int x1)]) hx hb eX10_rule_83.2.2.2.2.2.1 hl (k := 2) rfl (by rw [ev_7]; rfl) (by decide) rfl (fun ls hl => ?_)
    have hp := hp v_7 ev_7
    refine lv_goto (tgt := 73) hx hb eX10_rule_83.2.2.2.2.2.2.1 (by decide) ?_
    exact hKn x1 v_7 jC bY jD mLn oF rP dQ bW bZ (upd qQ x2.toNatClampNeg (vp_nar .byte v_6)) H locs ls hp hP hD hS (lv_sub hl [1, 2, 0] rfl)
set_option maxHeartbeats 4000000 in
set_option maxRecDepth 100000 in
theorem kb_X10_rule_73 (C0 : gc aEY (some .int) 3 zX (dC, dI) (tyl cI cC cZ cB cJ) A p s m args meth c) : ∀ (n : Nat), ∀ (x1 x2 jC bY : Int32) (jD : Nat) (mLn oF rP dQ bW bZ : Int32) (qQ : Nat -> Int32) (H : Heap) (locs : List Loc) (ls : Array Slot), (wb_X10_rule_73 post aR aE bI aW m_x gR pW nG oO qO n) x1 x2 jC bY jD mLn oF rP dQ bW bZ qQ -> va_P (dC, dI) classes (aJc cI cC cZ cB cJ a_m nY sJ eG iY lY jR jW jZ jO oQ bR aY jQ gY iJ mQ lJ jA bG mK jB mW mJ eJ dG bT aG jC bL bY jD mLn oF rP dQ aJ aB bW bZ aR aE bI aW bU fJ dO bM bQ bO jY oX m_x gR pW nG oO qO qQ) H -> va_D A (aJc cI cC cZ cB cJ a_m nY sJ eG iY lY jR jW jZ jO oQ bR aY jQ gY iJ mQ lJ jA bG mK jB mW mJ eJ dG bT aG jC bL bY jD mLn oF rP dQ aJ aB bW bZ aR aE bI aW bU fJ dO bM bQ bO jY oX m_x gR pW nG oO qO qQ) -> va_S A s.heap H locs -> lv_has ls 3 [(0, .ref a_m), (1, .int x1), (2, .int x2)] -> W p l e rm_X10_rule s m args below meth c H locs 0 0 (MQ below (q_X10_rule dC dI cI cC cZ cB cJ A a_m nY sJ eG iY lY jR jW jZ jO oQ bR aY jQ gY iJ mQ lJ jA bG mK jB mW mJ eJ dG bT aG bL aJ aB aR aE bI aW bU fJ dO bM bQ bO jY oX m_x gR pW nG oO qO post) args s 0 0 A) (F0 m 73 ls []) := by
  intro n
  induction n with
  | zero =>
    intro x1 x2 jC bY jD mLn oF rP dQ bW bZ qQ H locs ls hp
    exact False.elim hp
  | succ n ih =>
    intro x1 x2 jC bY jD mLn oF rP dQ bW bZ qQ H locs ls hp
    exact ks_X10_rule_73 C0 ih x1 x2 jC bY jD mLn oF rP dQ bW bZ qQ H locs ls hp
def ws_X10_rule_71 (post : Int32 -> Int32 -> Int32 -> Nat -> Int32 -> Int32 -> Int32 -> Int32 -> Int32 -> Int32 -> (Nat -> Int32) -> Prop) (aR aE bI aW : Int32) (m_x gR pW nG oO qO : Nat -> Int32) (x1 jC bY : Int32) (jD : Nat) (mLn oF rP dQ bW bZ : Int32) (qQ : Nat -> Int32) : Prop := ∃ n : Nat, wb_X10_rule_73 post aR aE bI aW m_x gR pW nG oO qO n x1 0 jC bY jD mLn oF rP dQ bW bZ qQ
set_option maxHeartbeats 4000000 in
set_option maxRecDepth 100000 in
theorem ks_X10_rule_71 (C0 : gc aEY (some .int) 3 zX (dC, dI) (tyl cI cC cZ cB cJ) A p s m args meth c) : ∀ (x1 jC bY : Int32) (jD : Nat) (mLn oF rP dQ bW bZ : Int32) (qQ : Nat -> Int32) (H : Heap) (locs : List Loc) (ls : Array Slot), (ws_X10_rule_71 post aR aE bI aW m_x gR pW nG oO qO) x1 jC bY jD mLn oF rP dQ bW bZ qQ -> va_P (dC, dI) classes (aJc cI cC cZ cB cJ a_m nY sJ eG iY lY jR jW jZ jO oQ bR aY jQ gY iJ mQ lJ jA bG mK jB mW mJ eJ dG bT aG jC bL bY jD mLn oF rP dQ aJ aB bW bZ aR aE bI aW bU fJ dO bM bQ bO jY oX m_x gR pW nG oO qO qQ) H -> va_D A (aJc cI cC cZ cB cJ a_m nY sJ eG iY lY jR jW jZ jO oQ bR aY jQ gY iJ mQ lJ jA bG mK jB mW mJ eJ dG bT aG jC bL bY jD mLn oF rP dQ aJ aB bW bZ aR aE bI aW bU fJ dO bM bQ bO jY oX m_x gR pW nG oO qO qQ) -> va_S A s.heap H locs -> lv_has ls 3 [(0, .ref a_m), (1, .int x1)] -> W p l e rm_X10_rule s m args below meth c H locs 0 0 (MQ below (q_X10_rule dC dI cI cC cZ cB cJ A a_m nY sJ eG iY lY jR jW jZ jO oQ bR aY jQ gY iJ mQ lJ jA bG mK jB mW mJ eJ dG bT aG bL aJ aB aR aE bI aW bU fJ dO bM bQ bO jY oX m_x gR pW nG oO qO post) args s 0 0 A) (F0 m 71 ls []) := by
  obtain ⟨hx, hb, hr, hml, hown, hts, hlocks, hA, hK, hN, tL, tM, hZL, hTL, hZM, hTM, hZX⟩ := id C0
  intro x1 jC bY jD mLn oF rP dQ bW bZ qQ H locs ls hp hP hD hS hl
  unfold ws_X10_rule_71 at hp
  refine lv_iconst (v := 0) hx hb aWP.2.2.2.2.2.2.2.2.1 aCi ?_
  refine lv_istore_n (lv' := [(2, .int 0), (0, .ref a_m), (1, .int x1)]) hx hb aWP.2.2.2.2.2.2.2.2.2.1 rfl hl (by decide) rfl (fun ls hl => ?_)
  obtain ⟨n9, hp⟩ := hp
  exact kb_X10_rule_73 C0 n9 x1 0 jC bY jD mLn oF rP dQ bW bZ qQ H locs ls hp hP hD hS (lv_sub hl [1, 2, 0] rfl)
def ws_X10_rule_57 (post : Int32 -> Int32 -> Int32 -> Nat -> Int32 -> Int32 -> Int32 -> Int32 -> Int32 -> Int32 -> (Nat -> Int32) -> Prop) (aR aE bI aW : Int32) (m_x gR pW nG oO qO : Nat -> Int32) (x1 jC bY : Int32) (jD : Nat) (mLn oF rP dQ bW bZ : Int32) (qQ : Nat -> Int32) : Prop := aRX (fun r_11 => (¬ r_11 = 0 -> ws_X10_rule_71 post aR aE bI aW m_x gR pW nG oO qO x1 jC bY jD mLn oF rP dQ bW bZ qQ) /\ (r_11 = 0 -> post ((-1) - dQ) jC bY jD mLn oF rP dQ bW bZ qQ)) dQ
set_option maxHeartbeats 4000000 in
set_option maxRecDepth 100000 in
theorem ks_X10_rule_57 (C0 : gc aEY (some .int) 3 zX (dC, dI) (tyl cI cC cZ cB cJ) A p s m args meth c) : ∀ (x1 jC bY : Int32) (jD : Nat) (mLn oF rP dQ bW bZ : Int32) (qQ : Nat -> Int32) (H : Heap) (locs : List Loc) (ls : Array Slot), (ws_X10_rule_57 post aR aE bI aW m_x gR pW nG oO qO) x1 jC bY jD mLn oF rP dQ bW bZ qQ -> va_P (dC, dI) classes (aJc cI cC cZ cB cJ a_m nY sJ eG iY lY jR jW jZ jO oQ bR aY jQ gY iJ mQ lJ jA bG mK jB mW mJ eJ dG bT aG jC bL bY jD mLn oF rP dQ aJ aB bW bZ aR aE bI aW bU fJ dO bM bQ bO jY oX m_x gR pW nG oO qO qQ) H -> va_D A (aJc cI cC cZ cB cJ a_m nY sJ eG iY lY jR jW jZ jO oQ bR aY jQ gY iJ mQ lJ jA bG mK jB mW mJ eJ dG bT aG jC bL bY jD mLn oF rP dQ aJ aB bW bZ aR aE bI aW bU fJ dO bM bQ bO jY oX m_x gR pW nG oO qO qQ) -> va_S A s.heap H locs -> lv_has ls 3 [(0, .ref a_m), (1, .int x1)] -> W p l e rm_X10_rule s m args below meth c H locs 0 0 (MQ below (q_X10_rule dC dI cI cC cZ cB cJ A a_m nY sJ eG iY lY jR jW jZ jO oQ bR aY jQ gY iJ mQ lJ jA bG mK jB mW mJ eJ dG bT aG bL aJ aB aR aE bI aW bU fJ dO bM bQ bO jY oX m_x gR pW nG oO qO post) args s 0 0 A) (F0 m 57 ls []) := by
  obtain ⟨hx, hb, hr, hml, hown, hts, hlocks, hA, hK, hN, tL, tM, hZL, hTL, hZM, hTM, hZX⟩ := id C0
  intro x1 jC bY jD mLn oF rP dQ bW bZ qQ H locs ls hp hP hD hS hl
  unfold ws_X10_rule_57 at hp
  refine lv_aload_n hx hb aWP.1 rfl (lv_at hl 0 rfl) ?_
  have hm := mgk (wc := (aVf cI cC cZ cB cJ a_m nY sJ eG iY lY jR jW jZ jO oQ bR aY jQ gY iJ mQ lJ jA bG mK jB mW mJ eJ dG bT aG jC bL bY jD mLn oF rP dQ aJ aB bW bZ aR aE bI aW bU fJ dO bM bQ bO jY oX)) hP mk_206 8 rfl rfl rfl
  refine yW hP hD hS hA (yS mk_206) (aAi mk_206) hm.1 hm.2 (aAk _) (zW _) (zF (As := []) (rest := []) C0 hP hD hS (yS mk_206) hm.1 (aAl _) 0 10 rfl rfl (c_X10_fine l dC dI cI cC cZ cB cJ a_m nY sJ eG iY lY jR jW jZ jO oQ bR aY jQ gY iJ mQ lJ jA bG mK jB mW mJ eJ dG H.size bT aG jC bL bY jD mLn oF rP dQ aJ aB bW bZ aR aE bI aW bU fJ dO bM bQ bO jY oX _ hp) q_650 q_653 q_651 q_652 aBL h_X10_fine rfl rfl ⟨lbz rfl, lbz rfl⟩ rfl rfl hl.1 rfl (lv_room (lbz rfl)) aWP.2.1 ⟨Nat.zero_le _, Nat.zero_le _⟩) (fun r_11 u H locs hp hP hD hS => ?_)
  have hPD := PDm (ws' := (aJc cI cC cZ cB cJ a_m nY sJ eG iY lY jR jW jZ jO oQ bR aY jQ gY iJ mQ lJ jA bG mK jB mW mJ eJ dG bT aG jC bL bY jD mLn oF rP dQ aJ aB bW bZ aR aE bI aW bU fJ dO bM bQ bO jY oX m_x gR pW nG oO qO qQ)) hP hD 8 rfl rfl rfl
  have hP := hPD.1
  have hD := hPD.2
  refine lv_if_ne (tgt := 71) hx hb aWP.2.2.1 (by decide) (fun hc => ?_) (fun hc => ?_)
  · have hp := hp.1 hc
    exact ks_X10_rule_71 C0 x1 jC bY jD mLn oF rP dQ bW bZ qQ H locs ls hp hP hD hS (lv_sub hl [0, 1] rfl)
  · have hp := hp.2 hc
    refine lv_iconst (v := (-1)) hx hb aWP.2.2.2.1 aEJ ?_
    refine lv_aload_n hx hb aWP.2.2.2.2.1 rfl (lv_at hl 0 rfl) ?_
    refine va_get (D := (dC, dI)) (ci := 10) (v := .int dQ) (C := zX) (T := aBe) (N := 51) hx hb hts aAt hown hK hP 0 rfl rfl 19 (lbz rfl) (hts _ q_649) (fun _ h9 => h9) rfl aWP.2.2.2.2.2.1 ?_
    refine lv_isub hx hb aWP.2.2.2.2.2.2.1 ?_
    exact W.iret (v := (-1) - dQ) hx hb hr (fun t ht hW => ⟨⟨(-1) - dQ, (jC, bY, jD, mLn, oF, rP, dQ, bW, bZ, qQ), rfl, hp, by rw [ht]; exact hP, va_K.moved hW.alike hK, hD⟩, hS.F ht⟩) hS.2.2 aWP.2.2.2.2.2.2.2.1
end S_X10_rule
def wp_X10_rule (post : Int32 -> Int32 -> Int32 -> Nat -> Int32 -> Int32 -> Int32 -> Int32 -> Int32 -> Int32 -> (Nat -> Int32) -> Prop) (jC bY : Int32) (jD : Nat) (mLn oF rP dQ bW bZ aR aE bI aW : Int32) (m_x gR pW nG oO qO qQ : Nat -> Int32) : Prop := wp_X10_begin (fun aH5 aEf aKT aQ5 aGh => (jC <= 0 -> ws_X10_rule_71 post aR aE bI aW m_x gR pW nG oO qO jC 0 0 aH5 aEf aKT aQ5 aGh bW 0 qQ) /\ (¬ jC <= 0 -> wp_X10_heldR (fun r_8 aIj aEq => (jC <= aIj -> ws_X10_rule_57 post aR aE bI aW m_x gR pW nG oO qO jC 0 0 aH5 aEf aKT aIj aEq bW 0 qQ) /\ (¬ jC <= aIj -> aSQ (fun aVJ => ws_X10_rule_57 post aR aE bI aW m_x gR pW nG oO qO jC 0 0 aH5 aEf aKT aIj aVJ bW 0 qQ) aIj aEq)) 0 aH5 aEf aKT aQ5 aGh 0 aR aE bI aW m_x gR pW nG oO qO qQ)) jC 40 jD mLn oF rP dQ
set_option maxHeartbeats 4000000 in
set_option maxRecDepth 100000 in
theorem c_X10_rule (l : Launch) (dC : Nat -> ClassId) (dI : Nat -> Nat -> Nat) (cI cC cZ cB cJ : ClassId) (a_m nY sJ eG iY lY jR jW jZ jO oQ bR aY jQ gY iJ mQ lJ jA bG mK jB mW mJ eJ dG sz : Nat) (bT aG jC bL bY : Int32) (jD : Nat) (mLn oF rP dQ aJ aB bW bZ aR aE bI aW bU fJ dO bM bQ bO jY oX : Int32) (m_x gR pW nG oO qO qQ : Nat -> Int32) (post : Int32 -> Int32 -> Int32 -> Nat -> Int32 -> Int32 -> Int32 -> Int32 -> Int32 -> Int32 -> (Nat -> Int32) -> Prop) (hw : wp_X10_rule post jC bY jD mLn oF rP dQ bW bZ aR aE bI aW m_x gR pW nG oO qO qQ) : Met l yX10_rule (gw yX10_rule aEY 3 (some .int)) rm_X10_rule (va_Pc [.ref a_m] (gPre (dC, dI) (tyl cI cC cZ cB cJ) (aJc cI cC cZ cB cJ a_m nY sJ eG iY lY jR jW jZ jO oQ bR aY jQ gY iJ mQ lJ jA bG mK jB mW mJ eJ dG bT aG jC bL bY jD mLn oF rP dQ aJ aB bW bZ aR aE bI aW bU fJ dO bM bQ bO jY oX m_x gR pW nG oO qO qQ) sz)) (q_X10_rule dC dI cI cC cZ cB cJ (va_A (aJc cI cC cZ cB cJ a_m nY sJ eG iY lY jR jW jZ jO oQ bR aY jQ gY iJ mQ lJ jA bG mK jB mW mJ eJ dG bT aG jC bL bY jD mLn oF rP dQ aJ aB bW bZ aR aE bI aW bU fJ dO bM bQ bO jY oX m_x gR pW nG oO qO qQ) sz) a_m nY sJ eG iY lY jR jW jZ jO oQ bR aY jQ gY iJ mQ lJ jA bG mK jB mW mJ eJ dG bT aG bL aJ aB aR aE bI aW bU fJ dO bM bQ bO jY oX m_x gR pW nG oO qO post) 0 0 (va_A (aJc cI cC cZ cB cJ a_m nY sJ eG iY lY jR jW jZ jO oQ bR aY jQ gY iJ mQ lJ jA bG mK jB mW mJ eJ dG bT aG jC bL bY jD mLn oF rP dQ aJ aB bW bZ aR aE bI aW bU fJ dO bM bQ bO jY oX m_x gR pW nG oO qO qQ) sz) := by
  refine aBJ (own := zX) (dC, dI) (tyl cI cC cZ cB cJ) (aJc cI cC cZ cB cJ a_m nY sJ eG iY lY jR jW jZ jO oQ bR aY jQ gY iJ mQ lJ jA bG mK jB mW mJ eJ dG bT aG jC bL bY jD mLn oF rP dQ aJ aB bW bZ aR aE bI aW bU fJ dO bM bQ bO jY oX m_x gR pW nG oO qO qQ) sz [.ref a_m] (fun A => q_X10_rule dC dI cI cC cZ cB cJ A a_m nY sJ eG iY lY jR jW jZ jO oQ bR aY jQ gY iJ mQ lJ jA bG mK jB mW mJ eJ dG bT aG bL aJ aB aR aE bI aW bU fJ dO bM bQ bO jY oX m_x gR pW nG oO qO post) aFY rfl (lbz rfl) ?_
  intro p e s m args below meth c A H locs ls C0 hP hD hS hl
  have hl : lv_has ls 3 [(0, .ref a_m)] := hl
  obtain ⟨hx, hb, hr, hml, hown, hts, hlocks, hA, hK, hN, tL, tM, hZL, hTL, hZM, hTM, hZX⟩ := id C0
  have hp := hw
  unfold wp_X10_rule at hp
  refine lv_aload_n hx hb bAM.1 rfl (lv_at hl 0 rfl) ?_
  refine lv_iconst (v := 0) hx hb bAM.2.1 aCi ?_
  refine va_put (D := (dC, dI)) (ci := 10) (v := .int 0) (ty := .int) (C := zX) (T := aBe) (N := 51) hx hb hts aAt aD2 aAa aEC hown hK hP hD hS 0 rfl rfl 14 (lbz rfl) (hts _ q_638) (fun _ h9 => h9) rfl (aAa 14 (lbz rfl)) rfl rfl (lbz rfl) bAM.2.2.1 (fun H locs hP hD hS => ?_)
  have hPD := PDw (ws' := (aJc cI cC cZ cB cJ a_m nY sJ eG iY lY jR jW jZ jO oQ bR aY jQ gY iJ mQ lJ jA bG mK jB mW mJ eJ dG bT aG jC bL 0 jD mLn oF rP dQ aJ aB bW bZ aR aE bI aW bU fJ dO bM bQ bO jY oX m_x gR pW nG oO qO qQ)) hP hD rfl
  have hP := hPD.1
  have hD := hPD.2
  refine lv_aload_n hx hb bAM.2.2.2.1 rfl (lv_at hl 0 rfl) ?_
  refine va_get (D := (dC, dI)) (ci := 10) (v := .int jC) (C := zX) (T := aBe) (N := 51) hx hb hts aAt hown hK hP 0 rfl rfl 11 (lbz rfl) (hts _ q_639) (fun _ h9 => h9) rfl bAM.2.2.2.2.1 ?_
  refine lv_istore_n (lv' := [(1, .int jC), (0, .ref a_m)]) hx hb bAM.2.2.2.2.2.1 rfl hl (by decide) rfl (fun ls hl => ?_)
  refine lv_aload_n hx hb bAM.2.2.2.2.2.2.1 rfl (lv_at hl 1 rfl) ?_
  refine lv_aload_n hx hb bAM.2.2.2.2.2.2.2.1 rfl (lv_at hl 1 rfl) ?_
  refine va_get (D := (dC, dI)) (ci := 10) (v := .ref jO) (C := zX) (T := aBe) (N := 51) hx hb hts aAt hown hK hP 0 rfl rfl 10 (lbz rfl) (hts _ q_640) (fun _ h9 => h9) rfl bAM.2.2.2.2.2.2.2.2.1 ?_
  refine lv_iload_n hx hb bAM.2.2.2.2.2.2.2.2.2.1 rfl (lv_at hl 0 rfl) ?_
  refine lv_bipush (v := 40) hx hb bAM.2.2.2.2.2.2.2.2.2.2.1 bp_40 ?_
  have hm := mgk (wc := (aRM cI cC cZ cB cJ a_m nY sJ eG iY lY jR jW jZ jO oQ bR aY jQ gY iJ mQ lJ jA bG mK jB mW mJ eJ dG bT aG jC bL 0 jD mLn oF rP dQ aJ aB bW bZ aR aE bI aW bU fJ dO bM bQ bO jY oX)) hP mk_206 8 rfl rfl rfl
  refine aBn hP hD hS hA (yS mk_206) (aAi mk_206) hm.1 hm.2 (aAk _) (zW _) (zF (As := [.ref jO, .int jC, .int 40]) (rest := []) C0 hP hD hS (yS mk_206) hm.1 (aAl _) 0 10 rfl rfl (c_X10_begin l dC dI cI cC cZ cB cJ a_m nY sJ eG iY lY jR jW jZ jO oQ bR aY jQ gY iJ mQ lJ jA bG mK jB mW mJ eJ dG H.size jC 40 bT aG jC bL 0 jD mLn oF rP dQ aJ aB bW bZ aR aE bI aW bU fJ dO bM bQ bO jY oX _ hp) q_680 q_683 q_681 q_682 aBL h_X10_begin rfl rfl ⟨lbz rfl, lbz rfl⟩ rfl rfl hl.1 rfl (lv_room (lbz rfl)) bAM.2.2.2.2.2.2.2.2.2.2.2.1 ⟨Nat.zero_le _, Nat.zero_le _⟩) (fun u H locs hp hP hD hS => ?_)
  obtain ⟨aH5, aEf, aKT, aQ5, aGh⟩ := u
  have hPD := PDm (ws' := (aJc cI cC cZ cB cJ a_m nY sJ eG iY lY jR jW jZ jO oQ bR aY jQ gY iJ mQ lJ jA bG mK jB mW mJ eJ dG bT aG jC bL 0 aH5 aEf aKT aQ5 aGh aJ aB bW bZ aR aE bI aW bU fJ dO bM bQ bO jY oX m_x gR pW nG oO qO qQ)) hP hD 8 rfl rfl rfl
  have hP := hPD.1
  have hD := hPD.2
  refine lv_aload_n hx hb bAM.2.2.2.2.2.2.2.2.2.2.2.2.1 rfl (lv_at hl 1 rfl) ?_
  refine lv_iconst (v := 0) hx hb bAM.2.2.2.2.2.2.2.2.2.2.2.2.2.1 aCi ?_
  refine va_put (D := (dC, dI)) (ci := 10) (v := .int 0) (ty := .int) (C := zX) (T := aBe) (N := 51) hx hb hts aAt aD2 aAa aEC hown hK hP hD hS 0 rfl rfl 11 (lbz rfl) (hts _ q_639) (fun _ h9 => h9) rfl (aAa 11 (lbz rfl)) rfl rfl (lbz rfl) bAM.2.2.2.2.2.2.2.2.2.2.2.2.2.2.1 (fun H locs hP hD hS => ?_)
  have hPD := PDw (ws' := (aJc cI cC cZ cB cJ a_m nY sJ eG iY lY jR jW jZ jO oQ bR aY jQ gY iJ mQ lJ jA bG mK jB mW mJ eJ dG bT aG 0 bL 0 aH5 aEf aKT aQ5 aGh aJ aB bW bZ aR aE bI aW bU fJ dO bM bQ bO jY oX m_x gR pW nG oO qO qQ)) hP hD rfl
  have hP := hPD.1
  have hD := hPD.2
  refine lv_aload_n hx hb bAM.2.2.2.2.2.2.2.2.2.2.2.2.2.2.2 rfl (lv_at hl 1 rfl) ?_
  refine lv_iconst (v := 0) hx hb aWO.1 aCi ?_
  refine va_put (D := (dC, dI)) (ci := 10) (v := .int 0) (ty := .boolean) (C := zX) (T := aBe) (N := 51) hx hb hts aAt aD2 aAa aEC hown hK hP hD hS 0 rfl rfl 26 (lbz rfl) (hts _ q_711) (fun _ h9 => h9) rfl (aAa 26 (lbz rfl)) rfl rfl (lbz rfl) aWO.2.1 (fun H locs hP hD hS => ?_)
  have hPD := PDw (ws' := (aJc cI cC cZ cB cJ a_m nY sJ eG iY lY jR jW jZ jO oQ bR aY jQ gY iJ mQ lJ jA bG mK jB mW mJ eJ dG bT aG 0 bL 0 aH5 aEf aKT aQ5 aGh aJ aB bW 0 aR aE bI aW bU fJ dO bM bQ bO jY oX m_x gR pW nG oO qO qQ)) hP hD rfl
  have hP := hPD.1
  have hD := hPD.2
  refine lv_iload_n hx hb aWO.2.2.1 rfl (lv_at hl 0 rfl) ?_
  refine lv_if_le (tgt := 71) hx hb aWO.2.2.2.1 (by decide) (fun hc => ?_) (fun hc => ?_)
  · have hp := hp.1 hc
    exact ks_X10_rule_71 C0 jC 0 0 aH5 aEf aKT aQ5 aGh bW 0 qQ H locs ls hp hP hD hS (lv_sub hl [1, 0] rfl)
  · have hp := hp.2 hc
    refine lv_aload_n hx hb aWO.2.2.2.2.1 rfl (lv_at hl 1 rfl) ?_
    refine lv_iconst (v := 0) hx hb aWO.2.2.2.2.2.1 aCi ?_
    have hm := mgk (wc := (wd_X10_heldR cI cC cZ cB cJ a_m nY sJ eG iY lY jR jW jZ jO oQ bR aY jQ gY iJ mQ lJ jA bG mK jB mW mJ eJ dG bT aG 0 bL 0 aH5 aEf aKT aQ5 aGh aJ aB bW 0 aR aE bI aW bU fJ dO bM bQ bO jY oX m_x gR pW nG oO qO qQ)) hP aRe 8 rfl rfl rfl
    refine yW hP hD hS hA (yS aRe) (aAi aRe) hm.1 hm.2 (aAk _) (zW _) (zF (As := [.int 0]) (rest := []) C0 hP hD hS (yS aRe) hm.1 (aAl _) 0 10 rfl rfl (c_X10_heldR l dC dI cI cC cZ cB cJ a_m nY sJ eG iY lY jR jW jZ jO oQ bR aY jQ gY iJ mQ lJ jA bG mK jB mW mJ eJ dG H.size 0 bT aG 0 bL 0 aH5 aEf aKT aQ5 aGh aJ aB bW 0 aR aE bI aW bU fJ dO bM bQ bO jY oX m_x gR pW nG oO qO qQ _ hp) q_716 q_719 q_717 q_718 aBL h_X10_held rfl rfl ⟨lbz rfl, lbz rfl⟩ rfl rfl hl.1 rfl (lv_room (lbz rfl)) aWO.2.2.2.2.2.2.1 ⟨Nat.zero_le _, Nat.zero_le _⟩) (fun r_8 u H locs hp hP hD hS => ?_)
    obtain ⟨aIj, aEq⟩ := u
    have hPD := PDm (ws' := (aJc cI cC cZ cB cJ a_m nY sJ eG iY lY jR jW jZ jO oQ bR aY jQ gY iJ mQ lJ jA bG mK jB mW mJ eJ dG bT aG 0 bL 0 aH5 aEf aKT aIj aEq aJ aB bW 0 aR aE bI aW bU fJ dO bM bQ bO jY oX m_x gR pW nG oO qO qQ)) hP hD 8 rfl rfl rfl
    have hP := hPD.1
    have hD := hPD.2
    refine lv_pop hx hb aWO.2.2.2.2.2.2.2.1 rfl ?_
    refine lv_aload_n hx hb aWO.2.2.2.2.2.2.2.2.1 rfl (lv_at hl 1 rfl) ?_
    refine va_get (D := (dC, dI)) (ci := 10) (v := .int aIj) (C := zX) (T := aBe) (N := 51) hx hb hts aAt hown hK hP 0 rfl rfl 18 (lbz rfl) (hts _ q_648) (fun _ h9 => h9) rfl aWO.2.2.2.2.2.2.2.2.2.1 ?_
    refine lv_iload_n hx hb aWO.2.2.2.2.2.2.2.2.2.2.1 rfl (lv_at hl 0 rfl) ?_
    refine lv_icmp_ge (tgt := 57) hx hb aWO.2.2.2.2.2.2.2.2.2.2.2.1 (by decide) (fun hc => ?_) (fun hc => ?_)
    · have hp := hp.1 hc
      exact ks_X10_rule_57 C0 jC 0 0 aH5 aEf aKT aIj aEq bW 0 qQ H locs ls hp hP hD hS (lv_sub hl [1, 0] rfl)
    · have hp := hp.2 hc
      refine lv_aload_n hx hb aWO.2.2.2.2.2.2.2.2.2.2.2.2.1 rfl (lv_at hl 1 rfl) ?_
      refine lv_aload_n hx hb aWO.2.2.2.2.2.2.2.2.2.2.2.2.2.1 rfl (lv_at hl 1 rfl) ?_
      refine va_get (D := (dC, dI)) (ci := 10) (v := .int aIj) (C := zX) (T := aBe) (N := 51) hx hb hts aAt hown hK hP 0 rfl rfl 18 (lbz rfl) (hts _ q_648) (fun _ h9 => h9) rfl aWO.2.2.2.2.2.2.2.2.2.2.2.2.2.2.1 ?_
      have hm := mgk (wc := (aSM cI cC cZ cB cJ a_m nY sJ eG iY lY jR jW jZ jO oQ bR aY jQ gY iJ mQ lJ jA bG mK jB mW mJ eJ dG bT aG 0 bL 0 aH5 aEf aKT aIj aEq aJ aB bW 0 aR aE bI aW bU fJ dO bM bQ bO jY oX)) hP mk_206 8 rfl rfl rfl
      refine aBn hP hD hS hA (yS mk_206) (aAi mk_206) hm.1 hm.2 (aAk _) (zW _) (zF (As := [.int aIj]) (rest := []) C0 hP hD hS (yS mk_206) hm.1 (aAl _) 0 10 rfl rfl (c_X10_fault l dC dI cI cC cZ cB cJ a_m nY sJ eG iY lY jR jW jZ jO oQ bR aY jQ gY iJ mQ lJ jA bG mK jB mW mJ eJ dG H.size aIj bT aG 0 bL 0 aH5 aEf aKT aIj aEq aJ aB bW 0 aR aE bI aW bU fJ dO bM bQ bO jY oX _ hp) q_654 q_657 q_655 q_656 aBL h_X10_fault rfl rfl ⟨lbz rfl, lbz rfl⟩ rfl rfl hl.1 rfl (lv_room (lbz rfl)) aWO.2.2.2.2.2.2.2.2.2.2.2.2.2.2.2 ⟨Nat.zero_le _, Nat.zero_le _⟩) (fun u H locs hp hP hD hS => ?_)
      obtain ⟨aVJ, rfl⟩ : ∃ z, z = u := ⟨_, rfl⟩
      have hPD := PDm (ws' := (aJc cI cC cZ cB cJ a_m nY sJ eG iY lY jR jW jZ jO oQ bR aY jQ gY iJ mQ lJ jA bG mK jB mW mJ eJ dG bT aG 0 bL 0 aH5 aEf aKT aIj aVJ aJ aB bW 0 aR aE bI aW bU fJ dO bM bQ bO jY oX m_x gR pW nG oO qO qQ)) hP hD 8 rfl rfl rfl
      have hP := hPD.1
      have hD := hPD.2
      exact ks_X10_rule_57 C0 jC 0 0 aH5 aEf aKT aIj aVJ bW 0 qQ H locs ls hp hP hD hS (lv_sub hl [1, 0] rfl)
abbrev aY2 (cI cC cZ cB cJ : ClassId) (a_m nY sJ eG iY lY jR jW jZ jO oQ bR aY jQ gY iJ mQ lJ jA bG mK jB mW mJ eJ dG : Nat) (bT aG jC bL bY : Int32) (jD : Nat) (mLn oF rP dQ aJ aB bW bZ aR aE bI aW bU fJ dO bM bQ bO jY oX : Int32) : va_W := [(a_m, .inr (10, [.ref nY, .int bT, .ref sJ, .ref eG, .ref iY, .ref lY, .int aG, .ref jR, .ref jW, .ref jZ, .ref jO, .int jC, .ref oQ, .int bL, .int bY, rdv jO jQ jD, .int mLn, .int oF, .int rP, .int dQ, .ref bR, .ref aY, .int aJ, .int aB, .ref jQ, .int bW, .int bZ, .int aR, .int aE, .int bI, .int aW, .ref gY, .int bU, .ref iJ, .ref mQ, .int fJ, .ref lJ, .int dO, .ref jA, .ref bG, .int bM, .int bQ, .int bO, .ref mK, .ref jB, .ref mW, .int jY, .int oX, .ref mJ, .ref eJ, .ref dG]))]
abbrev q_X10_isFruit (dC : Nat -> ClassId) (dI : Nat -> Nat -> Nat) (cI cC cZ cB cJ : ClassId) (A : Nat -> Prop) (a_m nY sJ eG iY lY jR jW jZ jO oQ bR aY jQ gY iJ mQ lJ jA bG mK jB mW mJ eJ dG : Nat) (bT aG jC bL bY : Int32) (jD : Nat) (mLn oF rP dQ aJ aB bW bZ aR aE bI aW bU fJ dO bM bQ bO jY oX : Int32) (post : Int32 -> Prop) : Array Value -> State -> Outcome -> State -> Prop := va_Qi (fun (r : Int32) (u : Unit) => post r) (fun u t => gB (dC, dI) (tyl cI cC cZ cB cJ) A (aY2 cI cC cZ cB cJ a_m nY sJ eG iY lY jR jW jZ jO oQ bR aY jQ gY iJ mQ lJ jA bG mK jB mW mJ eJ dG bT aG jC bL bY jD mLn oF rP dQ aJ aB bW bZ aR aE bI aW bU fJ dO bM bQ bO jY oX) t) A
abbrev rm_X10_isFruit : Room := { frames := 1, cells := 0, slots := 0, locals := 22 }
def aU8 (post : Int32 -> Prop) (p0 bT : Int32) : Prop := ∀ v_1 : Int32, v_1 = bT - 1 -> aJY (fun r_2 => narrow .boolean (.int r_2) = .int r_2 /\ post r_2) p0 0 v_1
set_option maxHeartbeats 4000000 in
set_option maxRecDepth 100000 in
theorem c_X10_isFruit (l : Launch) (dC : Nat -> ClassId) (dI : Nat -> Nat -> Nat) (cI cC cZ cB cJ : ClassId) (a_m nY sJ eG iY lY jR jW jZ jO oQ bR aY jQ gY iJ mQ lJ jA bG mK jB mW mJ eJ dG sz : Nat) (p0 bT aG jC bL bY : Int32) (jD : Nat) (mLn oF rP dQ aJ aB bW bZ aR aE bI aW bU fJ dO bM bQ bO jY oX : Int32) (post : Int32 -> Prop) (hw : aU8 post p0 bT) : Met l yX10_isFruit (gw yX10_isFruit cX10_isFruit 2 (some .boolean)) rm_X10_isFruit (va_Pc [.ref a_m, .int p0] (gPre (dC, dI) (tyl cI cC cZ cB cJ) (aY2 cI cC cZ cB cJ a_m nY sJ eG iY lY jR jW jZ jO oQ bR aY jQ gY iJ mQ lJ jA bG mK jB mW mJ eJ dG bT aG jC bL bY jD mLn oF rP dQ aJ aB bW bZ aR aE bI aW bU fJ dO bM bQ bO jY oX) sz)) (q_X10_isFruit dC dI cI cC cZ cB cJ (va_A (aY2 cI cC cZ cB cJ a_m nY sJ eG iY lY jR jW jZ jO oQ bR aY jQ gY iJ mQ lJ jA bG mK jB mW mJ eJ dG bT aG jC bL bY jD mLn oF rP dQ aJ aB bW bZ aR aE bI aW bU fJ dO bM bQ bO jY oX) sz) a_m nY sJ eG iY lY jR jW jZ jO oQ bR aY jQ gY iJ mQ lJ jA bG mK jB mW mJ eJ dG bT aG jC bL bY jD mLn oF rP dQ aJ aB bW bZ aR aE bI aW bU fJ dO bM bQ bO jY oX post) 0 0 (va_A (aY2 cI cC cZ cB cJ a_m nY sJ eG iY lY jR jW jZ jO oQ bR aY jQ gY iJ mQ lJ jA bG mK jB mW mJ eJ dG bT aG jC bL bY jD mLn oF rP dQ aJ aB bW bZ aR aE bI aW bU fJ dO bM bQ bO jY oX) sz) := by
  refine aBJ (own := zX) (dC, dI) (tyl cI cC cZ cB cJ) (aY2 cI cC cZ cB cJ a_m nY sJ eG iY lY jR jW jZ jO oQ bR aY jQ gY iJ mQ lJ jA bG mK jB mW mJ eJ dG bT aG jC bL bY jD mLn oF rP dQ aJ aB bW bZ aR aE bI aW bU fJ dO bM bQ bO jY oX) sz [.ref a_m, .int p0] (fun A => q_X10_isFruit dC dI cI cC cZ cB cJ A a_m nY sJ eG iY lY jR jW jZ jO oQ bR aY jQ gY iJ mQ lJ jA bG mK jB mW mJ eJ dG bT aG jC bL bY jD mLn oF rP dQ aJ aB bW bZ aR aE bI aW bU fJ dO bM bQ bO jY oX post) aFY rfl (lbz rfl) ?_
  intro p e s m args below meth c A H locs ls C0 hP hD hS hl
  have hl : lv_has ls 2 [(0, .ref a_m), (1, .int p0)] := hl
  obtain ⟨hx, hb, hr, hml, hown, hts, hlocks, hA, hK, hN, tL, tM, hZL, hTL, hZM, hTM, hZX⟩ := id C0
  have hp := hw
  unfold aU8 at hp
  refine lv_iload_n hx hb eX10_isFruit_0.1 rfl (lv_at hl 1 rfl) ?_
  refine lv_iconst (v := 0) hx hb eX10_isFruit_0.2.1 aCi ?_
  refine lv_aload_n hx hb eX10_isFruit_0.2.2.1 rfl (lv_at hl 0 rfl) ?_
  refine va_get (D := (dC, dI)) (ci := 10) (v := .int bT) (C := zX) (T := aBe) (N := 51) hx hb hts aAt hown hK hP 0 rfl rfl 1 (lbz rfl) (hts _ q_677) (fun _ h9 => h9) rfl eX10_isFruit_0.2.2.2.1 ?_
  refine lv_iconst (v := 1) hx hb eX10_isFruit_0.2.2.2.2.1 aDx ?_
  refine lv_isub hx hb eX10_isFruit_0.2.2.2.2.2.1 ?_
  refine lv_topi (fun v_1 aFJ => ?_)
  have hp := hp v_1 aFJ
  refine yW (wc := (aKW cI cC cZ cB cJ)) hP hD hS hA [] [0] rfl rfl rfl rfl (aDn (As := [.int p0, .int 0, .int v_1]) (rest := []) C0 hP hD hS [] rfl rfl (aRu l dC dI cI cC cZ cB cJ H.size p0 0 v_1 _ hp) q_641 q_644 q_643 aBL aRx rfl rfl ⟨lbz rfl, lbz rfl⟩ rfl rfl hl.1 rfl (lv_room (lbz rfl)) eX10_isFruit_0.2.2.2.2.2.2.1 ⟨Nat.zero_le _, Nat.zero_le _⟩) (fun r_2 u H locs hp hP hD hS => ?_)
  have hPD := PDs (ws' := (aY2 cI cC cZ cB cJ a_m nY sJ eG iY lY jR jW jZ jO oQ bR aY jQ gY iJ mQ lJ jA bG mK jB mW mJ eJ dG bT aG jC bL bY jD mLn oF rP dQ aJ aB bW bZ aR aE bI aW bU fJ dO bM bQ bO jY oX)) hP hD [0] (by decide) rfl
  have hP := hPD.1
  have hD := hPD.2
  have hnz := hp.1
  have hp := hp.2
  exact W.zret (v := r_2) hx hb hr hnz (fun t ht hW => ⟨⟨r_2, (), rfl, hp, by rw [ht]; exact hP, va_K.moved hW.alike hK, hD⟩, hS.F ht⟩) hS.2.2 eX10_isFruit_0.2.2.2.2.2.2.2
abbrev aGS (cI cC cZ cB cJ : ClassId) (a_m nY sJ eG iY lY jR jW jZ jO oQ bR aY jQ gY iJ mQ lJ jA bG mK jB mW mJ eJ dG : Nat) (bT aG jC bL bY : Int32) (jD : Nat) (mLn oF rP dQ aJ aB bW bZ aR aE bI aW bU fJ dO bM bQ bO jY oX : Int32) (qG : Nat -> Int32) : va_W := [(a_m, .inr (10, [.ref nY, .int bT, .ref sJ, .ref eG, .ref iY, .ref lY, .int aG, .ref jR, .ref jW, .ref jZ, .ref jO, .int jC, .ref oQ, .int bL, .int bY, rdv jO jQ jD, .int mLn, .int oF, .int rP, .int dQ, .ref bR, .ref aY, .int aJ, .int aB, .ref jQ, .int bW, .int bZ, .int aR, .int aE, .int bI, .int aW, .ref gY, .int bU, .ref iJ, .ref mQ, .int fJ, .ref lJ, .int dO, .ref jA, .ref bG, .int bM, .int bQ, .int bO, .ref mK, .ref jB, .ref mW, .int jY, .int oX, .ref mJ, .ref eJ, .ref dG])), (nY, .inl (cI, 21, .inl qG))]
abbrev q_X10_which (dC : Nat -> ClassId) (dI : Nat -> Nat -> Nat) (cI cC cZ cB cJ : ClassId) (A : Nat -> Prop) (a_m nY sJ eG iY lY jR jW jZ jO oQ bR aY jQ gY iJ mQ lJ jA bG mK jB mW mJ eJ dG : Nat) (bT aG jC bL bY : Int32) (jD : Nat) (mLn oF rP dQ aJ aB bW bZ aR aE bI aW bU fJ dO bM bQ bO jY oX : Int32) (qG : Nat -> Int32) (post : Int32 -> Prop) : Array Value -> State -> Outcome -> State -> Prop := va_Qi (fun (r : Int32) (u : Unit) => post r) (fun u t => gB (dC, dI) (tyl cI cC cZ cB cJ) A (aGS cI cC cZ cB cJ a_m nY sJ eG iY lY jR jW jZ jO oQ bR aY jQ gY iJ mQ lJ jA bG mK jB mW mJ eJ dG bT aG jC bL bY jD mLn oF rP dQ aJ aB bW bZ aR aE bI aW bU fJ dO bM bQ bO jY oX qG) t) A
abbrev rm_X10_which : Room := { frames := 0, cells := 0, slots := 0, locals := 0 }
section S_X10_which
variable {p : Program} {l : Launch} {e : Env} {s : State} {m : MethodId} {args : Array Value} {below : List Frame} {meth : Method} {c : Code} {dC : Nat -> ClassId} {dI : Nat -> Nat -> Nat} {cI cC cZ cB cJ : ClassId} {A : Nat -> Prop} {a_m nY sJ eG iY lY jR jW jZ jO oQ bR aY jQ gY iJ mQ lJ jA bG mK jB mW mJ eJ dG : Nat} {bT aG jC bL bY : Int32} {jD : Nat} {mLn oF rP dQ aJ aB bW bZ aR aE bI aW bU fJ dO bM bQ bO jY oX : Int32} {qG : Nat -> Int32} {post : Int32 -> Prop}
def ws_X10_which_31 (post : Int32 -> Prop) (K5 : Int32 -> Int32 -> Int32 -> Prop) (bT : Int32) (qG : Nat -> Int32) (x2 x4 k0 k1 : Int32) : Prop := ∀ v_2 : Int32, v_2 = k0 ||| k1 -> ∀ v_3 : Int32, v_3 = x4 + 1 -> K5 x2 v_2 v_3
set_option maxHeartbeats 4000000 in
set_option maxRecDepth 100000 in
theorem ks_X10_which_31 (C0 : gc aLU (some .int) 5 zX (dC, dI) (tyl cI cC cZ cB cJ) A p s m args meth c) {K5 : Int32 -> Int32 -> Int32 -> Prop} (hK5 : ∀ (x2 : Int32) (x3 : Int32) (x4 : Int32) (H : Heap) (locs : List Loc) (ls : Array Slot), K5 x2 x3 x4 -> va_P (dC, dI) classes (aGS cI cC cZ cB cJ a_m nY sJ eG iY lY jR jW jZ jO oQ bR aY jQ gY iJ mQ lJ jA bG mK jB mW mJ eJ dG bT aG jC bL bY jD mLn oF rP dQ aJ aB bW bZ aR aE bI aW bU fJ dO bM bQ bO jY oX qG) H -> va_D A (aGS cI cC cZ cB cJ a_m nY sJ eG iY lY jR jW jZ jO oQ bR aY jQ gY iJ mQ lJ jA bG mK jB mW mJ eJ dG bT aG jC bL bY jD mLn oF rP dQ aJ aB bW bZ aR aE bI aW bU fJ dO bM bQ bO jY oX qG) -> va_S A s.heap H locs -> lv_has ls 5 [(0, .ref a_m), (1, .ref nY), (2, .int x2), (3, .int x3), (4, .int x4)] -> W p l e rm_X10_which s m args below meth c H locs 0 0 (MQ below (q_X10_which dC dI cI cC cZ cB cJ A a_m nY sJ eG iY lY jR jW jZ jO oQ bR aY jQ gY iJ mQ lJ jA bG mK jB mW mJ eJ dG bT aG jC bL bY jD mLn oF rP dQ aJ aB bW bZ aR aE bI aW bU fJ dO bM bQ bO jY oX qG post) args s 0 0 A) (F0 m 5 ls [])) : ∀ (x2 x4 k0 k1 : Int32) (H : Heap) (locs : List Loc) (ls : Array Slot), (ws_X10_which_31 post K5 bT qG) x2 x4 k0 k1 -> va_P (dC, dI) classes (aGS cI cC cZ cB cJ a_m nY sJ eG iY lY jR jW jZ jO oQ bR aY jQ gY iJ mQ lJ jA bG mK jB mW mJ eJ dG bT aG jC bL bY jD mLn oF rP dQ aJ aB bW bZ aR aE bI aW bU fJ dO bM bQ bO jY oX qG) H -> va_D A (aGS cI cC cZ cB cJ a_m nY sJ eG iY lY jR jW jZ jO oQ bR aY jQ gY iJ mQ lJ jA bG mK jB mW mJ eJ dG bT aG jC bL bY jD mLn oF rP dQ aJ aB bW bZ aR aE bI aW bU fJ dO bM bQ bO jY oX qG) -> va_S A s.heap H locs -> lv_has ls 5 [(0, .ref a_m), (1, .ref nY), (2, .int x2), (4, .int x4)] -> W p l e rm_X10_which s m args below meth c H locs 0 0 (MQ below (q_X10_which dC dI cI cC cZ cB cJ A a_m nY sJ eG iY lY jR jW jZ jO oQ bR aY jQ gY iJ mQ lJ jA bG mK jB mW mJ eJ dG bT aG jC bL bY jD mLn oF rP dQ aJ aB bW bZ aR aE bI aW bU fJ dO bM bQ bO jY oX qG post) args s 0 0 A) (F0 m 31 ls [.int k1, .int k0]) := by
  obtain ⟨hx, hb, hr, hml, hown, hts, hlocks, hA, hK, hN, tL, tM, hZL, hTL, hZM, hTM, hZX⟩ := id C0
  intro x2 x4 k0 k1 H locs ls hp hP hD hS hl
  unfold ws_X10_which_31 at hp
  refine lv_ior hx hb eX10_which_26.2.2.2.1 ?_
  refine lv_topi (fun v_2 aGO => ?_)
  have hp := hp v_2 aGO
  refine lv_istore_n (lv' := [(3, .int v_2), (0, .ref a_m), (1, .ref nY), (2, .int x2), (4, .int x4)]) hx hb eX10_which_26.2.2.2.2.1 rfl hl (by decide) rfl (fun ls hl => ?_)
  obtain ⟨v_3, aGW⟩ : ∃ y : Int32, y = x4 + 1 := ⟨_, rfl⟩
  refine lv_iinc (v := v_3) (lv' := [(4, .int v_3), (3, .int v_2), (0, .ref a_m), (1, .ref nY), (2, .int x2)]) hx hb eX10_which_26.2.2.2.2.2.1 hl (k := 4) rfl (by rw [aGW]; rfl) (by decide) rfl (fun ls hl => ?_)
  have hp := hp v_3 aGW
  refine lv_goto (tgt := 5) hx hb eX10_which_26.2.2.2.2.2.2.1 (by decide) ?_
  exact hK5 x2 v_2 v_3 H locs ls hp hP hD hS (lv_sub hl [2, 3, 4, 1, 0] rfl)
def ws_X10_which_5 (post : Int32 -> Prop) (next : Int32 -> Int32 -> Int32 -> Prop) (bT : Int32) (qG : Nat -> Int32) (x2 x3 x4 : Int32) : Prop := (bT <= x4 -> post x3) /\ (¬ bT <= x4 -> vp_in x4 21 /\ (∀ v_1 : Int32, v_1 = qG x4.toNatClampNeg -> (¬ v_1 = x2 -> ws_X10_which_31 post next bT qG x2 x4 x3 0) /\ (v_1 = x2 -> ∀ v_4 : Int32, v_4 = 1 <<< (x4 &&& 31) -> ws_X10_which_31 post next bT qG x2 x4 x3 v_4)))
noncomputable def wb_X10_which_5 (post : Int32 -> Prop) (bT : Int32) (qG : Nat -> Int32) : Nat -> Int32 -> Int32 -> Int32 -> Prop := fun n => Nat.rec (motive := fun _ => Int32 -> Int32 -> Int32 -> Prop) (fun _ _ _ => False) (fun _ ih => ws_X10_which_5 post ih bT qG) n
set_option maxHeartbeats 4000000 in
set_option maxRecDepth 100000 in
theorem ks_X10_which_5 (C0 : gc aLU (some .int) 5 zX (dC, dI) (tyl cI cC cZ cB cJ) A p s m args meth c) {next : Int32 -> Int32 -> Int32 -> Prop} (hKn : ∀ (x2 : Int32) (x3 : Int32) (x4 : Int32) (H : Heap) (locs : List Loc) (ls : Array Slot), next x2 x3 x4 -> va_P (dC, dI) classes (aGS cI cC cZ cB cJ a_m nY sJ eG iY lY jR jW jZ jO oQ bR aY jQ gY iJ mQ lJ jA bG mK jB mW mJ eJ dG bT aG jC bL bY jD mLn oF rP dQ aJ aB bW bZ aR aE bI aW bU fJ dO bM bQ bO jY oX qG) H -> va_D A (aGS cI cC cZ cB cJ a_m nY sJ eG iY lY jR jW jZ jO oQ bR aY jQ gY iJ mQ lJ jA bG mK jB mW mJ eJ dG bT aG jC bL bY jD mLn oF rP dQ aJ aB bW bZ aR aE bI aW bU fJ dO bM bQ bO jY oX qG) -> va_S A s.heap H locs -> lv_has ls 5 [(0, .ref a_m), (1, .ref nY), (2, .int x2), (3, .int x3), (4, .int x4)] -> W p l e rm_X10_which s m args below meth c H locs 0 0 (MQ below (q_X10_which dC dI cI cC cZ cB cJ A a_m nY sJ eG iY lY jR jW jZ jO oQ bR aY jQ gY iJ mQ lJ jA bG mK jB mW mJ eJ dG bT aG jC bL bY jD mLn oF rP dQ aJ aB bW bZ aR aE bI aW bU fJ dO bM bQ bO jY oX qG post) args s 0 0 A) (F0 m 5 ls [])) : ∀ (x2 x3 x4 : Int32) (H : Heap) (locs : List Loc) (ls : Array Slot), (ws_X10_which_5 post next bT qG) x2 x3 x4 -> va_P (dC, dI) classes (aGS cI cC cZ cB cJ a_m nY sJ eG iY lY jR jW jZ jO oQ bR aY jQ gY iJ mQ lJ jA bG mK jB mW mJ eJ dG bT aG jC bL bY jD mLn oF rP dQ aJ aB bW bZ aR aE bI aW bU fJ dO bM bQ bO jY oX qG) H -> va_D A (aGS cI cC cZ cB cJ a_m nY sJ eG iY lY jR jW jZ jO oQ bR aY jQ gY iJ mQ lJ jA bG mK jB mW mJ eJ dG bT aG jC bL bY jD mLn oF rP dQ aJ aB bW bZ aR aE bI aW bU fJ dO bM bQ bO jY oX qG) -> va_S A s.heap H locs -> lv_has ls 5 [(0, .ref a_m), (1, .ref nY), (2, .int x2), (3, .int x3), (4, .int x4)] -> W p l e rm_X10_which s m args below meth c H locs 0 0 (MQ below (q_X10_which dC dI cI cC cZ cB cJ A a_m nY sJ eG iY lY jR jW jZ jO oQ bR aY jQ gY iJ mQ lJ jA bG mK jB mW mJ eJ dG bT aG jC bL bY jD mLn oF rP dQ aJ aB bW bZ aR aE bI aW bU fJ dO bM bQ bO jY oX qG post) args s 0 0 A) (F0 m 5 ls []) := by
  obtain ⟨hx, hb, hr, hml, hown, hts, hlocks, hA, hK, hN, tL, tM, hZL, hTL, hZM, hTM, hZX⟩ := id C0
  intro x2 x3 x4 H locs ls hp hP hD hS hl
  unfold ws_X10_which_5 at hp
  refine lv_iload hx hb aWZ.2.2.2.2.1 (lv_at hl 4 rfl) ?_
  refine lv_aload_n hx hb aWZ.2.2.2.2.2.1 rfl (lv_at hl 0 rfl) ?_
  refine va_get (D := (dC, dI)) (ci := 10) (v := .int bT) (C := zX) (T := aBe) (N := 51) hx hb hts aAt hown hK hP 0 rfl rfl 1 (lbz rfl) (hts _ q_677) (fun _ h9 => h9) rfl aWZ.2.2.2.2.2.2.1 ?_
  refine lv_icmp_ge (tgt := 39) hx hb aWZ.2.2.2.2.2.2.2.1 (by decide) (fun hc => ?_) (fun hc => ?_)
  · have hp := hp.1 hc
    refine lv_iload_n hx hb eX10_which_26.2.2.2.2.2.2.2.1 rfl (lv_at hl 3 rfl) ?_
    exact W.iret (v := x3) hx hb hr (fun t ht hW => ⟨⟨x3, (), rfl, hp, by rw [ht]; exact hP, va_K.moved hW.alike hK, hD⟩, hS.F ht⟩) hS.2.2 eX10_which_26.2.2.2.2.2.2.2.2
  · have hp := hp.2 hc
    refine lv_iload_n hx hb aWZ.2.2.2.2.2.2.2.2.1 rfl (lv_at hl 3 rfl) ?_
    refine lv_aload_n hx hb aWZ.2.2.2.2.2.2.2.2.2.1 rfl (lv_at hl 1 rfl) ?_
    refine lv_iload hx hb aWZ.2.2.2.2.2.2.2.2.2.2.1 (lv_at hl 4 rfl) ?_
    have hin := hp.1
    have hp := hp.2
    refine va_iald hx hb hK hP 1 0 rfl rfl hin aWZ.2.2.2.2.2.2.2.2.2.2.2.1 ?_
    refine lv_topi (fun v_1 aFJ => ?_)
    have hp := hp v_1 aFJ
    refine lv_iload_n hx hb aWZ.2.2.2.2.2.2.2.2.2.2.2.2.1 rfl (lv_at hl 2 rfl) ?_
    refine lv_icmp_ne (tgt := 30) hx hb aWZ.2.2.2.2.2.2.2.2.2.2.2.2.2.1 (by decide) (fun hc => ?_) (fun hc => ?_)
    · have hp := hp.1 hc
      refine lv_iconst (v := 0) hx hb eX10_which_26.2.2.1 aCi ?_
      exact ks_X10_which_31 C0 hKn x2 x4 x3 0 H locs ls hp hP hD hS (lv_sub hl [0, 1, 2, 4] rfl)
    · have hp := hp.2 hc
      refine lv_iconst (v := 1) hx hb aWZ.2.2.2.2.2.2.2.2.2.2.2.2.2.2.1 aDx ?_
      refine lv_iload hx hb aWZ.2.2.2.2.2.2.2.2.2.2.2.2.2.2.2 (lv_at hl 4 rfl) ?_
      refine lv_ishl hx hb eX10_which_26.1 ?_
      refine lv_topi (fun v_4 aHM => ?_)
      have hp := hp v_4 aHM
      refine lv_goto (tgt := 31) hx hb eX10_which_26.2.1 (by decide) ?_
      exact ks_X10_which_31 C0 hKn x2 x4 x3 v_4 H locs ls hp hP hD hS (lv_sub hl [0, 1, 2, 4] rfl)
set_option maxHeartbeats 4000000 in
set_option maxRecDepth 100000 in
theorem kb_X10_which_5 (C0 : gc aLU (some .int) 5 zX (dC, dI) (tyl cI cC cZ cB cJ) A p s m args meth c) : ∀ (n : Nat), ∀ (x2 x3 x4 : Int32) (H : Heap) (locs : List Loc) (ls : Array Slot), (wb_X10_which_5 post bT qG n) x2 x3 x4 -> va_P (dC, dI) classes (aGS cI cC cZ cB cJ a_m nY sJ eG iY lY jR jW jZ jO oQ bR aY jQ gY iJ mQ lJ jA bG mK jB mW mJ eJ dG bT aG jC bL bY jD mLn oF rP dQ aJ aB bW bZ aR aE bI aW bU fJ dO bM bQ bO jY oX qG) H -> va_D A (aGS cI cC cZ cB cJ a_m nY sJ eG iY lY jR jW jZ jO oQ bR aY jQ gY iJ mQ lJ jA bG mK jB mW mJ eJ dG bT aG jC bL bY jD mLn oF rP dQ aJ aB bW bZ aR aE bI aW bU fJ dO bM bQ bO jY oX qG) -> va_S A s.heap H locs -> lv_has ls 5 [(0, .ref a_m), (1, .ref nY), (2, .int x2), (3, .int x3), (4, .int x4)] -> W p l e rm_X10_which s m args below meth c H locs 0 0 (MQ below (q_X10_which dC dI cI cC cZ cB cJ A a_m nY sJ eG iY lY jR jW jZ jO oQ bR aY jQ gY iJ mQ lJ jA bG mK jB mW mJ eJ dG bT aG jC bL bY jD mLn oF rP dQ aJ aB bW bZ aR aE bI aW bU fJ dO bM bQ bO jY oX qG post) args s 0 0 A) (F0 m 5 ls []) := by
  intro n
  induction n with
  | zero =>
    intro x2 x3 x4 H locs ls hp
    exact False.elim hp
  | succ n ih =>
    intro x2 x3 x4 H locs ls hp
    exact ks_X10_which_5 C0 ih x2 x3 x4 H locs ls hp
end S_X10_which
def aIB (post : Int32 -> Prop) (p1 bT : Int32) (qG : Nat -> Int32) : Prop := ∃ n : Nat, wb_X10_which_5 post bT qG n p1 0 0
set_option maxHeartbeats 4000000 in
set_option maxRecDepth 100000 in
theorem aRP (l : Launch) (dC : Nat -> ClassId) (dI : Nat -> Nat -> Nat) (cI cC cZ cB cJ : ClassId) (a_m nY sJ eG iY lY jR jW jZ jO oQ bR aY jQ gY iJ mQ lJ jA bG mK jB mW mJ eJ dG sz : Nat) (p1 bT aG jC bL bY : Int32) (jD : Nat) (mLn oF rP dQ aJ aB bW bZ aR aE bI aW bU fJ dO bM bQ bO jY oX : Int32) (qG : Nat -> Int32) (post : Int32 -> Prop) (hw : aIB post p1 bT qG) : Met l yX10_which (gw yX10_which aLU 5 (some .int)) rm_X10_which (va_Pc [.ref a_m, .ref nY, .int p1] (gPre (dC, dI) (tyl cI cC cZ cB cJ) (aGS cI cC cZ cB cJ a_m nY sJ eG iY lY jR jW jZ jO oQ bR aY jQ gY iJ mQ lJ jA bG mK jB mW mJ eJ dG bT aG jC bL bY jD mLn oF rP dQ aJ aB bW bZ aR aE bI aW bU fJ dO bM bQ bO jY oX qG) sz)) (q_X10_which dC dI cI cC cZ cB cJ (va_A (aGS cI cC cZ cB cJ a_m nY sJ eG iY lY jR jW jZ jO oQ bR aY jQ gY iJ mQ lJ jA bG mK jB mW mJ eJ dG bT aG jC bL bY jD mLn oF rP dQ aJ aB bW bZ aR aE bI aW bU fJ dO bM bQ bO jY oX qG) sz) a_m nY sJ eG iY lY jR jW jZ jO oQ bR aY jQ gY iJ mQ lJ jA bG mK jB mW mJ eJ dG bT aG jC bL bY jD mLn oF rP dQ aJ aB bW bZ aR aE bI aW bU fJ dO bM bQ bO jY oX qG post) 0 0 (va_A (aGS cI cC cZ cB cJ a_m nY sJ eG iY lY jR jW jZ jO oQ bR aY jQ gY iJ mQ lJ jA bG mK jB mW mJ eJ dG bT aG jC bL bY jD mLn oF rP dQ aJ aB bW bZ aR aE bI aW bU fJ dO bM bQ bO jY oX qG) sz) := by
  refine aBJ (own := zX) (dC, dI) (tyl cI cC cZ cB cJ) (aGS cI cC cZ cB cJ a_m nY sJ eG iY lY jR jW jZ jO oQ bR aY jQ gY iJ mQ lJ jA bG mK jB mW mJ eJ dG bT aG jC bL bY jD mLn oF rP dQ aJ aB bW bZ aR aE bI aW bU fJ dO bM bQ bO jY oX qG) sz [.ref a_m, .ref nY, .int p1] (fun A => q_X10_which dC dI cI cC cZ cB cJ A a_m nY sJ eG iY lY jR jW jZ jO oQ bR aY jQ gY iJ mQ lJ jA bG mK jB mW mJ eJ dG bT aG jC bL bY jD mLn oF rP dQ aJ aB bW bZ aR aE bI aW bU fJ dO bM bQ bO jY oX qG post) aFY rfl (lbz rfl) ?_
  intro p e s m args below meth c A H locs ls C0 hP hD hS hl
  have hl : lv_has ls 5 [(0, .ref a_m), (1, .ref nY), (2, .int p1)] := hl
  obtain ⟨hx, hb, hr, hml, hown, hts, hlocks, hA, hK, hN, tL, tM, hZL, hTL, hZM, hTM, hZX⟩ := id C0
  have hp := hw
  unfold aIB at hp
  refine lv_iconst (v := 0) hx hb aWZ.1 aCi ?_
  refine lv_istore_n (lv' := [(3, .int 0), (0, .ref a_m), (1, .ref nY), (2, .int p1)]) hx hb aWZ.2.1 rfl hl (by decide) rfl (fun ls hl => ?_)
  refine lv_iconst (v := 0) hx hb aWZ.2.2.1 aCi ?_
  refine lv_istore (lv' := [(4, .int 0), (3, .int 0), (0, .ref a_m), (1, .ref nY), (2, .int p1)]) hx hb aWZ.2.2.2.1 hl (by decide) rfl (fun ls hl => ?_)
  obtain ⟨n9, hp⟩ := hp
  exact kb_X10_which_5 C0 n9 p1 0 0 H locs ls hp hP hD hS (lv_sub hl [2, 3, 4, 1, 0] rfl)
abbrev aLW (cI cC cZ cB cJ : ClassId) : va_W := []
abbrev q_X10_has (dC : Nat -> ClassId) (dI : Nat -> Nat -> Nat) (cI cC cZ cB cJ : ClassId) (A : Nat -> Prop) (post : Int32 -> Prop) : Array Value -> State -> Outcome -> State -> Prop := va_Qi (fun (r : Int32) (u : Unit) => post r) (fun u t => gB (dC, dI) (tyl cI cC cZ cB cJ) A (aLW cI cC cZ cB cJ) t) A
abbrev rm_X10_has : Room := { frames := 0, cells := 0, slots := 0, locals := 0 }
def aKc (post : Int32 -> Prop) (p0 p1 : Int32) : Prop := ∀ v_1 : Int32, v_1 = p0 >>> (p1 &&& 31) -> ∀ v_2 : Int32, v_2 = v_1 &&& 1 -> (¬ v_2 = 1 -> post 0) /\ (v_2 = 1 -> post 1)
set_option maxHeartbeats 4000000 in
set_option maxRecDepth 100000 in
theorem aUP (l : Launch) (dC : Nat -> ClassId) (dI : Nat -> Nat -> Nat) (cI cC cZ cB cJ : ClassId) (sz : Nat) (p0 p1 : Int32) (post : Int32 -> Prop) (hw : aKc post p0 p1) : Met l yX10_has (gw yX10_has cX10_has 2 (some .boolean)) rm_X10_has (va_Pc [.int p0, .int p1] (gPre (dC, dI) (tyl cI cC cZ cB cJ) (aLW cI cC cZ cB cJ) sz)) (q_X10_has dC dI cI cC cZ cB cJ (va_A (aLW cI cC cZ cB cJ) sz) post) 0 0 (va_A (aLW cI cC cZ cB cJ) sz) := by
  refine aBJ (own := zX) (dC, dI) (tyl cI cC cZ cB cJ) (aLW cI cC cZ cB cJ) sz [.int p0, .int p1] (fun A => q_X10_has dC dI cI cC cZ cB cJ A post) aFY rfl (lbz rfl) ?_
  intro p e s m args below meth c A H locs ls C0 hP hD hS hl
  have hl : lv_has ls 2 [(0, .int p0), (1, .int p1)] := hl
  obtain ⟨hx, hb, hr, hml, hown, hts, hlocks, hA, hK, hN, tL, tM, hZL, hTL, hZM, hTM, hZX⟩ := id C0
  have hp := hw
  unfold aKc at hp
  refine lv_iload_n hx hb eX10_has_0.1 rfl (lv_at hl 0 rfl) ?_
  refine lv_iload_n hx hb eX10_has_0.2.1 rfl (lv_at hl 1 rfl) ?_
  refine lv_ishr hx hb eX10_has_0.2.2.1 ?_
  refine lv_topi (fun v_1 aFJ => ?_)
  have hp := hp v_1 aFJ
  refine lv_iconst (v := 1) hx hb eX10_has_0.2.2.2.1 aDx ?_
  refine lv_iand hx hb eX10_has_0.2.2.2.2.1 ?_
  refine lv_topi (fun v_2 aGO => ?_)
  have hp := hp v_2 aGO
  refine lv_iconst (v := 1) hx hb eX10_has_0.2.2.2.2.2.1 aDx ?_
  refine lv_icmp_ne (tgt := 13) hx hb eX10_has_0.2.2.2.2.2.2.1 (by decide) (fun hc => ?_) (fun hc => ?_)
  · have hp := hp.1 hc
    refine lv_iconst (v := 0) hx hb eX10_has_0.2.2.2.2.2.2.2.2.2.1 aCi ?_
    exact W.zret (v := 0) hx hb hr rfl (fun t ht hW => ⟨⟨0, (), rfl, hp, by rw [ht]; exact hP, va_K.moved hW.alike hK, hD⟩, hS.F ht⟩) hS.2.2 eX10_has_0.2.2.2.2.2.2.2.2.2.2
  · have hp := hp.2 hc
    refine lv_iconst (v := 1) hx hb eX10_has_0.2.2.2.2.2.2.2.1 aDx ?_
    refine lv_goto (tgt := 14) hx hb eX10_has_0.2.2.2.2.2.2.2.2.1 (by decide) ?_
    exact W.zret (v := 1) hx hb hr rfl (fun t ht hW => ⟨⟨1, (), rfl, hp, by rw [ht]; exact hP, va_K.moved hW.alike hK, hD⟩, hS.F ht⟩) hS.2.2 eX10_has_0.2.2.2.2.2.2.2.2.2.2
abbrev wd_X10_isBelow (cI cC cZ cB cJ : ClassId) (a_m nY sJ eG iY lY jR jW jZ jO oQ bR aY jQ gY iJ mQ lJ jA bG mK jB mW mJ eJ dG : Nat) (bT aG jC bL bY : Int32) (jD : Nat) (mLn oF rP dQ aJ aB bW bZ aR aE bI aW bU fJ dO bM bQ bO jY oX : Int32) (m_x gR : Nat -> Int32) : va_W := [(a_m, .inr (10, [.ref nY, .int bT, .ref sJ, .ref eG, .ref iY, .ref lY, .int aG, .ref jR, .ref jW, .ref jZ, .ref jO, .int jC, .ref oQ, .int bL, .int bY, rdv jO jQ jD, .int mLn, .int oF, .int rP, .int dQ, .ref bR, .ref aY, .int aJ, .int aB, .ref jQ, .int bW, .int bZ, .int aR, .int aE, .int bI, .int aW, .ref gY, .int bU, .ref iJ, .ref mQ, .int fJ, .ref lJ, .int dO, .ref jA, .ref bG, .int bM, .int bQ, .int bO, .ref mK, .ref jB, .ref mW, .int jY, .int oX, .ref mJ, .ref eJ, .ref dG])), (sJ, .inl (cI, 16, .inl m_x)), (eG, .inl (cI, 16, .inl gR))]
abbrev q_X10_isBelow (dC : Nat -> ClassId) (dI : Nat -> Nat -> Nat) (cI cC cZ cB cJ : ClassId) (A : Nat -> Prop) (a_m nY sJ eG iY lY jR jW jZ jO oQ bR aY jQ gY iJ mQ lJ jA bG mK jB mW mJ eJ dG : Nat) (bT aG jC bL bY : Int32) (jD : Nat) (mLn oF rP dQ aJ aB bW bZ aR aE bI aW bU fJ dO bM bQ bO jY oX : Int32) (m_x gR : Nat -> Int32) (post : Int32 -> Prop) : Array Value -> State -> Outcome -> State -> Prop := va_Qi (fun (r : Int32) (u : Unit) => post r) (fun u t => gB (dC, dI) (tyl cI cC cZ cB cJ) A (wd_X10_isBelow cI cC cZ cB cJ a_m nY sJ eG iY lY jR jW jZ jO oQ bR aY jQ gY iJ mQ lJ jA bG mK jB mW mJ eJ dG bT aG jC bL bY jD mLn oF rP dQ aJ aB bW bZ aR aE bI aW bU fJ dO bM bQ bO jY oX m_x gR) t) A
abbrev rm_X10_isBelow : Room := { frames := 1, cells := 0, slots := 0, locals := 21 }
def wp_X10_isBelow (post : Int32 -> Prop) (p0 p1 : Int32) (m_x gR : Nat -> Int32) : Prop := vp_in p1 16 /\ (∀ v_1 : Int32, v_1 = m_x p1.toNatClampNeg -> vp_in p0 16 /\ (∀ v_2 : Int32, v_2 = v_1 - (m_x p0.toNatClampNeg) -> ∀ v_3 : Int32, v_3 = (if 0 <= v_2 then v_2 else 0 - v_2) -> (1 < v_3 -> post 0) /\ (¬ 1 < v_3 -> vp_in p0 16 /\ (∀ v_4 : Int32, v_4 = gR p0.toNatClampNeg -> vp_in p1 16 /\ (((gR p1.toNatClampNeg) <= v_4 -> post 0) /\ (¬ (gR p1.toNatClampNeg) <= v_4 -> post 1))))))
set_option maxHeartbeats 4000000 in
set_option maxRecDepth 100000 in
theorem c_X10_isBelow (l : Launch) (dC : Nat -> ClassId) (dI : Nat -> Nat -> Nat) (cI cC cZ cB cJ : ClassId) (a_m nY sJ eG iY lY jR jW jZ jO oQ bR aY jQ gY iJ mQ lJ jA bG mK jB mW mJ eJ dG sz : Nat) (p0 p1 bT aG jC bL bY : Int32) (jD : Nat) (mLn oF rP dQ aJ aB bW bZ aR aE bI aW bU fJ dO bM bQ bO jY oX : Int32) (m_x gR : Nat -> Int32) (post : Int32 -> Prop) (hw : wp_X10_isBelow post p0 p1 m_x gR) : Met l yX10_isBelow (gw yX10_isBelow aJN 3 (some .boolean)) rm_X10_isBelow (va_Pc [.ref a_m, .int p0, .int p1] (gPre (dC, dI) (tyl cI cC cZ cB cJ) (wd_X10_isBelow cI cC cZ cB cJ a_m nY sJ eG iY lY jR jW jZ jO oQ bR aY jQ gY iJ mQ lJ jA bG mK jB mW mJ eJ dG bT aG jC bL bY jD mLn oF rP dQ aJ aB bW bZ aR aE bI aW bU fJ dO bM bQ bO jY oX m_x gR) sz)) (q_X10_isBelow dC dI cI cC cZ cB cJ (va_A (wd_X10_isBelow cI cC cZ cB cJ a_m nY sJ eG iY lY jR jW jZ jO oQ bR aY jQ gY iJ mQ lJ jA bG mK jB mW mJ eJ dG bT aG jC bL bY jD mLn oF rP dQ aJ aB bW bZ aR aE bI aW bU fJ dO bM bQ bO jY oX m_x gR) sz) a_m nY sJ eG iY lY jR jW jZ jO oQ bR aY jQ gY iJ mQ lJ jA bG mK jB mW mJ eJ dG bT aG jC bL bY jD mLn oF rP dQ aJ aB bW bZ aR aE bI aW bU fJ dO bM bQ bO jY oX m_x gR post) 0 0 (va_A (wd_X10_isBelow cI cC cZ cB cJ a_m nY sJ eG iY lY jR jW jZ jO oQ bR aY jQ gY iJ mQ lJ jA bG mK jB mW mJ eJ dG bT aG jC bL bY jD mLn oF rP dQ aJ aB bW bZ aR aE bI aW bU fJ dO bM bQ bO jY oX m_x gR) sz) := by
  refine aBJ (own := zX) (dC, dI) (tyl cI cC cZ cB cJ) (wd_X10_isBelow cI cC cZ cB cJ a_m nY sJ eG iY lY jR jW jZ jO oQ bR aY jQ gY iJ mQ lJ jA bG mK jB mW mJ eJ dG bT aG jC bL bY jD mLn oF rP dQ aJ aB bW bZ aR aE bI aW bU fJ dO bM bQ bO jY oX m_x gR) sz [.ref a_m, .int p0, .int p1] (fun A => q_X10_isBelow dC dI cI cC cZ cB cJ A a_m nY sJ eG iY lY jR jW jZ jO oQ bR aY jQ gY iJ mQ lJ jA bG mK jB mW mJ eJ dG bT aG jC bL bY jD mLn oF rP dQ aJ aB bW bZ aR aE bI aW bU fJ dO bM bQ bO jY oX m_x gR post) aFY rfl (lbz rfl) ?_
  intro p e s m args below meth c A H locs ls C0 hP hD hS hl
  have hl : lv_has ls 3 [(0, .ref a_m), (1, .int p0), (2, .int p1)] := hl
  obtain ⟨hx, hb, hr, hml, hown, hts, hlocks, hA, hK, hN, tL, tM, hZL, hTL, hZM, hTM, hZX⟩ := id C0
  have hp := hw
  unfold wp_X10_isBelow at hp
  refine lv_aload_n hx hb aQJ.1 rfl (lv_at hl 0 rfl) ?_
  refine va_get (D := (dC, dI)) (ci := 10) (v := .ref sJ) (C := zX) (T := aBe) (N := 51) hx hb hts aAt hown hK hP 0 rfl rfl 2 (lbz rfl) (hts _ q_688) (fun _ h9 => h9) rfl aQJ.2.1 ?_
  refine lv_iload_n hx hb aQJ.2.2.1 rfl (lv_at hl 2 rfl) ?_
  have hin := hp.1
  have hp := hp.2
  refine va_iald hx hb hK hP 1 0 rfl rfl hin aQJ.2.2.2.1 ?_
  refine lv_topi (fun v_1 aFJ => ?_)
  have hp := hp v_1 aFJ
  refine lv_aload_n hx hb aQJ.2.2.2.2.1 rfl (lv_at hl 0 rfl) ?_
  refine va_get (D := (dC, dI)) (ci := 10) (v := .ref sJ) (C := zX) (T := aBe) (N := 51) hx hb hts aAt hown hK hP 0 rfl rfl 2 (lbz rfl) (hts _ q_688) (fun _ h9 => h9) rfl aQJ.2.2.2.2.2.1 ?_
  refine lv_iload_n hx hb aQJ.2.2.2.2.2.2.1 rfl (lv_at hl 1 rfl) ?_
  have hin := hp.1
  have hp := hp.2
  refine va_iald hx hb hK hP 1 0 rfl rfl hin aQJ.2.2.2.2.2.2.2.1 ?_
  refine lv_isub hx hb aQJ.2.2.2.2.2.2.2.2.1 ?_
  refine lv_topi (fun v_2 aGO => ?_)
  have hp := hp v_2 aGO
  refine va_mabs hx hb (by rw [hml]; exact hl.1.symm) hown (hts _ q_698) (hts _ q_166) (hts _ q_16) (hts _ q_167) (lbz rfl) (lbz rfl) (Nat.zero_le _) (Nat.zero_le _) aQJ.2.2.2.2.2.2.2.2.2.1 ?_
  refine lv_topi (fun v_3 aGW => ?_)
  have hp := hp v_3 aGW
  refine lv_iconst (v := 1) hx hb aQJ.2.2.2.2.2.2.2.2.2.2.1 aDx ?_
  refine lv_icmp_gt (tgt := 39) hx hb aQJ.2.2.2.2.2.2.2.2.2.2.2.1 (by decide) (fun hc => ?_) (fun hc => ?_)
  · have hp := hp.1 hc
    refine lv_iconst (v := 0) hx hb aXK.2.2.2.2.2.2.2.1 aCi ?_
    exact W.zret (v := 0) hx hb hr rfl (fun t ht hW => ⟨⟨0, (), rfl, hp, by rw [ht]; exact hP, va_K.moved hW.alike hK, hD⟩, hS.F ht⟩) hS.2.2 aXK.2.2.2.2.2.2.2.2
  · have hp := hp.2 hc
    refine lv_aload_n hx hb aQJ.2.2.2.2.2.2.2.2.2.2.2.2.1 rfl (lv_at hl 0 rfl) ?_
    refine va_get (D := (dC, dI)) (ci := 10) (v := .ref eG) (C := zX) (T := aBe) (N := 51) hx hb hts aAt hown hK hP 0 rfl rfl 3 (lbz rfl) (hts _ q_689) (fun _ h9 => h9) rfl aQJ.2.2.2.2.2.2.2.2.2.2.2.2.2.1 ?_
    refine lv_iload_n hx hb aQJ.2.2.2.2.2.2.2.2.2.2.2.2.2.2.1 rfl (lv_at hl 1 rfl) ?_
    have hin := hp.1
    have hp := hp.2
    refine va_iald hx hb hK hP 2 0 rfl rfl hin aQJ.2.2.2.2.2.2.2.2.2.2.2.2.2.2.2 ?_
    refine lv_topi (fun v_4 aHM => ?_)
    have hp := hp v_4 aHM
    refine lv_aload_n hx hb aXK.1 rfl (lv_at hl 0 rfl) ?_
    refine va_get (D := (dC, dI)) (ci := 10) (v := .ref eG) (C := zX) (T := aBe) (N := 51) hx hb hts aAt hown hK hP 0 rfl rfl 3 (lbz rfl) (hts _ q_689) (fun _ h9 => h9) rfl aXK.2.1 ?_
    refine lv_iload_n hx hb aXK.2.2.1 rfl (lv_at hl 2 rfl) ?_
    have hin := hp.1
    have hp := hp.2
    refine va_iald hx hb hK hP 2 0 rfl rfl hin aXK.2.2.2.1 ?_
    refine lv_icmp_ge (tgt := 39) hx hb aXK.2.2.2.2.1 (by decide) (fun hc => ?_) (fun hc => ?_)
    · have hp := hp.1 hc
      refine lv_iconst (v := 0) hx hb aXK.2.2.2.2.2.2.2.1 aCi ?_
      exact W.zret (v := 0) hx hb hr rfl (fun t ht hW => ⟨⟨0, (), rfl, hp, by rw [ht]; exact hP, va_K.moved hW.alike hK, hD⟩, hS.F ht⟩) hS.2.2 aXK.2.2.2.2.2.2.2.2
    · have hp := hp.2 hc
      refine lv_iconst (v := 1) hx hb aXK.2.2.2.2.2.1 aDx ?_
      refine lv_goto (tgt := 40) hx hb aXK.2.2.2.2.2.2.1 (by decide) ?_
      exact W.zret (v := 1) hx hb hr rfl (fun t ht hW => ⟨⟨1, (), rfl, hp, by rw [ht]; exact hP, va_K.moved hW.alike hK, hD⟩, hS.F ht⟩) hS.2.2 aXK.2.2.2.2.2.2.2.2
abbrev aJ2 (cI cC cZ cB cJ : ClassId) (a_m nY sJ eG iY lY jR jW jZ jO oQ bR aY jQ gY iJ mQ lJ jA bG mK jB mW mJ eJ dG : Nat) (bT aG jC bL bY : Int32) (jD : Nat) (mLn oF rP dQ aJ aB bW bZ aR aE bI aW bU fJ dO bM bQ bO jY oX : Int32) (m_x gR : Nat -> Int32) : va_W := [(a_m, .inr (10, [.ref nY, .int bT, .ref sJ, .ref eG, .ref iY, .ref lY, .int aG, .ref jR, .ref jW, .ref jZ, .ref jO, .int jC, .ref oQ, .int bL, .int bY, rdv jO jQ jD, .int mLn, .int oF, .int rP, .int dQ, .ref bR, .ref aY, .int aJ, .int aB, .ref jQ, .int bW, .int bZ, .int aR, .int aE, .int bI, .int aW, .ref gY, .int bU, .ref iJ, .ref mQ, .int fJ, .ref lJ, .int dO, .ref jA, .ref bG, .int bM, .int bQ, .int bO, .ref mK, .ref jB, .ref mW, .int jY, .int oX, .ref mJ, .ref eJ, .ref dG])), (sJ, .inl (cI, 16, .inl m_x)), (eG, .inl (cI, 16, .inl gR))]
abbrev q_X10_below (dC : Nat -> ClassId) (dI : Nat -> Nat -> Nat) (cI cC cZ cB cJ : ClassId) (A : Nat -> Prop) (a_m nY sJ eG iY lY jR jW jZ jO oQ bR aY jQ gY iJ mQ lJ jA bG mK jB mW mJ eJ dG : Nat) (bT aG jC bL bY : Int32) (jD : Nat) (mLn oF rP dQ aJ aB bW bZ aR aE bI aW bU fJ dO bM bQ bO jY oX : Int32) (m_x gR : Nat -> Int32) (post : Int32 -> Prop) : Array Value -> State -> Outcome -> State -> Prop := va_Qi (fun (r : Int32) (u : Unit) => post r) (fun u t => gB (dC, dI) (tyl cI cC cZ cB cJ) A (aJ2 cI cC cZ cB cJ a_m nY sJ eG iY lY jR jW jZ jO oQ bR aY jQ gY iJ mQ lJ jA bG mK jB mW mJ eJ dG bT aG jC bL bY jD mLn oF rP dQ aJ aB bW bZ aR aE bI aW bU fJ dO bM bQ bO jY oX m_x gR) t) A
abbrev rm_X10_below : Room := { frames := 2, cells := 0, slots := 0, locals := 43 }
section S_X10_below
variable {p : Program} {l : Launch} {e : Env} {s : State} {m : MethodId} {args : Array Value} {below : List Frame} {meth : Method} {c : Code} {dC : Nat -> ClassId} {dI : Nat -> Nat -> Nat} {cI cC cZ cB cJ : ClassId} {A : Nat -> Prop} {a_m nY sJ eG iY lY jR jW jZ jO oQ bR aY jQ gY iJ mQ lJ jA bG mK jB mW mJ eJ dG : Nat} {bT aG jC bL bY : Int32} {jD : Nat} {mLn oF rP dQ aJ aB bW bZ aR aE bI aW bU fJ dO bM bQ bO jY oX : Int32} {m_x gR : Nat -> Int32} {post : Int32 -> Prop}
def ws_X10_below_42 (post : Int32 -> Prop) (K5 : Int32 -> Int32 -> Int32 -> Int32 -> Prop) (bT : Int32) (m_x gR : Nat -> Int32) (x1 x2 x4 k0 k1 : Int32) : Prop := ∀ v_2 : Int32, v_2 = k0 ||| k1 -> ∀ v_3 : Int32, v_3 = x4 + 1 -> K5 x1 x2 v_2 v_3
set_option maxHeartbeats 4000000 in
set_option maxRecDepth 100000 in
theorem ks_X10_below_42 (C0 : gc aI0 (some .int) 5 zX (dC, dI) (tyl cI cC cZ cB cJ) A p s m args meth c) {K5 : Int32 -> Int32 -> Int32 -> Int32 -> Prop} (hK5 : ∀ (x1 : Int32) (x2 : Int32) (x3 : Int32) (x4 : Int32) (H : Heap) (locs : List Loc) (ls : Array Slot), K5 x1 x2 x3 x4 -> va_P (dC, dI) classes (aJ2 cI cC cZ cB cJ a_m nY sJ eG iY lY jR jW jZ jO oQ bR aY jQ gY iJ mQ lJ jA bG mK jB mW mJ eJ dG bT aG jC bL bY jD mLn oF rP dQ aJ aB bW bZ aR aE bI aW bU fJ dO bM bQ bO jY oX m_x gR) H -> va_D A (aJ2 cI cC cZ cB cJ a_m nY sJ eG iY lY jR jW jZ jO oQ bR aY jQ gY iJ mQ lJ jA bG mK jB mW mJ eJ dG bT aG jC bL bY jD mLn oF rP dQ aJ aB bW bZ aR aE bI aW bU fJ dO bM bQ bO jY oX m_x gR) -> va_S A s.heap H locs -> lv_has ls 5 [(0, .ref a_m), (1, .int x1), (2, .int x2), (3, .int x3), (4, .int x4)] -> W p l e rm_X10_below s m args below meth c H locs 0 0 (MQ below (q_X10_below dC dI cI cC cZ cB cJ A a_m nY sJ eG iY lY jR jW jZ jO oQ bR aY jQ gY iJ mQ lJ jA bG mK jB mW mJ eJ dG bT aG jC bL bY jD mLn oF rP dQ aJ aB bW bZ aR aE bI aW bU fJ dO bM bQ bO jY oX m_x gR post) args s 0 0 A) (F0 m 5 ls [])) : ∀ (x1 x2 x4 k0 k1 : Int32) (H : Heap) (locs : List Loc) (ls : Array Slot), (ws_X10_below_42 post K5 bT m_x gR) x1 x2 x4 k0 k1 -> va_P (dC, dI) classes (aJ2 cI cC cZ cB cJ a_m nY sJ eG iY lY jR jW jZ jO oQ bR aY jQ gY iJ mQ lJ jA bG mK jB mW mJ eJ dG bT aG jC bL bY jD mLn oF rP dQ aJ aB bW bZ aR aE bI aW bU fJ dO bM bQ bO jY oX m_x gR) H -> va_D A (aJ2 cI cC cZ cB cJ a_m nY sJ eG iY lY jR jW jZ jO oQ bR aY jQ gY iJ mQ lJ jA bG mK jB mW mJ eJ dG bT aG jC bL bY jD mLn oF rP dQ aJ aB bW bZ aR aE bI aW bU fJ dO bM bQ bO jY oX m_x gR) -> va_S A s.heap H locs -> lv_has ls 5 [(0, .ref a_m), (1, .int x1), (2, .int x2), (4, .int x4)] -> W p l e rm_X10_below s m args below meth c H locs 0 0 (MQ below (q_X10_below dC dI cI cC cZ cB cJ A a_m nY sJ eG iY lY jR jW jZ jO oQ bR aY jQ gY iJ mQ lJ jA bG mK jB mW mJ eJ dG bT aG jC bL bY jD mLn oF rP dQ aJ aB bW bZ aR aE bI aW bU fJ dO bM bQ bO jY oX m_x gR post) args s 0 0 A) (F0 m 42 ls [.int k1, .int k0]) := by
  obtain ⟨hx, hb, hr, hml, hown, hts, hlocks, hA, hK, hN, tL, tM, hZL, hTL, hZM, hTM, hZX⟩ := id C0
  intro x1 x2 x4 k0 k1 H locs ls hp hP hD hS hl
  unfold ws_X10_below_42 at hp
  refine lv_ior hx hb aZT.2.2.2.2.2.2.2.1 ?_
  refine lv_topi (fun v_2 aGO => ?_)
  have hp := hp v_2 aGO
  refine lv_istore_n (lv' := [(3, .int v_2), (0, .ref a_m), (1, .int x1), (2, .int x2), (4, .int x4)]) hx hb aZT.2.2.2.2.2.2.2.2.1 rfl hl (by decide) rfl (fun ls hl => ?_)
  obtain ⟨v_3, aGW⟩ : ∃ y : Int32, y = x4 + 1 := ⟨_, rfl⟩
  refine lv_iinc (v := v_3) (lv' := [(4, .int v_3), (3, .int v_2), (0, .ref a_m), (1, .int x1), (2, .int x2)]) hx hb aZT.2.2.2.2.2.2.2.2.2.1 hl (k := 4) rfl (by rw [aGW]; rfl) (by decide) rfl (fun ls hl => ?_)
  have hp := hp v_3 aGW
  refine lv_goto (tgt := 5) hx hb aZT.2.2.2.2.2.2.2.2.2.2.1 (by decide) ?_
  exact hK5 x1 x2 v_2 v_3 H locs ls hp hP hD hS (lv_sub hl [2, 3, 4, 1, 0] rfl)
def ws_X10_below_41 (post : Int32 -> Prop) (K5 : Int32 -> Int32 -> Int32 -> Int32 -> Prop) (bT : Int32) (m_x gR : Nat -> Int32) (x1 x2 x4 k0 : Int32) : Prop := ws_X10_below_42 post K5 bT m_x gR x1 x2 x4 k0 0
set_option maxHeartbeats 4000000 in
set_option maxRecDepth 100000 in
theorem ks_X10_below_41 (C0 : gc aI0 (some .int) 5 zX (dC, dI) (tyl cI cC cZ cB cJ) A p s m args meth c) {K5 : Int32 -> Int32 -> Int32 -> Int32 -> Prop} (hK5 : ∀ (x1 : Int32) (x2 : Int32) (x3 : Int32) (x4 : Int32) (H : Heap) (locs : List Loc) (ls : Array Slot), K5 x1 x2 x3 x4 -> va_P (dC, dI) classes (aJ2 cI cC cZ cB cJ a_m nY sJ eG iY lY jR jW jZ jO oQ bR aY jQ gY iJ mQ lJ jA bG mK jB mW mJ eJ dG bT aG jC bL bY jD mLn oF rP dQ aJ aB bW bZ aR aE bI aW bU fJ dO bM bQ bO jY oX m_x gR) H -> va_D A (aJ2 cI cC cZ cB cJ a_m nY sJ eG iY lY jR jW jZ jO oQ bR aY jQ gY iJ mQ lJ jA bG mK jB mW mJ eJ dG bT aG jC bL bY jD mLn oF rP dQ aJ aB bW bZ aR aE bI aW bU fJ dO bM bQ bO jY oX m_x gR) -> va_S A s.heap H locs -> lv_has ls 5 [(0, .ref a_m), (1, .int x1), (2, .int x2), (3, .int x3), (4, .int x4)] -> W p l e rm_X10_below s m args below meth c H locs 0 0 (MQ below (q_X10_below dC dI cI cC cZ cB cJ A a_m nY sJ eG iY lY jR jW jZ jO oQ bR aY jQ gY iJ mQ lJ jA bG mK jB mW mJ eJ dG bT aG jC bL bY jD mLn oF rP dQ aJ aB bW bZ aR aE bI aW bU fJ dO bM bQ bO jY oX m_x gR post) args s 0 0 A) (F0 m 5 ls [])) : ∀ (x1 x2 x4 k0 : Int32) (H : Heap) (locs : List Loc) (ls : Array Slot), (ws_X10_below_41 post K5 bT m_x gR) x1 x2 x4 k0 -> va_P (dC, dI) classes (aJ2 cI cC cZ cB cJ a_m nY sJ eG iY lY jR jW jZ jO oQ bR aY jQ gY iJ mQ lJ jA bG mK jB mW mJ eJ dG bT aG jC bL bY jD mLn oF rP dQ aJ aB bW bZ aR aE bI aW bU fJ dO bM bQ bO jY oX m_x gR) H -> va_D A (aJ2 cI cC cZ cB cJ a_m nY sJ eG iY lY jR jW jZ jO oQ bR aY jQ gY iJ mQ lJ jA bG mK jB mW mJ eJ dG bT aG jC bL bY jD mLn oF rP dQ aJ aB bW bZ aR aE bI aW bU fJ dO bM bQ bO jY oX m_x gR) -> va_S A s.heap H locs -> lv_has ls 5 [(0, .ref a_m), (1, .int x1), (2, .int x2), (4, .int x4)] -> W p l e rm_X10_below s m args below meth c H locs 0 0 (MQ below (q_X10_below dC dI cI cC cZ cB cJ A a_m nY sJ eG iY lY jR jW jZ jO oQ bR aY jQ gY iJ mQ lJ jA bG mK jB mW mJ eJ dG bT aG jC bL bY jD mLn oF rP dQ aJ aB bW bZ aR aE bI aW bU fJ dO bM bQ bO jY oX m_x gR post) args s 0 0 A) (F0 m 41 ls [.int k0]) := by
  obtain ⟨hx, hb, hr, hml, hown, hts, hlocks, hA, hK, hN, tL, tM, hZL, hTL, hZM, hTM, hZX⟩ := id C0
  intro x1 x2 x4 k0 H locs ls hp hP hD hS hl
  unfold ws_X10_below_41 at hp
  refine lv_iconst (v := 0) hx hb aZT.2.2.2.2.2.2.1 aCi ?_
  exact ks_X10_below_42 C0 hK5 x1 x2 x4 k0 0 H locs ls hp hP hD hS (lv_sub hl [0, 1, 2, 3] rfl)
def ws_X10_below_5 (post : Int32 -> Prop) (next : Int32 -> Int32 -> Int32 -> Int32 -> Prop) (bT : Int32) (m_x gR : Nat -> Int32) (x1 x2 x3 x4 : Int32) : Prop := (bT <= x4 -> post x3) /\ (¬ bT <= x4 -> aKc (fun r_1 => (r_1 = 0 -> ws_X10_below_41 post next bT m_x gR x1 x2 x4 x3) /\ (¬ r_1 = 0 -> wp_X10_isBelow (fun r_4 => (r_4 = 0 -> ws_X10_below_41 post next bT m_x gR x1 x2 x4 x3) /\ (¬ r_4 = 0 -> ∀ v_5 : Int32, v_5 = 1 <<< (x4 &&& 31) -> ws_X10_below_42 post next bT m_x gR x1 x2 x4 x3 v_5)) x4 x1 m_x gR)) x2 x4)
noncomputable def wb_X10_below_5 (post : Int32 -> Prop) (bT : Int32) (m_x gR : Nat -> Int32) : Nat -> Int32 -> Int32 -> Int32 -> Int32 -> Prop := fun n => Nat.rec (motive := fun _ => Int32 -> Int32 -> Int32 -> Int32 -> Prop) (fun _ _ _ _ => False) (fun _ ih => ws_X10_below_5 post ih bT m_x gR) n
set_option maxHeartbeats 4000000 in
set_option maxRecDepth 100000 in
theorem ks_X10_below_5 (C0 : gc aI0 (some .int) 5 zX (dC, dI) (tyl cI cC cZ cB cJ) A p s m args meth c) {next : Int32 -> Int32 -> Int32 -> Int32 -> Prop} (hKn : ∀ (x1 : Int32) (x2 : Int32) (x3 : Int32) (x4 : Int32) (H : Heap) (locs : List Loc) (ls : Array Slot), next x1 x2 x3 x4 -> va_P (dC, dI) classes (aJ2 cI cC cZ cB cJ a_m nY sJ eG iY lY jR jW jZ jO oQ bR aY jQ gY iJ mQ lJ jA bG mK jB mW mJ eJ dG bT aG jC bL bY jD mLn oF rP dQ aJ aB bW bZ aR aE bI aW bU fJ dO bM bQ bO jY oX m_x gR) H -> va_D A (aJ2 cI cC cZ cB cJ a_m nY sJ eG iY lY jR jW jZ jO oQ bR aY jQ gY iJ mQ lJ jA bG mK jB mW mJ eJ dG bT aG jC bL bY jD mLn oF rP dQ aJ aB bW bZ aR aE bI aW bU fJ dO bM bQ bO jY oX m_x gR) -> va_S A s.heap H locs -> lv_has ls 5 [(0, .ref a_m), (1, .int x1), (2, .int x2), (3, .int x3), (4, .int x4)] -> W p l e rm_X10_below s m args below meth c H locs 0 0 (MQ below (q_X10_below dC dI cI cC cZ cB cJ A a_m nY sJ eG iY lY jR jW jZ jO oQ bR aY jQ gY iJ mQ lJ jA bG mK jB mW mJ eJ dG bT aG jC bL bY jD mLn oF rP dQ aJ aB bW bZ aR aE bI aW bU fJ dO bM bQ bO jY oX m_x gR post) args s 0 0 A) (F0 m 5 ls [])) : ∀ (x1 x2 x3 x4 : Int32) (H : Heap) (locs : List Loc) (ls : Array Slot), (ws_X10_below_5 post next bT m_x gR) x1 x2 x3 x4 -> va_P (dC, dI) classes (aJ2 cI cC cZ cB cJ a_m nY sJ eG iY lY jR jW jZ jO oQ bR aY jQ gY iJ mQ lJ jA bG mK jB mW mJ eJ dG bT aG jC bL bY jD mLn oF rP dQ aJ aB bW bZ aR aE bI aW bU fJ dO bM bQ bO jY oX m_x gR) H -> va_D A (aJ2 cI cC cZ cB cJ a_m nY sJ eG iY lY jR jW jZ jO oQ bR aY jQ gY iJ mQ lJ jA bG mK jB mW mJ eJ dG bT aG jC bL bY jD mLn oF rP dQ aJ aB bW bZ aR aE bI aW bU fJ dO bM bQ bO jY oX m_x gR) -> va_S A s.heap H locs -> lv_has ls 5 [(0, .ref a_m), (1, .int x1), (2, .int x2), (3, .int x3), (4, .int x4)] -> W p l e rm_X10_below s m args below meth c H locs 0 0 (MQ below (q_X10_below dC dI cI cC cZ cB cJ A a_m nY sJ eG iY lY jR jW jZ jO oQ bR aY jQ gY iJ mQ lJ jA bG mK jB mW mJ eJ dG bT aG jC bL bY jD mLn oF rP dQ aJ aB bW bZ aR aE bI aW bU fJ dO bM bQ bO jY oX m_x gR post) args s 0 0 A) (F0 m 5 ls []) := by
  obtain ⟨hx, hb, hr, hml, hown, hts, hlocks, hA, hK, hN, tL, tM, hZL, hTL, hZM, hTM, hZX⟩ := id C0
  intro x1 x2 x3 x4 H locs ls hp hP hD hS hl
  unfold ws_X10_below_5 at hp
  refine lv_iload hx hb aVp.2.2.2.2.1 (lv_at hl 4 rfl) ?_
  refine lv_aload_n hx hb aVp.2.2.2.2.2.1 rfl (lv_at hl 0 rfl) ?_
  refine va_get (D := (dC, dI)) (ci := 10) (v := .int bT) (C := zX) (T := aBe) (N := 51) hx hb hts aAt hown hK hP 0 rfl rfl 1 (lbz rfl) (hts _ q_677) (fun _ h9 => h9) rfl aVp.2.2.2.2.2.2.1 ?_
  refine lv_icmp_ge (tgt := 50) hx hb aVp.2.2.2.2.2.2.2.1 (by decide) (fun hc => ?_) (fun hc => ?_)
  · have hp := hp.1 hc
    refine lv_iload_n hx hb aZT.2.2.2.2.2.2.2.2.2.2.2.1 rfl (lv_at hl 3 rfl) ?_
    exact W.iret (v := x3) hx hb hr (fun t ht hW => ⟨⟨x3, (), rfl, hp, by rw [ht]; exact hP, va_K.moved hW.alike hK, hD⟩, hS.F ht⟩) hS.2.2 aZT.2.2.2.2.2.2.2.2.2.2.2.2
  · have hp := hp.2 hc
    refine lv_iload_n hx hb aVp.2.2.2.2.2.2.2.2.1 rfl (lv_at hl 3 rfl) ?_
    refine lv_iload_n hx hb aVp.2.2.2.2.2.2.2.2.2.1 rfl (lv_at hl 2 rfl) ?_
    refine lv_iload hx hb aVp.2.2.2.2.2.2.2.2.2.2.1 (lv_at hl 4 rfl) ?_
    have hm := mgk (wc := (aLW cI cC cZ cB cJ)) hP mk_20 3 rfl rfl rfl
    refine yW hP hD hS hA (yS mk_20) (aAi mk_20) hm.1 hm.2 (aAk _) (zW _) (aDn (As := [.int x2, .int x4]) (rest := [.int x3]) C0 hP hD hS (yS mk_20) hm.1 (aAl _) (aUP l dC dI cI cC cZ cB cJ H.size x2 x4 _ hp) q_734 q_736 q_735 aBL aUT rfl rfl ⟨lbz rfl, lbz rfl⟩ rfl rfl hl.1 rfl (lv_room (lbz rfl)) aVp.2.2.2.2.2.2.2.2.2.2.2.1 ⟨Nat.zero_le _, Nat.zero_le _⟩) (fun r_1 u H locs hp hP hD hS => ?_)
    have hPD := PDm (ws' := (aJ2 cI cC cZ cB cJ a_m nY sJ eG iY lY jR jW jZ jO oQ bR aY jQ gY iJ mQ lJ jA bG mK jB mW mJ eJ dG bT aG jC bL bY jD mLn oF rP dQ aJ aB bW bZ aR aE bI aW bU fJ dO bM bQ bO jY oX m_x gR)) hP hD 3 rfl rfl rfl
    have hP := hPD.1
    have hD := hPD.2
    refine lv_if_eq (tgt := 41) hx hb aVp.2.2.2.2.2.2.2.2.2.2.2.2.1 (by decide) (fun hc => ?_) (fun hc => ?_)
    · have hp := hp.1 hc
      exact ks_X10_below_41 C0 hKn x1 x2 x4 x3 H locs ls hp hP hD hS (lv_sub hl [0, 1, 2, 4] rfl)
    · have hp := hp.2 hc
      refine lv_aload_n hx hb aVp.2.2.2.2.2.2.2.2.2.2.2.2.2.1 rfl (lv_at hl 0 rfl) ?_
      refine lv_iload hx hb aVp.2.2.2.2.2.2.2.2.2.2.2.2.2.2.1 (lv_at hl 4 rfl) ?_
      refine lv_iload_n hx hb aVp.2.2.2.2.2.2.2.2.2.2.2.2.2.2.2 rfl (lv_at hl 1 rfl) ?_
      have hm := mgk (wc := (wd_X10_isBelow cI cC cZ cB cJ a_m nY sJ eG iY lY jR jW jZ jO oQ bR aY jQ gY iJ mQ lJ jA bG mK jB mW mJ eJ dG bT aG jC bL bY jD mLn oF rP dQ aJ aB bW bZ aR aE bI aW bU fJ dO bM bQ bO jY oX m_x gR)) hP mk_85 3 rfl rfl rfl
      refine yW hP hD hS hA (yS mk_85) (aAi mk_85) hm.1 hm.2 (aAk _) (zW _) (zF (As := [.int x4, .int x1]) (rest := [.int x3]) C0 hP hD hS (yS mk_85) hm.1 (aAl _) 0 10 rfl rfl (c_X10_isBelow l dC dI cI cC cZ cB cJ a_m nY sJ eG iY lY jR jW jZ jO oQ bR aY jQ gY iJ mQ lJ jA bG mK jB mW mJ eJ dG H.size x4 x1 bT aG jC bL bY jD mLn oF rP dQ aJ aB bW bZ aR aE bI aW bU fJ dO bM bQ bO jY oX m_x gR _ hp) q_737 q_740 q_738 q_739 aBL h_X10_isBelow rfl rfl ⟨lbz rfl, lbz rfl⟩ rfl rfl hl.1 rfl (lv_room (lbz rfl)) aZT.1 ⟨Nat.zero_le _, Nat.zero_le _⟩) (fun r_4 u H locs hp hP hD hS => ?_)
      have hPD := PDm (ws' := (aJ2 cI cC cZ cB cJ a_m nY sJ eG iY lY jR jW jZ jO oQ bR aY jQ gY iJ mQ lJ jA bG mK jB mW mJ eJ dG bT aG jC bL bY jD mLn oF rP dQ aJ aB bW bZ aR aE bI aW bU fJ dO bM bQ bO jY oX m_x gR)) hP hD 3 rfl rfl rfl
      have hP := hPD.1
      have hD := hPD.2
      refine lv_if_eq (tgt := 41) hx hb aZT.2.1 (by decide) (fun hc => ?_) (fun hc => ?_)
      · have hp := hp.1 hc
        exact ks_X10_below_41 C0 hKn x1 x2 x4 x3 H locs ls hp hP hD hS (lv_sub hl [0, 1, 2, 4] rfl)
      · have hp := hp.2 hc
        refine lv_iconst (v := 1) hx hb aZT.2.2.1 aDx ?_
        refine lv_iload hx hb aZT.2.2.2.1 (lv_at hl 4 rfl) ?_
        refine lv_ishl hx hb aZT.2.2.2.2.1 ?_
        refine lv_topi (fun v_5 aJD => ?_)
        have hp := hp v_5 aJD
        refine lv_goto (tgt := 42) hx hb aZT.2.2.2.2.2.1 (by decide) ?_
        exact ks_X10_below_42 C0 hKn x1 x2 x4 x3 v_5 H locs ls hp hP hD hS (lv_sub hl [0, 1, 2, 4] rfl)
set_option maxHeartbeats 4000000 in
set_option maxRecDepth 100000 in
theorem kb_X10_below_5 (C0 : gc aI0 (some .int) 5 zX (dC, dI) (tyl cI cC cZ cB cJ) A p s m args meth c) : ∀ (n : Nat), ∀ (x1 x2 x3 x4 : Int32) (H : Heap) (locs : List Loc) (ls : Array Slot), (wb_X10_below_5 post bT m_x gR n) x1 x2 x3 x4 -> va_P (dC, dI) classes (aJ2 cI cC cZ cB cJ a_m nY sJ eG iY lY jR jW jZ jO oQ bR aY jQ gY iJ mQ lJ jA bG mK jB mW mJ eJ dG bT aG jC bL bY jD mLn oF rP dQ aJ aB bW bZ aR aE bI aW bU fJ dO bM bQ bO jY oX m_x gR) H -> va_D A (aJ2 cI cC cZ cB cJ a_m nY sJ eG iY lY jR jW jZ jO oQ bR aY jQ gY iJ mQ lJ jA bG mK jB mW mJ eJ dG bT aG jC bL bY jD mLn oF rP dQ aJ aB bW bZ aR aE bI aW bU fJ dO bM bQ bO jY oX m_x gR) -> va_S A s.heap H locs -> lv_has ls 5 [(0, .ref a_m), (1, .int x1), (2, .int x2), (3, .int x3), (4, .int x4)] -> W p l e rm_X10_below s m args below meth c H locs 0 0 (MQ below (q_X10_below dC dI cI cC cZ cB cJ A a_m nY sJ eG iY lY jR jW jZ jO oQ bR aY jQ gY iJ mQ lJ jA bG mK jB mW mJ eJ dG bT aG jC bL bY jD mLn oF rP dQ aJ aB bW bZ aR aE bI aW bU fJ dO bM bQ bO jY oX m_x gR post) args s 0 0 A) (F0 m 5 ls []) := by
  intro n
  induction n with
  | zero =>
    intro x1 x2 x3 x4 H locs ls hp
    exact False.elim hp
  | succ n ih =>
    intro x1 x2 x3 x4 H locs ls hp
    exact ks_X10_below_5 C0 ih x1 x2 x3 x4 H locs ls hp
end S_X10_below
def wp_X10_below (post : Int32 -> Prop) (p0 p1 bT : Int32) (m_x gR : Nat -> Int32) : Prop := ∃ n : Nat, wb_X10_below_5 post bT m_x gR n p0 p1 0 0
set_option maxHeartbeats 4000000 in
set_option maxRecDepth 100000 in
theorem c_X10_below (l : Launch) (dC : Nat -> ClassId) (dI : Nat -> Nat -> Nat) (cI cC cZ cB cJ : ClassId) (a_m nY sJ eG iY lY jR jW jZ jO oQ bR aY jQ gY iJ mQ lJ jA bG mK jB mW mJ eJ dG sz : Nat) (p0 p1 bT aG jC bL bY : Int32) (jD : Nat) (mLn oF rP dQ aJ aB bW bZ aR aE bI aW bU fJ dO bM bQ bO jY oX : Int32) (m_x gR : Nat -> Int32) (post : Int32 -> Prop) (hw : wp_X10_below post p0 p1 bT m_x gR) : Met l yX10_below (gw yX10_below aI0 5 (some .int)) rm_X10_below (va_Pc [.ref a_m, .int p0, .int p1] (gPre (dC, dI) (tyl cI cC cZ cB cJ) (aJ2 cI cC cZ cB cJ a_m nY sJ eG iY lY jR jW jZ jO oQ bR aY jQ gY iJ mQ lJ jA bG mK jB mW mJ eJ dG bT aG jC bL bY jD mLn oF rP dQ aJ aB bW bZ aR aE bI aW bU fJ dO bM bQ bO jY oX m_x gR) sz)) (q_X10_below dC dI cI cC cZ cB cJ (va_A (aJ2 cI cC cZ cB cJ a_m nY sJ eG iY lY jR jW jZ jO oQ bR aY jQ gY iJ mQ lJ jA bG mK jB mW mJ eJ dG bT aG jC bL bY jD mLn oF rP dQ aJ aB bW bZ aR aE bI aW bU fJ dO bM bQ bO jY oX m_x gR) sz) a_m nY sJ eG iY lY jR jW jZ jO oQ bR aY jQ gY iJ mQ lJ jA bG mK jB mW mJ eJ dG bT aG jC bL bY jD mLn oF rP dQ aJ aB bW bZ aR aE bI aW bU fJ dO bM bQ bO jY oX m_x gR post) 0 0 (va_A (aJ2 cI cC cZ cB cJ a_m nY sJ eG iY lY jR jW jZ jO oQ bR aY jQ gY iJ mQ lJ jA bG mK jB mW mJ eJ dG bT aG jC bL bY jD mLn oF rP dQ aJ aB bW bZ aR aE bI aW bU fJ dO bM bQ bO jY oX m_x gR) sz) := by
  refine aBJ (own := zX) (dC, dI) (tyl cI cC cZ cB cJ) (aJ2 cI cC cZ cB cJ a_m nY sJ eG iY lY jR jW jZ jO oQ bR aY jQ gY iJ mQ lJ jA bG mK jB mW mJ eJ dG bT aG jC bL bY jD mLn oF rP dQ aJ aB bW bZ aR aE bI aW bU fJ dO bM bQ bO jY oX m_x gR) sz [.ref a_m, .int p0, .int p1] (fun A => q_X10_below dC dI cI cC cZ cB cJ A a_m nY sJ eG iY lY jR jW jZ jO oQ bR aY jQ gY iJ mQ lJ jA bG mK jB mW mJ eJ dG bT aG jC bL bY jD mLn oF rP dQ aJ aB bW bZ aR aE bI aW bU fJ dO bM bQ bO jY oX m_x gR post) aFY rfl (lbz rfl) ?_
  intro p e s m args below meth c A H locs ls C0 hP hD hS hl
  have hl : lv_has ls 5 [(0, .ref a_m), (1, .int p0), (2, .int p1)] := hl
  obtain ⟨hx, hb, hr, hml, hown, hts, hlocks, hA, hK, hN, tL, tM, hZL, hTL, hZM, hTM, hZX⟩ := id C0
  have hp := hw
  unfold wp_X10_below at hp
  refine lv_iconst (v := 0) hx hb aVp.1 aCi ?_
  refine lv_istore_n (lv' := [(3, .int 0), (0, .ref a_m), (1, .int p0), (2, .int p1)]) hx hb aVp.2.1 rfl hl (by decide) rfl (fun ls hl => ?_)
  refine lv_iconst (v := 0) hx hb aVp.2.2.1 aCi ?_
  refine lv_istore (lv' := [(4, .int 0), (3, .int 0), (0, .ref a_m), (1, .int p0), (2, .int p1)]) hx hb aVp.2.2.2.1 hl (by decide) rfl (fun ls hl => ?_)
  obtain ⟨n9, hp⟩ := hp
  exact kb_X10_below_5 C0 n9 p0 p1 0 0 H locs ls hp hP hD hS (lv_sub hl [2, 3, 4, 1, 0] rfl)
abbrev wd_X10_lost (cI cC cZ cB cJ : ClassId) (a_m nY sJ eG iY lY jR jW jZ jO oQ bR aY jQ gY iJ mQ lJ jA bG mK jB mW mJ eJ dG : Nat) (bT aG jC bL bY : Int32) (jD : Nat) (mLn oF rP dQ aJ aB bW bZ aR aE bI aW bU fJ dO bM bQ bO jY oX : Int32) : va_W := [(a_m, .inr (10, [.ref nY, .int bT, .ref sJ, .ref eG, .ref iY, .ref lY, .int aG, .ref jR, .ref jW, .ref jZ, .ref jO, .int jC, .ref oQ, .int bL, .int bY, rdv jO jQ jD, .int mLn, .int oF, .int rP, .int dQ, .ref bR, .ref aY, .int aJ, .int aB, .ref jQ, .int bW, .int bZ, .int aR, .int aE, .int bI, .int aW, .ref gY, .int bU, .ref iJ, .ref mQ, .int fJ, .ref lJ, .int dO, .ref jA, .ref bG, .int bM, .int bQ, .int bO, .ref mK, .ref jB, .ref mW, .int jY, .int oX, .ref mJ, .ref eJ, .ref dG]))]
abbrev q_X10_lost (dC : Nat -> ClassId) (dI : Nat -> Nat -> Nat) (cI cC cZ cB cJ : ClassId) (A : Nat -> Prop) (a_m nY sJ eG iY lY jR jW jZ jO oQ bR aY jQ gY iJ mQ lJ jA bG mK jB mW mJ eJ dG : Nat) (bT aG jC bL : Int32) (jD : Nat) (mLn oF rP dQ aJ aB bW bZ aR aE bI aW bU fJ dO bM bQ bO jY oX : Int32) (post : Int32 -> Int32 -> Prop) : Array Value -> State -> Outcome -> State -> Prop := va_Qi (fun (r u : Int32) => post r u) (fun u t => gB (dC, dI) (tyl cI cC cZ cB cJ) A (wd_X10_lost cI cC cZ cB cJ a_m nY sJ eG iY lY jR jW jZ jO oQ bR aY jQ gY iJ mQ lJ jA bG mK jB mW mJ eJ dG bT aG jC bL u jD mLn oF rP dQ aJ aB bW bZ aR aE bI aW bU fJ dO bM bQ bO jY oX) t) A
abbrev rm_X10_lost : Room := { frames := 0, cells := 0, slots := 0, locals := 0 }
def wp_X10_lost (post : Int32 -> Int32 -> Prop) (bY : Int32) : Prop := post 0 1
set_option maxHeartbeats 4000000 in
set_option maxRecDepth 100000 in
theorem c_X10_lost (l : Launch) (dC : Nat -> ClassId) (dI : Nat -> Nat -> Nat) (cI cC cZ cB cJ : ClassId) (a_m nY sJ eG iY lY jR jW jZ jO oQ bR aY jQ gY iJ mQ lJ jA bG mK jB mW mJ eJ dG sz : Nat) (bT aG jC bL bY : Int32) (jD : Nat) (mLn oF rP dQ aJ aB bW bZ aR aE bI aW bU fJ dO bM bQ bO jY oX : Int32) (post : Int32 -> Int32 -> Prop) (hw : wp_X10_lost post bY) : Met l yX10_lost (gw yX10_lost cX10_lost 1 (some .int)) rm_X10_lost (va_Pc [.ref a_m] (gPre (dC, dI) (tyl cI cC cZ cB cJ) (wd_X10_lost cI cC cZ cB cJ a_m nY sJ eG iY lY jR jW jZ jO oQ bR aY jQ gY iJ mQ lJ jA bG mK jB mW mJ eJ dG bT aG jC bL bY jD mLn oF rP dQ aJ aB bW bZ aR aE bI aW bU fJ dO bM bQ bO jY oX) sz)) (q_X10_lost dC dI cI cC cZ cB cJ (va_A (wd_X10_lost cI cC cZ cB cJ a_m nY sJ eG iY lY jR jW jZ jO oQ bR aY jQ gY iJ mQ lJ jA bG mK jB mW mJ eJ dG bT aG jC bL bY jD mLn oF rP dQ aJ aB bW bZ aR aE bI aW bU fJ dO bM bQ bO jY oX) sz) a_m nY sJ eG iY lY jR jW jZ jO oQ bR aY jQ gY iJ mQ lJ jA bG mK jB mW mJ eJ dG bT aG jC bL jD mLn oF rP dQ aJ aB bW bZ aR aE bI aW bU fJ dO bM bQ bO jY oX post) 0 0 (va_A (wd_X10_lost cI cC cZ cB cJ a_m nY sJ eG iY lY jR jW jZ jO oQ bR aY jQ gY iJ mQ lJ jA bG mK jB mW mJ eJ dG bT aG jC bL bY jD mLn oF rP dQ aJ aB bW bZ aR aE bI aW bU fJ dO bM bQ bO jY oX) sz) := by
  refine aBJ (own := zX) (dC, dI) (tyl cI cC cZ cB cJ) (wd_X10_lost cI cC cZ cB cJ a_m nY sJ eG iY lY jR jW jZ jO oQ bR aY jQ gY iJ mQ lJ jA bG mK jB mW mJ eJ dG bT aG jC bL bY jD mLn oF rP dQ aJ aB bW bZ aR aE bI aW bU fJ dO bM bQ bO jY oX) sz [.ref a_m] (fun A => q_X10_lost dC dI cI cC cZ cB cJ A a_m nY sJ eG iY lY jR jW jZ jO oQ bR aY jQ gY iJ mQ lJ jA bG mK jB mW mJ eJ dG bT aG jC bL jD mLn oF rP dQ aJ aB bW bZ aR aE bI aW bU fJ dO bM bQ bO jY oX post) aFY rfl (lbz rfl) ?_
  intro p e s m args below meth c A H locs ls C0 hP hD hS hl
  have hl : lv_has ls 1 [(0, .ref a_m)] := hl
  obtain ⟨hx, hb, hr, hml, hown, hts, hlocks, hA, hK, hN, tL, tM, hZL, hTL, hZM, hTM, hZX⟩ := id C0
  have hp := hw
  unfold wp_X10_lost at hp
  refine lv_aload_n hx hb eX10_lost_0.1 rfl (lv_at hl 0 rfl) ?_
  refine lv_iconst (v := 1) hx hb eX10_lost_0.2.1 aDx ?_
  refine va_put (D := (dC, dI)) (ci := 10) (v := .int 1) (ty := .int) (C := zX) (T := aBe) (N := 51) hx hb hts aAt aD2 aAa aEC hown hK hP hD hS 0 rfl rfl 14 (lbz rfl) (hts _ q_638) (fun _ h9 => h9) rfl (aAa 14 (lbz rfl)) rfl rfl (lbz rfl) eX10_lost_0.2.2.1 (fun H locs hP hD hS => ?_)
  have hPD := PDw (ws' := (wd_X10_lost cI cC cZ cB cJ a_m nY sJ eG iY lY jR jW jZ jO oQ bR aY jQ gY iJ mQ lJ jA bG mK jB mW mJ eJ dG bT aG jC bL 1 jD mLn oF rP dQ aJ aB bW bZ aR aE bI aW bU fJ dO bM bQ bO jY oX)) hP hD rfl
  have hP := hPD.1
  have hD := hPD.2
  refine lv_iconst (v := 0) hx hb eX10_lost_0.2.2.2.1 aCi ?_
  exact W.iret (v := 0) hx hb hr (fun t ht hW => ⟨⟨0, 1, rfl, hp, by rw [ht]; exact hP, va_K.moved hW.alike hK, hD⟩, hS.F ht⟩) hS.2.2 eX10_lost_0.2.2.2.2
abbrev aYg (cI cC cZ cB cJ : ClassId) (a_m nY sJ eG iY lY jR jW jZ jO oQ bR aY jQ gY iJ mQ lJ jA bG mK jB mW mJ eJ dG : Nat) (bT aG jC bL bY : Int32) (jD : Nat) (mLn oF rP dQ aJ aB bW bZ aR aE bI aW bU fJ dO bM bQ bO jY oX : Int32) (qG m_x gR pW qR : Nat -> Int32) : va_W := [(a_m, .inr (10, [.ref nY, .int bT, .ref sJ, .ref eG, .ref iY, .ref lY, .int aG, .ref jR, .ref jW, .ref jZ, .ref jO, .int jC, .ref oQ, .int bL, .int bY, rdv jO jQ jD, .int mLn, .int oF, .int rP, .int dQ, .ref bR, .ref aY, .int aJ, .int aB, .ref jQ, .int bW, .int bZ, .int aR, .int aE, .int bI, .int aW, .ref gY, .int bU, .ref iJ, .ref mQ, .int fJ, .ref lJ, .int dO, .ref jA, .ref bG, .int bM, .int bQ, .int bO, .ref mK, .ref jB, .ref mW, .int jY, .int oX, .ref mJ, .ref eJ, .ref dG])), (nY, .inl (cI, 21, .inl qG)), (sJ, .inl (cI, 16, .inl m_x)), (eG, .inl (cI, 16, .inl gR)), (iY, .inl (cI, 16, .inl pW)), (lY, .inl (cI, 16, .inl qR))]
abbrev q_X10_fruit (dC : Nat -> ClassId) (dI : Nat -> Nat -> Nat) (cI cC cZ cB cJ : ClassId) (A : Nat -> Prop) (a_m nY sJ eG iY lY jR jW jZ jO oQ bR aY jQ gY iJ mQ lJ jA bG mK jB mW mJ eJ dG : Nat) (bT aG jC bL : Int32) (jD : Nat) (mLn oF rP dQ aJ aB bW bZ aR aE bI aW bU fJ dO bM bQ bO jY oX : Int32) (qG m_x gR pW qR : Nat -> Int32) (post : Int32 -> Int32 -> Prop) : Array Value -> State -> Outcome -> State -> Prop := va_Qi (fun (r u : Int32) => post r u) (fun u t => gB (dC, dI) (tyl cI cC cZ cB cJ) A (aYg cI cC cZ cB cJ a_m nY sJ eG iY lY jR jW jZ jO oQ bR aY jQ gY iJ mQ lJ jA bG mK jB mW mJ eJ dG bT aG jC bL u jD mLn oF rP dQ aJ aB bW bZ aR aE bI aW bU fJ dO bM bQ bO jY oX qG m_x gR pW qR) t) A
abbrev rm_X10_fruit : Room := { frames := 3, cells := 0, slots := 0, locals := 67 }
section S_X10_fruit
variable {p : Program} {l : Launch} {e : Env} {s : State} {m : MethodId} {args : Array Value} {below : List Frame} {meth : Method} {c : Code} {dC : Nat -> ClassId} {dI : Nat -> Nat -> Nat} {cI cC cZ cB cJ : ClassId} {A : Nat -> Prop} {a_m nY sJ eG iY lY jR jW jZ jO oQ bR aY jQ gY iJ mQ lJ jA bG mK jB mW mJ eJ dG : Nat} {bT aG jC bL : Int32} {jD : Nat} {mLn oF rP dQ aJ aB bW bZ aR aE bI aW bU fJ dO bM bQ bO jY oX : Int32} {qG m_x gR pW qR : Nat -> Int32} {post : Int32 -> Int32 -> Prop}
def ws_X10_fruit_23 (post : Int32 -> Int32 -> Prop) (bT : Int32) (qG m_x gR pW qR : Nat -> Int32) (bY : Int32) : Prop := wp_X10_lost (fun r_2 m_thrown_3 => post r_2 m_thrown_3) bY
set_option maxHeartbeats 4000000 in
set_option maxRecDepth 100000 in
theorem ks_X10_fruit_23 (C0 : gc aDT (some .int) 3 zX (dC, dI) (tyl cI cC cZ cB cJ) A p s m args meth c) : ∀ (bY : Int32) (H : Heap) (locs : List Loc) (ls : Array Slot), (ws_X10_fruit_23 post bT qG m_x gR pW qR) bY -> va_P (dC, dI) classes (aYg cI cC cZ cB cJ a_m nY sJ eG iY lY jR jW jZ jO oQ bR aY jQ gY iJ mQ lJ jA bG mK jB mW mJ eJ dG bT aG jC bL bY jD mLn oF rP dQ aJ aB bW bZ aR aE bI aW bU fJ dO bM bQ bO jY oX qG m_x gR pW qR) H -> va_D A (aYg cI cC cZ cB cJ a_m nY sJ eG iY lY jR jW jZ jO oQ bR aY jQ gY iJ mQ lJ jA bG mK jB mW mJ eJ dG bT aG jC bL bY jD mLn oF rP dQ aJ aB bW bZ aR aE bI aW bU fJ dO bM bQ bO jY oX qG m_x gR pW qR) -> va_S A s.heap H locs -> lv_has ls 3 [(0, .ref a_m)] -> W p l e rm_X10_fruit s m args below meth c H locs 0 0 (MQ below (q_X10_fruit dC dI cI cC cZ cB cJ A a_m nY sJ eG iY lY jR jW jZ jO oQ bR aY jQ gY iJ mQ lJ jA bG mK jB mW mJ eJ dG bT aG jC bL jD mLn oF rP dQ aJ aB bW bZ aR aE bI aW bU fJ dO bM bQ bO jY oX qG m_x gR pW qR post) args s 0 0 A) (F0 m 23 ls []) := by
  obtain ⟨hx, hb, hr, hml, hown, hts, hlocks, hA, hK, hN, tL, tM, hZL, hTL, hZM, hTM, hZX⟩ := id C0
  intro bY H locs ls hp hP hD hS hl
  unfold ws_X10_fruit_23 at hp
  refine lv_aload_n hx hb aV6.2.2.2.2.2.2.2.2.2.2.2.2.1 rfl (lv_at hl 0 rfl) ?_
  have hm := mgk (wc := (wd_X10_lost cI cC cZ cB cJ a_m nY sJ eG iY lY jR jW jZ jO oQ bR aY jQ gY iJ mQ lJ jA bG mK jB mW mJ eJ dG bT aG jC bL bY jD mLn oF rP dQ aJ aB bW bZ aR aE bI aW bU fJ dO bM bQ bO jY oX)) hP mk_24 6 rfl rfl rfl
  refine yW hP hD hS hA (yS mk_24) (aAi mk_24) hm.1 hm.2 (aAk _) (zW _) (zF (As := []) (rest := []) C0 hP hD hS (yS mk_24) hm.1 (aAl _) 0 10 rfl rfl (c_X10_lost l dC dI cI cC cZ cB cJ a_m nY sJ eG iY lY jR jW jZ jO oQ bR aY jQ gY iJ mQ lJ jA bG mK jB mW mJ eJ dG H.size bT aG jC bL bY jD mLn oF rP dQ aJ aB bW bZ aR aE bI aW bU fJ dO bM bQ bO jY oX _ hp) q_745 q_748 q_746 q_747 aBL h_X10_lost rfl rfl ⟨lbz rfl, lbz rfl⟩ rfl rfl hl.1 rfl (lv_room (lbz rfl)) aV6.2.2.2.2.2.2.2.2.2.2.2.2.2.1 ⟨Nat.zero_le _, Nat.zero_le _⟩) (fun r_2 u H locs hp hP hD hS => ?_)
  obtain ⟨m_thrown_3, rfl⟩ : ∃ z, z = u := ⟨_, rfl⟩
  have hPD := PDm (ws' := (aYg cI cC cZ cB cJ a_m nY sJ eG iY lY jR jW jZ jO oQ bR aY jQ gY iJ mQ lJ jA bG mK jB mW mJ eJ dG bT aG jC bL m_thrown_3 jD mLn oF rP dQ aJ aB bW bZ aR aE bI aW bU fJ dO bM bQ bO jY oX qG m_x gR pW qR)) hP hD 6 rfl rfl rfl
  have hP := hPD.1
  have hD := hPD.2
  exact W.iret (v := r_2) hx hb hr (fun t ht hW => ⟨⟨r_2, m_thrown_3, rfl, hp, by rw [ht]; exact hP, va_K.moved hW.alike hK, hD⟩, hS.F ht⟩) hS.2.2 aV6.2.2.2.2.2.2.2.2.2.2.2.2.2.2.1
end S_X10_fruit
def wp_X10_fruit (post : Int32 -> Int32 -> Prop) (p0 p1 bT bY : Int32) (qG m_x gR pW qR : Nat -> Int32) : Prop := aU8 (fun r_1 => (r_1 = 0 -> ws_X10_fruit_23 post bT qG m_x gR pW qR 0) /\ (¬ r_1 = 0 -> aJY (fun r_4 => (¬ r_4 = 0 -> (p1 = 0 -> vp_in p0 16 /\ (post (m_x p0.toNatClampNeg) 0)) /\ (p1 = 1 -> vp_in p0 16 /\ (post (gR p0.toNatClampNeg) 0)) /\ (p1 = 2 -> vp_in p0 16 /\ (post (pW p0.toNatClampNeg) 0)) /\ (p1 = 3 -> vp_in p0 16 /\ (post (qR p0.toNatClampNeg) 0)) /\ (p1 = 4 -> vp_in p0 21 /\ (post (qG p0.toNatClampNeg) 0)) /\ (p1 = 5 -> ∀ v_5 : Int32, v_5 = qG (16 : Int32).toNatClampNeg -> ∀ v_6 : Int32, v_6 = v_5 >>> (p0 &&& 31) -> post (v_6 &&& 1) 0) /\ (¬ p1 = 0 -> ¬ p1 = 1 -> ¬ p1 = 2 -> ¬ p1 = 3 -> ¬ p1 = 4 -> ¬ p1 = 5 -> vp_in p0 21 /\ ((¬ (qG p0.toNatClampNeg) = 0 -> post 0 0) /\ ((qG p0.toNatClampNeg) = 0 -> aIB (fun r_7 => wp_X10_below (fun r_8 => post r_8 0) p0 r_7 bT m_x gR) 0 bT qG)))) /\ (r_4 = 0 -> ws_X10_fruit_23 post bT qG m_x gR pW qR 0)) p1 0 6)) p0 bT
set_option maxHeartbeats 4000000 in
set_option maxRecDepth 100000 in
theorem c_X10_fruit (l : Launch) (dC : Nat -> ClassId) (dI : Nat -> Nat -> Nat) (cI cC cZ cB cJ : ClassId) (a_m nY sJ eG iY lY jR jW jZ jO oQ bR aY jQ gY iJ mQ lJ jA bG mK jB mW mJ eJ dG sz : Nat) (p0 p1 bT aG jC bL bY : Int32) (jD : Nat) (mLn oF rP dQ aJ aB bW bZ aR aE bI aW bU fJ dO bM bQ bO jY oX : Int32) (qG m_x gR pW qR : Nat -> Int32) (post : Int32 -> Int32 -> Prop) (hw : wp_X10_fruit post p0 p1 bT bY qG m_x gR pW qR) : Met l yX10_fruit (gw yX10_fruit aDT 3 (some .int)) rm_X10_fruit (va_Pc [.ref a_m, .int p0, .int p1] (gPre (dC, dI) (tyl cI cC cZ cB cJ) (aYg cI cC cZ cB cJ a_m nY sJ eG iY lY jR jW jZ jO oQ bR aY jQ gY iJ mQ lJ jA bG mK jB mW mJ eJ dG bT aG jC bL bY jD mLn oF rP dQ aJ aB bW bZ aR aE bI aW bU fJ dO bM bQ bO jY oX qG m_x gR pW qR) sz)) (q_X10_fruit dC dI cI cC cZ cB cJ (va_A (aYg cI cC cZ cB cJ a_m nY sJ eG iY lY jR jW jZ jO oQ bR aY jQ gY iJ mQ lJ jA bG mK jB mW mJ eJ dG bT aG jC bL bY jD mLn oF rP dQ aJ aB bW bZ aR aE bI aW bU fJ dO bM bQ bO jY oX qG m_x gR pW qR) sz) a_m nY sJ eG iY lY jR jW jZ jO oQ bR aY jQ gY iJ mQ lJ jA bG mK jB mW mJ eJ dG bT aG jC bL jD mLn oF rP dQ aJ aB bW bZ aR aE bI aW bU fJ dO bM bQ bO jY oX qG m_x gR pW qR post) 0 0 (va_A (aYg cI cC cZ cB cJ a_m nY sJ eG iY lY jR jW jZ jO oQ bR aY jQ gY iJ mQ lJ jA bG mK jB mW mJ eJ dG bT aG jC bL bY jD mLn oF rP dQ aJ aB bW bZ aR aE bI aW bU fJ dO bM bQ bO jY oX qG m_x gR pW qR) sz) := by
  refine aBJ (own := zX) (dC, dI) (tyl cI cC cZ cB cJ) (aYg cI cC cZ cB cJ a_m nY sJ eG iY lY jR jW jZ jO oQ bR aY jQ gY iJ mQ lJ jA bG mK jB mW mJ eJ dG bT aG jC bL bY jD mLn oF rP dQ aJ aB bW bZ aR aE bI aW bU fJ dO bM bQ bO jY oX qG m_x gR pW qR) sz [.ref a_m, .int p0, .int p1] (fun A => q_X10_fruit dC dI cI cC cZ cB cJ A a_m nY sJ eG iY lY jR jW jZ jO oQ bR aY jQ gY iJ mQ lJ jA bG mK jB mW mJ eJ dG bT aG jC bL jD mLn oF rP dQ aJ aB bW bZ aR aE bI aW bU fJ dO bM bQ bO jY oX qG m_x gR pW qR post) aFY rfl (lbz rfl) ?_
  intro p e s m args below meth c A H locs ls C0 hP hD hS hl
  have hl : lv_has ls 3 [(0, .ref a_m), (1, .int p0), (2, .int p1)] := hl
  obtain ⟨hx, hb, hr, hml, hown, hts, hlocks, hA, hK, hN, tL, tM, hZL, hTL, hZM, hTM, hZX⟩ := id C0
  have hp := hw
  unfold wp_X10_fruit at hp
  refine lv_aload_n hx hb aV6.1 rfl (lv_at hl 0 rfl) ?_
  refine lv_iconst (v := 0) hx hb aV6.2.1 aCi ?_
  refine va_put (D := (dC, dI)) (ci := 10) (v := .int 0) (ty := .int) (C := zX) (T := aBe) (N := 51) hx hb hts aAt aD2 aAa aEC hown hK hP hD hS 0 rfl rfl 14 (lbz rfl) (hts _ q_638) (fun _ h9 => h9) rfl (aAa 14 (lbz rfl)) rfl rfl (lbz rfl) aV6.2.2.1 (fun H locs hP hD hS => ?_)
  have hPD := PDw (ws' := (aYg cI cC cZ cB cJ a_m nY sJ eG iY lY jR jW jZ jO oQ bR aY jQ gY iJ mQ lJ jA bG mK jB mW mJ eJ dG bT aG jC bL 0 jD mLn oF rP dQ aJ aB bW bZ aR aE bI aW bU fJ dO bM bQ bO jY oX qG m_x gR pW qR)) hP hD rfl
  have hP := hPD.1
  have hD := hPD.2
  refine lv_aload_n hx hb aV6.2.2.2.1 rfl (lv_at hl 0 rfl) ?_
  refine lv_iload_n hx hb aV6.2.2.2.2.1 rfl (lv_at hl 1 rfl) ?_
  have hm := mgk (wc := (aY2 cI cC cZ cB cJ a_m nY sJ eG iY lY jR jW jZ jO oQ bR aY jQ gY iJ mQ lJ jA bG mK jB mW mJ eJ dG bT aG jC bL 0 jD mLn oF rP dQ aJ aB bW bZ aR aE bI aW bU fJ dO bM bQ bO jY oX)) hP mk_24 6 rfl rfl rfl
  refine yW hP hD hS hA (yS mk_24) (aAi mk_24) hm.1 hm.2 (aAk _) (zW _) (zF (As := [.int p0]) (rest := []) C0 hP hD hS (yS mk_24) hm.1 (aAl _) 0 10 rfl rfl (c_X10_isFruit l dC dI cI cC cZ cB cJ a_m nY sJ eG iY lY jR jW jZ jO oQ bR aY jQ gY iJ mQ lJ jA bG mK jB mW mJ eJ dG H.size p0 bT aG jC bL 0 jD mLn oF rP dQ aJ aB bW bZ aR aE bI aW bU fJ dO bM bQ bO jY oX _ hp) q_741 q_744 q_742 q_743 aBL h_X10_isFruit rfl rfl ⟨lbz rfl, lbz rfl⟩ rfl rfl hl.1 rfl (lv_room (lbz rfl)) aV6.2.2.2.2.2.1 ⟨Nat.zero_le _, Nat.zero_le _⟩) (fun r_1 u H locs hp hP hD hS => ?_)
  have hPD := PDm (ws' := (aYg cI cC cZ cB cJ a_m nY sJ eG iY lY jR jW jZ jO oQ bR aY jQ gY iJ mQ lJ jA bG mK jB mW mJ eJ dG bT aG jC bL 0 jD mLn oF rP dQ aJ aB bW bZ aR aE bI aW bU fJ dO bM bQ bO jY oX qG m_x gR pW qR)) hP hD 6 rfl rfl rfl
  have hP := hPD.1
  have hD := hPD.2
  refine lv_if_eq (tgt := 23) hx hb aV6.2.2.2.2.2.2.1 (by decide) (fun hc => ?_) (fun hc => ?_)
  · have hp := hp.1 hc
    exact ks_X10_fruit_23 C0 0 H locs ls hp hP hD hS (lv_sub hl [0] rfl)
  · have hp := hp.2 hc
    refine lv_iload_n hx hb aV6.2.2.2.2.2.2.2.1 rfl (lv_at hl 2 rfl) ?_
    refine lv_iconst (v := 0) hx hb aV6.2.2.2.2.2.2.2.2.1 aCi ?_
    refine lv_bipush (v := 6) hx hb aV6.2.2.2.2.2.2.2.2.2.1 bp_6 ?_
    have hm := mgk (wc := (aKW cI cC cZ cB cJ)) hP mk_208 6 rfl rfl rfl
    refine yW hP hD hS hA (yS mk_208) (aAi mk_208) hm.1 hm.2 (aAk _) (zW _) (aDn (As := [.int p1, .int 0, .int 6]) (rest := []) C0 hP hD hS (yS mk_208) hm.1 (aAl _) (aRu l dC dI cI cC cZ cB cJ H.size p1 0 6 _ hp) q_641 q_644 q_643 aBL aRx rfl rfl ⟨lbz rfl, lbz rfl⟩ rfl rfl hl.1 rfl (lv_room (lbz rfl)) aV6.2.2.2.2.2.2.2.2.2.2.1 ⟨Nat.zero_le _, Nat.zero_le _⟩) (fun r_4 u H locs hp hP hD hS => ?_)
    have hPD := PDm (ws' := (aYg cI cC cZ cB cJ a_m nY sJ eG iY lY jR jW jZ jO oQ bR aY jQ gY iJ mQ lJ jA bG mK jB mW mJ eJ dG bT aG jC bL 0 jD mLn oF rP dQ aJ aB bW bZ aR aE bI aW bU fJ dO bM bQ bO jY oX qG m_x gR pW qR)) hP hD 6 rfl rfl rfl
    have hP := hPD.1
    have hD := hPD.2
    refine lv_if_ne (tgt := 28) hx hb aV6.2.2.2.2.2.2.2.2.2.2.2.1 (by decide) (fun hc => ?_) (fun hc => ?_)
    · have hp := hp.1 hc
      refine lv_iload_n hx hb aV6.2.2.2.2.2.2.2.2.2.2.2.2.2.2.2 rfl (lv_at hl 2 rfl) ?_
      by_cases hc0 : p1 = 0
      · have hp := hp.1 hc0
        refine lv_tableIn (tgt := 68) hx hb aK7.1 (by first | (rw [hc0]; done) | (rw [hc0]; decide)) (by first | (rw [hc0]; done) | (rw [hc0]; decide)) (by first | (rw [hc0]; done) | (rw [hc0]; rfl)) (by decide) ?_
        refine lv_aload_n hx hb aK7.2.1 rfl (lv_at hl 0 rfl) ?_
        refine va_get (D := (dC, dI)) (ci := 10) (v := .ref sJ) (C := zX) (T := aBe) (N := 51) hx hb hts aAt hown hK hP 0 rfl rfl 2 (lbz rfl) (hts _ q_688) (fun _ h9 => h9) rfl aK7.2.2.1 ?_
        refine lv_iload_n hx hb aK7.2.2.2.1 rfl (lv_at hl 1 rfl) ?_
        have hin := hp.1
        have hp := hp.2
        refine va_iald hx hb hK hP 2 0 rfl rfl hin aK7.2.2.2.2.1 ?_
        exact W.iret (v := m_x p0.toNatClampNeg) hx hb hr (fun t ht hW => ⟨⟨m_x p0.toNatClampNeg, 0, rfl, hp, by rw [ht]; exact hP, va_K.moved hW.alike hK, hD⟩, hS.F ht⟩) hS.2.2 aK7.2.2.2.2.2.1
      by_cases hc1 : p1 = 1
      · have hp := hp.2.1 hc1
        refine lv_tableIn (tgt := 75) hx hb aK7.1 (by first | (rw [hc1]; done) | (rw [hc1]; decide)) (by first | (rw [hc1]; done) | (rw [hc1]; decide)) (by first | (rw [hc1]; done) | (rw [hc1]; rfl)) (by decide) ?_
        refine lv_aload_n hx hb aK7.2.2.2.2.2.2.1 rfl (lv_at hl 0 rfl) ?_
        refine va_get (D := (dC, dI)) (ci := 10) (v := .ref eG) (C := zX) (T := aBe) (N := 51) hx hb hts aAt hown hK hP 0 rfl rfl 3 (lbz rfl) (hts _ q_689) (fun _ h9 => h9) rfl aK7.2.2.2.2.2.2.2.1 ?_
        refine lv_iload_n hx hb aK7.2.2.2.2.2.2.2.2.1 rfl (lv_at hl 1 rfl) ?_
        have hin := hp.1
        have hp := hp.2
        refine va_iald hx hb hK hP 3 0 rfl rfl hin aK7.2.2.2.2.2.2.2.2.2.1 ?_
        exact W.iret (v := gR p0.toNatClampNeg) hx hb hr (fun t ht hW => ⟨⟨gR p0.toNatClampNeg, 0, rfl, hp, by rw [ht]; exact hP, va_K.moved hW.alike hK, hD⟩, hS.F ht⟩) hS.2.2 aK7.2.2.2.2.2.2.2.2.2.2.1
      by_cases hc2 : p1 = 2
      · have hp := hp.2.2.1 hc2
        refine lv_tableIn (tgt := 82) hx hb aK7.1 (by first | (rw [hc2]; done) | (rw [hc2]; decide)) (by first | (rw [hc2]; done) | (rw [hc2]; decide)) (by first | (rw [hc2]; done) | (rw [hc2]; rfl)) (by decide) ?_
        refine lv_aload_n hx hb aK7.2.2.2.2.2.2.2.2.2.2.2.1 rfl (lv_at hl 0 rfl) ?_
        refine va_get (D := (dC, dI)) (ci := 10) (v := .ref iY) (C := zX) (T := aBe) (N := 51) hx hb hts aAt hown hK hP 0 rfl rfl 4 (lbz rfl) (hts _ q_690) (fun _ h9 => h9) rfl aK7.2.2.2.2.2.2.2.2.2.2.2.2.1 ?_
        refine lv_iload_n hx hb aK7.2.2.2.2.2.2.2.2.2.2.2.2.2.1 rfl (lv_at hl 1 rfl) ?_
        have hin := hp.1
        have hp := hp.2
        refine va_iald hx hb hK hP 4 0 rfl rfl hin aK7.2.2.2.2.2.2.2.2.2.2.2.2.2.2.1 ?_
        exact W.iret (v := pW p0.toNatClampNeg) hx hb hr (fun t ht hW => ⟨⟨pW p0.toNatClampNeg, 0, rfl, hp, by rw [ht]; exact hP, va_K.moved hW.alike hK, hD⟩, hS.F ht⟩) hS.2.2 aK7.2.2.2.2.2.2.2.2.2.2.2.2.2.2.2
      by_cases hc3 : p1 = 3
      · have hp := hp.2.2.2.1 hc3
        refine lv_tableIn (tgt := 89) hx hb aK7.1 (by first | (rw [hc3]; done) | (rw [hc3]; decide)) (by first | (rw [hc3]; done) | (rw [hc3]; decide)) (by first | (rw [hc3]; done) | (rw [hc3]; rfl)) (by decide) ?_
        refine lv_aload_n hx hb aSo.1 rfl (lv_at hl 0 rfl) ?_
        refine va_get (D := (dC, dI)) (ci := 10) (v := .ref lY) (C := zX) (T := aBe) (N := 51) hx hb hts aAt hown hK hP 0 rfl rfl 5 (lbz rfl) (hts _ q_691) (fun _ h9 => h9) rfl aSo.2.1 ?_
        refine lv_iload_n hx hb aSo.2.2.1 rfl (lv_at hl 1 rfl) ?_
        have hin := hp.1
        have hp := hp.2
        refine va_iald hx hb hK hP 5 0 rfl rfl hin aSo.2.2.2.1 ?_
        exact W.iret (v := qR p0.toNatClampNeg) hx hb hr (fun t ht hW => ⟨⟨qR p0.toNatClampNeg, 0, rfl, hp, by rw [ht]; exact hP, va_K.moved hW.alike hK, hD⟩, hS.F ht⟩) hS.2.2 aSo.2.2.2.2.1
      by_cases hc4 : p1 = 4
      · have hp := hp.2.2.2.2.1 hc4
        refine lv_tableIn (tgt := 96) hx hb aK7.1 (by first | (rw [hc4]; done) | (rw [hc4]; decide)) (by first | (rw [hc4]; done) | (rw [hc4]; decide)) (by first | (rw [hc4]; done) | (rw [hc4]; rfl)) (by decide) ?_
        refine lv_aload_n hx hb aSo.2.2.2.2.2.1 rfl (lv_at hl 0 rfl) ?_
        refine va_get (D := (dC, dI)) (ci := 10) (v := .ref nY) (C := zX) (T := aBe) (N := 51) hx hb hts aAt hown hK hP 0 rfl rfl 0 (lbz rfl) (hts _ aHO) (fun _ h9 => h9) rfl aSo.2.2.2.2.2.2.1 ?_
        refine lv_iload_n hx hb aSo.2.2.2.2.2.2.2.1 rfl (lv_at hl 1 rfl) ?_
        have hin := hp.1
        have hp := hp.2
        refine va_iald hx hb hK hP 1 0 rfl rfl hin aSo.2.2.2.2.2.2.2.2.1 ?_
        exact W.iret (v := qG p0.toNatClampNeg) hx hb hr (fun t ht hW => ⟨⟨qG p0.toNatClampNeg, 0, rfl, hp, by rw [ht]; exact hP, va_K.moved hW.alike hK, hD⟩, hS.F ht⟩) hS.2.2 aSo.2.2.2.2.2.2.2.2.2.1
      by_cases hc5 : p1 = 5
      · have hp := hp.2.2.2.2.2.1 hc5
        refine lv_tableIn (tgt := 103) hx hb aK7.1 (by first | (rw [hc5]; done) | (rw [hc5]; decide)) (by first | (rw [hc5]; done) | (rw [hc5]; decide)) (by first | (rw [hc5]; done) | (rw [hc5]; rfl)) (by decide) ?_
        refine lv_aload_n hx hb aSo.2.2.2.2.2.2.2.2.2.2.1 rfl (lv_at hl 0 rfl) ?_
        refine va_get (D := (dC, dI)) (ci := 10) (v := .ref nY) (C := zX) (T := aBe) (N := 51) hx hb hts aAt hown hK hP 0 rfl rfl 0 (lbz rfl) (hts _ aHO) (fun _ h9 => h9) rfl aSo.2.2.2.2.2.2.2.2.2.2.2.1 ?_
        refine lv_bipush (v := 16) hx hb aSo.2.2.2.2.2.2.2.2.2.2.2.2.1 bp_16 ?_
        refine va_iald hx hb hK hP 1 0 rfl rfl (g_in rfl) aSo.2.2.2.2.2.2.2.2.2.2.2.2.2.1 ?_
        refine lv_topi (fun v_5 aJD => ?_)
        have hp := hp v_5 aJD
        refine lv_iload_n hx hb aSo.2.2.2.2.2.2.2.2.2.2.2.2.2.2.1 rfl (lv_at hl 1 rfl) ?_
        refine lv_ishr hx hb aSo.2.2.2.2.2.2.2.2.2.2.2.2.2.2.2 ?_
        refine lv_topi (fun v_6 ev_6 => ?_)
        have hp := hp v_6 ev_6
        refine lv_iconst (v := 1) hx hb aP0.1 aDx ?_
        refine lv_iand hx hb aP0.2.1 ?_
        exact W.iret (v := v_6 &&& 1) hx hb hr (fun t ht hW => ⟨⟨v_6 &&& 1, 0, rfl, hp, by rw [ht]; exact hP, va_K.moved hW.alike hK, hD⟩, hS.F ht⟩) hS.2.2 aP0.2.2.1
      have hp := hp.2.2.2.2.2.2 hc0 hc1 hc2 hc3 hc4 hc5
      have key : W p l e rm_X10_fruit s m args below meth c H locs 0 0 (MQ below (q_X10_fruit dC dI cI cC cZ cB cJ A a_m nY sJ eG iY lY jR jW jZ jO oQ bR aY jQ gY iJ mQ lJ jA bG mK jB mW mJ eJ dG bT aG jC bL jD mLn oF rP dQ aJ aB bW bZ aR aE bI aW bU fJ dO bM bQ bO jY oX qG m_x gR pW qR post) args s 0 0 A) (F0 m 115 ls []) := by
        refine lv_aload_n hx hb aP0.2.2.2.1 rfl (lv_at hl 0 rfl) ?_
        refine va_get (D := (dC, dI)) (ci := 10) (v := .ref nY) (C := zX) (T := aBe) (N := 51) hx hb hts aAt hown hK hP 0 rfl rfl 0 (lbz rfl) (hts _ aHO) (fun _ h9 => h9) rfl aP0.2.2.2.2.1 ?_
        refine lv_iload_n hx hb aP0.2.2.2.2.2.1 rfl (lv_at hl 1 rfl) ?_
        have hin := hp.1
        have hp := hp.2
        refine va_iald hx hb hK hP 1 0 rfl rfl hin aP0.2.2.2.2.2.2.1 ?_
        refine lv_if_ne (tgt := 141) hx hb aP0.2.2.2.2.2.2.2.1 (by decide) (fun hc => ?_) (fun hc => ?_)
        · have hp := hp.1 hc
          refine lv_iconst (v := 0) hx hb eX10_fruit_138.2.1 aCi ?_
          exact W.iret (v := 0) hx hb hr (fun t ht hW => ⟨⟨0, 0, rfl, hp, by rw [ht]; exact hP, va_K.moved hW.alike hK, hD⟩, hS.F ht⟩) hS.2.2 eX10_fruit_138.2.2
        · have hp := hp.2 hc
          refine lv_aload_n hx hb aP0.2.2.2.2.2.2.2.2.1 rfl (lv_at hl 0 rfl) ?_
          refine lv_iload_n hx hb aP0.2.2.2.2.2.2.2.2.2.1 rfl (lv_at hl 1 rfl) ?_
          refine lv_aload_n hx hb aP0.2.2.2.2.2.2.2.2.2.2.1 rfl (lv_at hl 0 rfl) ?_
          refine lv_aload_n hx hb aP0.2.2.2.2.2.2.2.2.2.2.2.1 rfl (lv_at hl 0 rfl) ?_
          refine va_get (D := (dC, dI)) (ci := 10) (v := .ref nY) (C := zX) (T := aBe) (N := 51) hx hb hts aAt hown hK hP 0 rfl rfl 0 (lbz rfl) (hts _ aHO) (fun _ h9 => h9) rfl aP0.2.2.2.2.2.2.2.2.2.2.2.2.1 ?_
          refine lv_iconst (v := 0) hx hb aP0.2.2.2.2.2.2.2.2.2.2.2.2.2.1 aCi ?_
          have hm := mgk (wc := (aGS cI cC cZ cB cJ a_m nY sJ eG iY lY jR jW jZ jO oQ bR aY jQ gY iJ mQ lJ jA bG mK jB mW mJ eJ dG bT aG jC bL 0 jD mLn oF rP dQ aJ aB bW bZ aR aE bI aW bU fJ dO bM bQ bO jY oX qG)) hP mk_26 6 rfl rfl rfl
          refine yW hP hD hS hA (yS mk_26) (aAi mk_26) hm.1 hm.2 (aAk _) (zW _) (zF (As := [.ref nY, .int 0]) (rest := [.int p0, .ref a_m]) C0 hP hD hS (yS mk_26) hm.1 (aAl _) 0 10 rfl rfl (aRP l dC dI cI cC cZ cB cJ a_m nY sJ eG iY lY jR jW jZ jO oQ bR aY jQ gY iJ mQ lJ jA bG mK jB mW mJ eJ dG H.size 0 bT aG jC bL 0 jD mLn oF rP dQ aJ aB bW bZ aR aE bI aW bU fJ dO bM bQ bO jY oX qG _ hp) q_749 q_752 q_750 q_751 aBL aRR rfl rfl ⟨lbz rfl, lbz rfl⟩ rfl rfl hl.1 rfl (lv_room (lbz rfl)) aP0.2.2.2.2.2.2.2.2.2.2.2.2.2.2.1 ⟨Nat.zero_le _, Nat.zero_le _⟩) (fun r_7 u H locs hp hP hD hS => ?_)
          have hPD := PDm (ws' := (aYg cI cC cZ cB cJ a_m nY sJ eG iY lY jR jW jZ jO oQ bR aY jQ gY iJ mQ lJ jA bG mK jB mW mJ eJ dG bT aG jC bL 0 jD mLn oF rP dQ aJ aB bW bZ aR aE bI aW bU fJ dO bM bQ bO jY oX qG m_x gR pW qR)) hP hD 6 rfl rfl rfl
          have hP := hPD.1
          have hD := hPD.2
          have hm := mgk (wc := (aJ2 cI cC cZ cB cJ a_m nY sJ eG iY lY jR jW jZ jO oQ bR aY jQ gY iJ mQ lJ jA bG mK jB mW mJ eJ dG bT aG jC bL 0 jD mLn oF rP dQ aJ aB bW bZ aR aE bI aW bU fJ dO bM bQ bO jY oX m_x gR)) hP mk_209 6 rfl rfl rfl
          refine yW hP hD hS hA (yS mk_209) (aAi mk_209) hm.1 hm.2 (aAk _) (zW _) (zF (As := [.int p0, .int r_7]) (rest := []) C0 hP hD hS (yS mk_209) hm.1 (aAl _) 0 10 rfl rfl (c_X10_below l dC dI cI cC cZ cB cJ a_m nY sJ eG iY lY jR jW jZ jO oQ bR aY jQ gY iJ mQ lJ jA bG mK jB mW mJ eJ dG H.size p0 r_7 bT aG jC bL 0 jD mLn oF rP dQ aJ aB bW bZ aR aE bI aW bU fJ dO bM bQ bO jY oX m_x gR _ hp) q_753 q_756 q_754 q_755 aBL h_X10_below rfl rfl ⟨lbz rfl, lbz rfl⟩ rfl rfl hl.1 rfl (lv_room (lbz rfl)) aP0.2.2.2.2.2.2.2.2.2.2.2.2.2.2.2 ⟨Nat.zero_le _, Nat.zero_le _⟩) (fun r_8 u H locs hp hP hD hS => ?_)
          have hPD := PDm (ws' := (aYg cI cC cZ cB cJ a_m nY sJ eG iY lY jR jW jZ jO oQ bR aY jQ gY iJ mQ lJ jA bG mK jB mW mJ eJ dG bT aG jC bL 0 jD mLn oF rP dQ aJ aB bW bZ aR aE bI aW bU fJ dO bM bQ bO jY oX qG m_x gR pW qR)) hP hD 6 rfl rfl rfl
          have hP := hPD.1
          have hD := hPD.2
          refine lv_goto (tgt := 142) hx hb eX10_fruit_138.1 (by decide) ?_
          exact W.iret (v := r_8) hx hb hr (fun t ht hW => ⟨⟨r_8, 0, rfl, hp, by rw [ht]; exact hP, va_K.moved hW.alike hK, hD⟩, hS.F ht⟩) hS.2.2 eX10_fruit_138.2.2
      exact lv_tableOut (tgt := 115) hx hb aK7.1 (by have g0 := lv_neT (a := 0) hc0 rfl; have g1 := lv_neT (a := 1) hc1 rfl; have g2 := lv_neT (a := 2) hc2 rfl; have g3 := lv_neT (a := 3) hc3 rfl; have g4 := lv_neT (a := 4) hc4 rfl; have g5 := lv_neT (a := 5) hc5 rfl; omega) (by decide) key
    · have hp := hp.2 hc
      exact ks_X10_fruit_23 C0 0 H locs ls hp hP hD hS (lv_sub hl [0] rfl)
abbrev aK5 (cI cC cZ cB cJ : ClassId) (a_m nY sJ eG iY lY jR jW jZ jO oQ bR aY jQ gY iJ mQ lJ jA bG mK jB mW mJ eJ dG : Nat) (bT aG jC bL bY : Int32) (jD : Nat) (mLn oF rP dQ aJ aB bW bZ aR aE bI aW bU fJ dO bM bQ bO jY oX : Int32) : va_W := [(a_m, .inr (10, [.ref nY, .int bT, .ref sJ, .ref eG, .ref iY, .ref lY, .int aG, .ref jR, .ref jW, .ref jZ, .ref jO, .int jC, .ref oQ, .int bL, .int bY, rdv jO jQ jD, .int mLn, .int oF, .int rP, .int dQ, .ref bR, .ref aY, .int aJ, .int aB, .ref jQ, .int bW, .int bZ, .int aR, .int aE, .int bI, .int aW, .ref gY, .int bU, .ref iJ, .ref mQ, .int fJ, .ref lJ, .int dO, .ref jA, .ref bG, .int bM, .int bQ, .int bO, .ref mK, .ref jB, .ref mW, .int jY, .int oX, .ref mJ, .ref eJ, .ref dG]))]
abbrev q_X10_isStanding (dC : Nat -> ClassId) (dI : Nat -> Nat -> Nat) (cI cC cZ cB cJ : ClassId) (A : Nat -> Prop) (a_m nY sJ eG iY lY jR jW jZ jO oQ bR aY jQ gY iJ mQ lJ jA bG mK jB mW mJ eJ dG : Nat) (bT aG jC bL bY : Int32) (jD : Nat) (mLn oF rP dQ aJ aB bW bZ aR aE bI aW bU fJ dO bM bQ bO jY oX : Int32) (post : Int32 -> Prop) : Array Value -> State -> Outcome -> State -> Prop := va_Qi (fun (r : Int32) (u : Unit) => post r) (fun u t => gB (dC, dI) (tyl cI cC cZ cB cJ) A (aK5 cI cC cZ cB cJ a_m nY sJ eG iY lY jR jW jZ jO oQ bR aY jQ gY iJ mQ lJ jA bG mK jB mW mJ eJ dG bT aG jC bL bY jD mLn oF rP dQ aJ aB bW bZ aR aE bI aW bU fJ dO bM bQ bO jY oX) t) A
abbrev rm_X10_isStanding : Room := { frames := 1, cells := 0, slots := 0, locals := 22 }
def aJI (post : Int32 -> Prop) (p0 aG : Int32) : Prop := ∀ v_1 : Int32, v_1 = aG - 1 -> aJY (fun r_2 => narrow .boolean (.int r_2) = .int r_2 /\ post r_2) p0 0 v_1
set_option maxHeartbeats 4000000 in
set_option maxRecDepth 100000 in
theorem aZR (l : Launch) (dC : Nat -> ClassId) (dI : Nat -> Nat -> Nat) (cI cC cZ cB cJ : ClassId) (a_m nY sJ eG iY lY jR jW jZ jO oQ bR aY jQ gY iJ mQ lJ jA bG mK jB mW mJ eJ dG sz : Nat) (p0 bT aG jC bL bY : Int32) (jD : Nat) (mLn oF rP dQ aJ aB bW bZ aR aE bI aW bU fJ dO bM bQ bO jY oX : Int32) (post : Int32 -> Prop) (hw : aJI post p0 aG) : Met l aZD (gw aZD bB6 2 (some .boolean)) rm_X10_isStanding (va_Pc [.ref a_m, .int p0] (gPre (dC, dI) (tyl cI cC cZ cB cJ) (aK5 cI cC cZ cB cJ a_m nY sJ eG iY lY jR jW jZ jO oQ bR aY jQ gY iJ mQ lJ jA bG mK jB mW mJ eJ dG bT aG jC bL bY jD mLn oF rP dQ aJ aB bW bZ aR aE bI aW bU fJ dO bM bQ bO jY oX) sz)) (q_X10_isStanding dC dI cI cC cZ cB cJ (va_A (aK5 cI cC cZ cB cJ a_m nY sJ eG iY lY jR jW jZ jO oQ bR aY jQ gY iJ mQ lJ jA bG mK jB mW mJ eJ dG bT aG jC bL bY jD mLn oF rP dQ aJ aB bW bZ aR aE bI aW bU fJ dO bM bQ bO jY oX) sz) a_m nY sJ eG iY lY jR jW jZ jO oQ bR aY jQ gY iJ mQ lJ jA bG mK jB mW mJ eJ dG bT aG jC bL bY jD mLn oF rP dQ aJ aB bW bZ aR aE bI aW bU fJ dO bM bQ bO jY oX post) 0 0 (va_A (aK5 cI cC cZ cB cJ a_m nY sJ eG iY lY jR jW jZ jO oQ bR aY jQ gY iJ mQ lJ jA bG mK jB mW mJ eJ dG bT aG jC bL bY jD mLn oF rP dQ aJ aB bW bZ aR aE bI aW bU fJ dO bM bQ bO jY oX) sz) := by
  refine aBJ (own := zX) (dC, dI) (tyl cI cC cZ cB cJ) (aK5 cI cC cZ cB cJ a_m nY sJ eG iY lY jR jW jZ jO oQ bR aY jQ gY iJ mQ lJ jA bG mK jB mW mJ eJ dG bT aG jC bL bY jD mLn oF rP dQ aJ aB bW bZ aR aE bI aW bU fJ dO bM bQ bO jY oX) sz [.ref a_m, .int p0] (fun A => q_X10_isStanding dC dI cI cC cZ cB cJ A a_m nY sJ eG iY lY jR jW jZ jO oQ bR aY jQ gY iJ mQ lJ jA bG mK jB mW mJ eJ dG bT aG jC bL bY jD mLn oF rP dQ aJ aB bW bZ aR aE bI aW bU fJ dO bM bQ bO jY oX post) aFY rfl (lbz rfl) ?_
  intro p e s m args below meth c A H locs ls C0 hP hD hS hl
  have hl : lv_has ls 2 [(0, .ref a_m), (1, .int p0)] := hl
  obtain ⟨hx, hb, hr, hml, hown, hts, hlocks, hA, hK, hN, tL, tM, hZL, hTL, hZM, hTM, hZX⟩ := id C0
  have hp := hw
  unfold aJI at hp
  refine lv_iload_n hx hb eX10_isStanding_0.1 rfl (lv_at hl 1 rfl) ?_
  refine lv_iconst (v := 0) hx hb eX10_isStanding_0.2.1 aCi ?_
  refine lv_aload_n hx hb eX10_isStanding_0.2.2.1 rfl (lv_at hl 0 rfl) ?_
  refine va_get (D := (dC, dI)) (ci := 10) (v := .int aG) (C := zX) (T := aBe) (N := 51) hx hb hts aAt hown hK hP 0 rfl rfl 6 (lbz rfl) (hts _ q_666) (fun _ h9 => h9) rfl eX10_isStanding_0.2.2.2.1 ?_
  refine lv_iconst (v := 1) hx hb eX10_isStanding_0.2.2.2.2.1 aDx ?_
  refine lv_isub hx hb eX10_isStanding_0.2.2.2.2.2.1 ?_
  refine lv_topi (fun v_1 aFJ => ?_)
  have hp := hp v_1 aFJ
  refine yW (wc := (aKW cI cC cZ cB cJ)) hP hD hS hA [] [0] rfl rfl rfl rfl (aDn (As := [.int p0, .int 0, .int v_1]) (rest := []) C0 hP hD hS [] rfl rfl (aRu l dC dI cI cC cZ cB cJ H.size p0 0 v_1 _ hp) q_641 q_644 q_643 aBL aRx rfl rfl ⟨lbz rfl, lbz rfl⟩ rfl rfl hl.1 rfl (lv_room (lbz rfl)) eX10_isStanding_0.2.2.2.2.2.2.1 ⟨Nat.zero_le _, Nat.zero_le _⟩) (fun r_2 u H locs hp hP hD hS => ?_)
  have hPD := PDs (ws' := (aK5 cI cC cZ cB cJ a_m nY sJ eG iY lY jR jW jZ jO oQ bR aY jQ gY iJ mQ lJ jA bG mK jB mW mJ eJ dG bT aG jC bL bY jD mLn oF rP dQ aJ aB bW bZ aR aE bI aW bU fJ dO bM bQ bO jY oX)) hP hD [0] (by decide) rfl
  have hP := hPD.1
  have hD := hPD.2
  have hnz := hp.1
  have hp := hp.2
  exact W.zret (v := r_2) hx hb hr hnz (fun t ht hW => ⟨⟨r_2, (), rfl, hp, by rw [ht]; exact hP, va_K.moved hW.alike hK, hD⟩, hS.F ht⟩) hS.2.2 eX10_isStanding_0.2.2.2.2.2.2.2
abbrev wd_X10_downOf (cI cC cZ cB cJ : ClassId) (a_m nY sJ eG iY lY jR jW jZ jO oQ bR aY jQ gY iJ mQ lJ jA bG mK jB mW mJ eJ dG : Nat) (bT aG jC bL bY : Int32) (jD : Nat) (mLn oF rP dQ aJ aB bW bZ aR aE bI aW bU fJ dO bM bQ bO jY oX : Int32) (oO : Nat -> Int32) : va_W := [(a_m, .inr (10, [.ref nY, .int bT, .ref sJ, .ref eG, .ref iY, .ref lY, .int aG, .ref jR, .ref jW, .ref jZ, .ref jO, .int jC, .ref oQ, .int bL, .int bY, rdv jO jQ jD, .int mLn, .int oF, .int rP, .int dQ, .ref bR, .ref aY, .int aJ, .int aB, .ref jQ, .int bW, .int bZ, .int aR, .int aE, .int bI, .int aW, .ref gY, .int bU, .ref iJ, .ref mQ, .int fJ, .ref lJ, .int dO, .ref jA, .ref bG, .int bM, .int bQ, .int bO, .ref mK, .ref jB, .ref mW, .int jY, .int oX, .ref mJ, .ref eJ, .ref dG])), (jW, .inl (cI, 8, .inl oO))]
abbrev q_X10_downOf (dC : Nat -> ClassId) (dI : Nat -> Nat -> Nat) (cI cC cZ cB cJ : ClassId) (A : Nat -> Prop) (a_m nY sJ eG iY lY jR jW jZ jO oQ bR aY jQ gY iJ mQ lJ jA bG mK jB mW mJ eJ dG : Nat) (bT aG jC bL bY : Int32) (jD : Nat) (mLn oF rP dQ aJ aB bW bZ aR aE bI aW bU fJ dO bM bQ bO jY oX : Int32) (oO : Nat -> Int32) (post : Int32 -> Prop) : Array Value -> State -> Outcome -> State -> Prop := va_Qi (fun (r : Int32) (u : Unit) => post r) (fun u t => gB (dC, dI) (tyl cI cC cZ cB cJ) A (wd_X10_downOf cI cC cZ cB cJ a_m nY sJ eG iY lY jR jW jZ jO oQ bR aY jQ gY iJ mQ lJ jA bG mK jB mW mJ eJ dG bT aG jC bL bY jD mLn oF rP dQ aJ aB bW bZ aR aE bI aW bU fJ dO bM bQ bO jY oX oO) t) A
abbrev rm_X10_downOf : Room := { frames := 0, cells := 0, slots := 0, locals := 0 }
def aZf (post : Int32 -> Prop) (p0 : Int32) (oO : Nat -> Int32) : Prop := vp_in p0 8 /\ (∀ v_1 : Int32, v_1 = oO p0.toNatClampNeg -> ∀ v_2 : Int32, v_2 = v_1 + 9 -> post (3 + (v_2 / 10)))
set_option maxHeartbeats 4000000 in
set_option maxRecDepth 100000 in
theorem c_X10_downOf (l : Launch) (dC : Nat -> ClassId) (dI : Nat -> Nat -> Nat) (cI cC cZ cB cJ : ClassId) (a_m nY sJ eG iY lY jR jW jZ jO oQ bR aY jQ gY iJ mQ lJ jA bG mK jB mW mJ eJ dG sz : Nat) (p0 bT aG jC bL bY : Int32) (jD : Nat) (mLn oF rP dQ aJ aB bW bZ aR aE bI aW bU fJ dO bM bQ bO jY oX : Int32) (oO : Nat -> Int32) (post : Int32 -> Prop) (hw : aZf post p0 oO) : Met l yX10_downOf (gw yX10_downOf cX10_downOf 2 (some .int)) rm_X10_downOf (va_Pc [.ref a_m, .int p0] (gPre (dC, dI) (tyl cI cC cZ cB cJ) (wd_X10_downOf cI cC cZ cB cJ a_m nY sJ eG iY lY jR jW jZ jO oQ bR aY jQ gY iJ mQ lJ jA bG mK jB mW mJ eJ dG bT aG jC bL bY jD mLn oF rP dQ aJ aB bW bZ aR aE bI aW bU fJ dO bM bQ bO jY oX oO) sz)) (q_X10_downOf dC dI cI cC cZ cB cJ (va_A (wd_X10_downOf cI cC cZ cB cJ a_m nY sJ eG iY lY jR jW jZ jO oQ bR aY jQ gY iJ mQ lJ jA bG mK jB mW mJ eJ dG bT aG jC bL bY jD mLn oF rP dQ aJ aB bW bZ aR aE bI aW bU fJ dO bM bQ bO jY oX oO) sz) a_m nY sJ eG iY lY jR jW jZ jO oQ bR aY jQ gY iJ mQ lJ jA bG mK jB mW mJ eJ dG bT aG jC bL bY jD mLn oF rP dQ aJ aB bW bZ aR aE bI aW bU fJ dO bM bQ bO jY oX oO post) 0 0 (va_A (wd_X10_downOf cI cC cZ cB cJ a_m nY sJ eG iY lY jR jW jZ jO oQ bR aY jQ gY iJ mQ lJ jA bG mK jB mW mJ eJ dG bT aG jC bL bY jD mLn oF rP dQ aJ aB bW bZ aR aE bI aW bU fJ dO bM bQ bO jY oX oO) sz) := by
  refine aBJ (own := zX) (dC, dI) (tyl cI cC cZ cB cJ) (wd_X10_downOf cI cC cZ cB cJ a_m nY sJ eG iY lY jR jW jZ jO oQ bR aY jQ gY iJ mQ lJ jA bG mK jB mW mJ eJ dG bT aG jC bL bY jD mLn oF rP dQ aJ aB bW bZ aR aE bI aW bU fJ dO bM bQ bO jY oX oO) sz [.ref a_m, .int p0] (fun A => q_X10_downOf dC dI cI cC cZ cB cJ A a_m nY sJ eG iY lY jR jW jZ jO oQ bR aY jQ gY iJ mQ lJ jA bG mK jB mW mJ eJ dG bT aG jC bL bY jD mLn oF rP dQ aJ aB bW bZ aR aE bI aW bU fJ dO bM bQ bO jY oX oO post) aFY rfl (lbz rfl) ?_
  intro p e s m args below meth c A H locs ls C0 hP hD hS hl
  have hl : lv_has ls 2 [(0, .ref a_m), (1, .int p0)] := hl
  obtain ⟨hx, hb, hr, hml, hown, hts, hlocks, hA, hK, hN, tL, tM, hZL, hTL, hZM, hTM, hZX⟩ := id C0
  have hp := hw
  unfold aZf at hp
  refine lv_iconst (v := 3) hx hb eX10_downOf_0.1 ic_3 ?_
  refine lv_aload_n hx hb eX10_downOf_0.2.1 rfl (lv_at hl 0 rfl) ?_
  refine va_get (D := (dC, dI)) (ci := 10) (v := .ref jW) (C := zX) (T := aBe) (N := 51) hx hb hts aAt hown hK hP 0 rfl rfl 8 (lbz rfl) (hts _ q_687) (fun _ h9 => h9) rfl eX10_downOf_0.2.2.1 ?_
  refine lv_iload_n hx hb eX10_downOf_0.2.2.2.1 rfl (lv_at hl 1 rfl) ?_
  have hin := hp.1
  have hp := hp.2
  refine va_iald hx hb hK hP 1 0 rfl rfl hin eX10_downOf_0.2.2.2.2.1 ?_
  refine lv_topi (fun v_1 aFJ => ?_)
  have hp := hp v_1 aFJ
  refine lv_bipush (v := 9) hx hb eX10_downOf_0.2.2.2.2.2.1 bp_9 ?_
  refine lv_iadd hx hb eX10_downOf_0.2.2.2.2.2.2.1 ?_
  refine lv_topi (fun v_2 aGO => ?_)
  have hp := hp v_2 aGO
  refine lv_bipush (v := 10) hx hb eX10_downOf_0.2.2.2.2.2.2.2.1 bp_10 ?_
  refine lv_idiv hx hb eX10_downOf_0.2.2.2.2.2.2.2.2.1 (by decide) ?_
  refine lv_iadd hx hb eX10_downOf_0.2.2.2.2.2.2.2.2.2.1 ?_
  exact W.iret (v := 3 + (v_2 / 10)) hx hb hr (fun t ht hW => ⟨⟨3 + (v_2 / 10), (), rfl, hp, by rw [ht]; exact hP, va_K.moved hW.alike hK, hD⟩, hS.F ht⟩) hS.2.2 eX10_downOf_0.2.2.2.2.2.2.2.2.2.2
abbrev aRq (cI cC cZ cB cJ : ClassId) (a_m nY sJ eG iY lY jR jW jZ jO oQ bR aY jQ gY iJ mQ lJ jA bG mK jB mW mJ eJ dG : Nat) (bT aG jC bL bY : Int32) (jD : Nat) (mLn oF rP dQ aJ aB bW bZ aR aE bI aW bU fJ dO bM bQ bO jY oX : Int32) (nG oO : Nat -> Int32) : va_W := [(a_m, .inr (10, [.ref nY, .int bT, .ref sJ, .ref eG, .ref iY, .ref lY, .int aG, .ref jR, .ref jW, .ref jZ, .ref jO, .int jC, .ref oQ, .int bL, .int bY, rdv jO jQ jD, .int mLn, .int oF, .int rP, .int dQ, .ref bR, .ref aY, .int aJ, .int aB, .ref jQ, .int bW, .int bZ, .int aR, .int aE, .int bI, .int aW, .ref gY, .int bU, .ref iJ, .ref mQ, .int fJ, .ref lJ, .int dO, .ref jA, .ref bG, .int bM, .int bQ, .int bO, .ref mK, .ref jB, .ref mW, .int jY, .int oX, .ref mJ, .ref eJ, .ref dG])), (jR, .inl (cI, 8, .inl nG)), (jW, .inl (cI, 8, .inl oO))]
abbrev q_X10_standing (dC : Nat -> ClassId) (dI : Nat -> Nat -> Nat) (cI cC cZ cB cJ : ClassId) (A : Nat -> Prop) (a_m nY sJ eG iY lY jR jW jZ jO oQ bR aY jQ gY iJ mQ lJ jA bG mK jB mW mJ eJ dG : Nat) (bT aG jC bL : Int32) (jD : Nat) (mLn oF rP dQ aJ aB bW bZ aR aE bI aW bU fJ dO bM bQ bO jY oX : Int32) (nG oO : Nat -> Int32) (post : Int32 -> Int32 -> Prop) : Array Value -> State -> Outcome -> State -> Prop := va_Qi (fun (r u : Int32) => post r u) (fun u t => gB (dC, dI) (tyl cI cC cZ cB cJ) A (aRq cI cC cZ cB cJ a_m nY sJ eG iY lY jR jW jZ jO oQ bR aY jQ gY iJ mQ lJ jA bG mK jB mW mJ eJ dG bT aG jC bL u jD mLn oF rP dQ aJ aB bW bZ aR aE bI aW bU fJ dO bM bQ bO jY oX nG oO) t) A
abbrev rm_X10_standing : Room := { frames := 2, cells := 0, slots := 0, locals := 43 }
section S_X10_standing
variable {p : Program} {l : Launch} {e : Env} {s : State} {m : MethodId} {args : Array Value} {below : List Frame} {meth : Method} {c : Code} {dC : Nat -> ClassId} {dI : Nat -> Nat -> Nat} {cI cC cZ cB cJ : ClassId} {A : Nat -> Prop} {a_m nY sJ eG iY lY jR jW jZ jO oQ bR aY jQ gY iJ mQ lJ jA bG mK jB mW mJ eJ dG : Nat} {bT aG jC bL : Int32} {jD : Nat} {mLn oF rP dQ aJ aB bW bZ aR aE bI aW bU fJ dO bM bQ bO jY oX : Int32} {nG oO : Nat -> Int32} {post : Int32 -> Int32 -> Prop}
def ws_X10_standing_22 (post : Int32 -> Int32 -> Prop) (aG : Int32) (nG oO : Nat -> Int32) (bY : Int32) : Prop := wp_X10_lost (fun r_2 m_thrown_3 => post r_2 m_thrown_3) bY
set_option maxHeartbeats 4000000 in
set_option maxRecDepth 100000 in
theorem ks_X10_standing_22 (C0 : gc aFX (some .int) 3 zX (dC, dI) (tyl cI cC cZ cB cJ) A p s m args meth c) : ∀ (bY : Int32) (H : Heap) (locs : List Loc) (ls : Array Slot), (ws_X10_standing_22 post aG nG oO) bY -> va_P (dC, dI) classes (aRq cI cC cZ cB cJ a_m nY sJ eG iY lY jR jW jZ jO oQ bR aY jQ gY iJ mQ lJ jA bG mK jB mW mJ eJ dG bT aG jC bL bY jD mLn oF rP dQ aJ aB bW bZ aR aE bI aW bU fJ dO bM bQ bO jY oX nG oO) H -> va_D A (aRq cI cC cZ cB cJ a_m nY sJ eG iY lY jR jW jZ jO oQ bR aY jQ gY iJ mQ lJ jA bG mK jB mW mJ eJ dG bT aG jC bL bY jD mLn oF rP dQ aJ aB bW bZ aR aE bI aW bU fJ dO bM bQ bO jY oX nG oO) -> va_S A s.heap H locs -> lv_has ls 3 [(0, .ref a_m)] -> W p l e rm_X10_standing s m args below meth c H locs 0 0 (MQ below (q_X10_standing dC dI cI cC cZ cB cJ A a_m nY sJ eG iY lY jR jW jZ jO oQ bR aY jQ gY iJ mQ lJ jA bG mK jB mW mJ eJ dG bT aG jC bL jD mLn oF rP dQ aJ aB bW bZ aR aE bI aW bU fJ dO bM bQ bO jY oX nG oO post) args s 0 0 A) (F0 m 22 ls []) := by
  obtain ⟨hx, hb, hr, hml, hown, hts, hlocks, hA, hK, hN, tL, tM, hZL, hTL, hZM, hTM, hZX⟩ := id C0
  intro bY H locs ls hp hP hD hS hl
  unfold ws_X10_standing_22 at hp
  refine lv_aload_n hx hb aN6.2.2.2.2.2.2.2.2.2.2.2.2.1 rfl (lv_at hl 0 rfl) ?_
  have hm := mgk (wc := (wd_X10_lost cI cC cZ cB cJ a_m nY sJ eG iY lY jR jW jZ jO oQ bR aY jQ gY iJ mQ lJ jA bG mK jB mW mJ eJ dG bT aG jC bL bY jD mLn oF rP dQ aJ aB bW bZ aR aE bI aW bU fJ dO bM bQ bO jY oX)) hP mk_198 3 rfl rfl rfl
  refine yW hP hD hS hA (yS mk_198) (aAi mk_198) hm.1 hm.2 (aAk _) (zW _) (zF (As := []) (rest := []) C0 hP hD hS (yS mk_198) hm.1 (aAl _) 0 10 rfl rfl (c_X10_lost l dC dI cI cC cZ cB cJ a_m nY sJ eG iY lY jR jW jZ jO oQ bR aY jQ gY iJ mQ lJ jA bG mK jB mW mJ eJ dG H.size bT aG jC bL bY jD mLn oF rP dQ aJ aB bW bZ aR aE bI aW bU fJ dO bM bQ bO jY oX _ hp) q_745 q_748 q_746 q_747 aBL h_X10_lost rfl rfl ⟨lbz rfl, lbz rfl⟩ rfl rfl hl.1 rfl (lv_room (lbz rfl)) aN6.2.2.2.2.2.2.2.2.2.2.2.2.2.1 ⟨Nat.zero_le _, Nat.zero_le _⟩) (fun r_2 u H locs hp hP hD hS => ?_)
  obtain ⟨m_thrown_3, rfl⟩ : ∃ z, z = u := ⟨_, rfl⟩
  have hPD := PDm (ws' := (aRq cI cC cZ cB cJ a_m nY sJ eG iY lY jR jW jZ jO oQ bR aY jQ gY iJ mQ lJ jA bG mK jB mW mJ eJ dG bT aG jC bL m_thrown_3 jD mLn oF rP dQ aJ aB bW bZ aR aE bI aW bU fJ dO bM bQ bO jY oX nG oO)) hP hD 3 rfl rfl rfl
  have hP := hPD.1
  have hD := hPD.2
  exact W.iret (v := r_2) hx hb hr (fun t ht hW => ⟨⟨r_2, m_thrown_3, rfl, hp, by rw [ht]; exact hP, va_K.moved hW.alike hK, hD⟩, hS.F ht⟩) hS.2.2 aN6.2.2.2.2.2.2.2.2.2.2.2.2.2.2.1
end S_X10_standing
def bCK (post : Int32 -> Int32 -> Prop) (p0 p1 aG bY : Int32) (nG oO : Nat -> Int32) : Prop := aJI (fun r_1 => (r_1 = 0 -> ws_X10_standing_22 post aG nG oO 0) /\ (¬ r_1 = 0 -> aJY (fun r_4 => (¬ r_4 = 0 -> (¬ p1 = 0 -> (¬ p1 = 1 -> aZf (fun r_5 => post r_5 0) p0 oO) /\ (p1 = 1 -> vp_in p0 8 /\ (∀ v_6 : Int32, v_6 = oO p0.toNatClampNeg -> post v_6 0))) /\ (p1 = 0 -> vp_in p0 8 /\ (∀ v_7 : Int32, v_7 = nG p0.toNatClampNeg -> post v_7 0))) /\ (r_4 = 0 -> ws_X10_standing_22 post aG nG oO 0)) p1 0 2)) p0 aG
set_option maxHeartbeats 4000000 in
set_option maxRecDepth 100000 in
theorem c_X10_standing (l : Launch) (dC : Nat -> ClassId) (dI : Nat -> Nat -> Nat) (cI cC cZ cB cJ : ClassId) (a_m nY sJ eG iY lY jR jW jZ jO oQ bR aY jQ gY iJ mQ lJ jA bG mK jB mW mJ eJ dG sz : Nat) (p0 p1 bT aG jC bL bY : Int32) (jD : Nat) (mLn oF rP dQ aJ aB bW bZ aR aE bI aW bU fJ dO bM bQ bO jY oX : Int32) (nG oO : Nat -> Int32) (post : Int32 -> Int32 -> Prop) (hw : bCK post p0 p1 aG bY nG oO) : Met l yX10_standing (gw yX10_standing aFX 3 (some .int)) rm_X10_standing (va_Pc [.ref a_m, .int p0, .int p1] (gPre (dC, dI) (tyl cI cC cZ cB cJ) (aRq cI cC cZ cB cJ a_m nY sJ eG iY lY jR jW jZ jO oQ bR aY jQ gY iJ mQ lJ jA bG mK jB mW mJ eJ dG bT aG jC bL bY jD mLn oF rP dQ aJ aB bW bZ aR aE bI aW bU fJ dO bM bQ bO jY oX nG oO) sz)) (q_X10_standing dC dI cI cC cZ cB cJ (va_A (aRq cI cC cZ cB cJ a_m nY sJ eG iY lY jR jW jZ jO oQ bR aY jQ gY iJ mQ lJ jA bG mK jB mW mJ eJ dG bT aG jC bL bY jD mLn oF rP dQ aJ aB bW bZ aR aE bI aW bU fJ dO bM bQ bO jY oX nG oO) sz) a_m nY sJ eG iY lY jR jW jZ jO oQ bR aY jQ gY iJ mQ lJ jA bG mK jB mW mJ eJ dG bT aG jC bL jD mLn oF rP dQ aJ aB bW bZ aR aE bI aW bU fJ dO bM bQ bO jY oX nG oO post) 0 0 (va_A (aRq cI cC cZ cB cJ a_m nY sJ eG iY lY jR jW jZ jO oQ bR aY jQ gY iJ mQ lJ jA bG mK jB mW mJ eJ dG bT aG jC bL bY jD mLn oF rP dQ aJ aB bW bZ aR aE bI aW bU fJ dO bM bQ bO jY oX nG oO) sz) := by
  refine aBJ (own := zX) (dC, dI) (tyl cI cC cZ cB cJ) (aRq cI cC cZ cB cJ a_m nY sJ eG iY lY jR jW jZ jO oQ bR aY jQ gY iJ mQ lJ jA bG mK jB mW mJ eJ dG bT aG jC bL bY jD mLn oF rP dQ aJ aB bW bZ aR aE bI aW bU fJ dO bM bQ bO jY oX nG oO) sz [.ref a_m, .int p0, .int p1] (fun A => q_X10_standing dC dI cI cC cZ cB cJ A a_m nY sJ eG iY lY jR jW jZ jO oQ bR aY jQ gY iJ mQ lJ jA bG mK jB mW mJ eJ dG bT aG jC bL jD mLn oF rP dQ aJ aB bW bZ aR aE bI aW bU fJ dO bM bQ bO jY oX nG oO post) aFY rfl (lbz rfl) ?_
  intro p e s m args below meth c A H locs ls C0 hP hD hS hl
  have hl : lv_has ls 3 [(0, .ref a_m), (1, .int p0), (2, .int p1)] := hl
  obtain ⟨hx, hb, hr, hml, hown, hts, hlocks, hA, hK, hN, tL, tM, hZL, hTL, hZM, hTM, hZX⟩ := id C0
  have hp := hw
  unfold bCK at hp
  refine lv_aload_n hx hb aN6.1 rfl (lv_at hl 0 rfl) ?_
  refine lv_iconst (v := 0) hx hb aN6.2.1 aCi ?_
  refine va_put (D := (dC, dI)) (ci := 10) (v := .int 0) (ty := .int) (C := zX) (T := aBe) (N := 51) hx hb hts aAt aD2 aAa aEC hown hK hP hD hS 0 rfl rfl 14 (lbz rfl) (hts _ q_638) (fun _ h9 => h9) rfl (aAa 14 (lbz rfl)) rfl rfl (lbz rfl) aN6.2.2.1 (fun H locs hP hD hS => ?_)
  have hPD := PDw (ws' := (aRq cI cC cZ cB cJ a_m nY sJ eG iY lY jR jW jZ jO oQ bR aY jQ gY iJ mQ lJ jA bG mK jB mW mJ eJ dG bT aG jC bL 0 jD mLn oF rP dQ aJ aB bW bZ aR aE bI aW bU fJ dO bM bQ bO jY oX nG oO)) hP hD rfl
  have hP := hPD.1
  have hD := hPD.2
  refine lv_aload_n hx hb aN6.2.2.2.1 rfl (lv_at hl 0 rfl) ?_
  refine lv_iload_n hx hb aN6.2.2.2.2.1 rfl (lv_at hl 1 rfl) ?_
  have hm := mgk (wc := (aK5 cI cC cZ cB cJ a_m nY sJ eG iY lY jR jW jZ jO oQ bR aY jQ gY iJ mQ lJ jA bG mK jB mW mJ eJ dG bT aG jC bL 0 jD mLn oF rP dQ aJ aB bW bZ aR aE bI aW bU fJ dO bM bQ bO jY oX)) hP mk_198 3 rfl rfl rfl
  refine yW hP hD hS hA (yS mk_198) (aAi mk_198) hm.1 hm.2 (aAk _) (zW _) (zF (As := [.int p0]) (rest := []) C0 hP hD hS (yS mk_198) hm.1 (aAl _) 0 10 rfl rfl (aZR l dC dI cI cC cZ cB cJ a_m nY sJ eG iY lY jR jW jZ jO oQ bR aY jQ gY iJ mQ lJ jA bG mK jB mW mJ eJ dG H.size p0 bT aG jC bL 0 jD mLn oF rP dQ aJ aB bW bZ aR aE bI aW bU fJ dO bM bQ bO jY oX _ hp) q_757 q_760 q_758 q_759 aBL aZY rfl rfl ⟨lbz rfl, lbz rfl⟩ rfl rfl hl.1 rfl (lv_room (lbz rfl)) aN6.2.2.2.2.2.1 ⟨Nat.zero_le _, Nat.zero_le _⟩) (fun r_1 u H locs hp hP hD hS => ?_)
  have hPD := PDm (ws' := (aRq cI cC cZ cB cJ a_m nY sJ eG iY lY jR jW jZ jO oQ bR aY jQ gY iJ mQ lJ jA bG mK jB mW mJ eJ dG bT aG jC bL 0 jD mLn oF rP dQ aJ aB bW bZ aR aE bI aW bU fJ dO bM bQ bO jY oX nG oO)) hP hD 3 rfl rfl rfl
  have hP := hPD.1
  have hD := hPD.2
  refine lv_if_eq (tgt := 22) hx hb aN6.2.2.2.2.2.2.1 (by decide) (fun hc => ?_) (fun hc => ?_)
  · have hp := hp.1 hc
    exact ks_X10_standing_22 C0 0 H locs ls hp hP hD hS (lv_sub hl [0] rfl)
  · have hp := hp.2 hc
    refine lv_iload_n hx hb aN6.2.2.2.2.2.2.2.1 rfl (lv_at hl 2 rfl) ?_
    refine lv_iconst (v := 0) hx hb aN6.2.2.2.2.2.2.2.2.1 aCi ?_
    refine lv_iconst (v := 2) hx hb aN6.2.2.2.2.2.2.2.2.2.1 ic_2 ?_
    have hm := mgk (wc := (aKW cI cC cZ cB cJ)) hP mk_20 3 rfl rfl rfl
    refine yW hP hD hS hA (yS mk_20) (aAi mk_20) hm.1 hm.2 (aAk _) (zW _) (aDn (As := [.int p1, .int 0, .int 2]) (rest := []) C0 hP hD hS (yS mk_20) hm.1 (aAl _) (aRu l dC dI cI cC cZ cB cJ H.size p1 0 2 _ hp) q_641 q_644 q_643 aBL aRx rfl rfl ⟨lbz rfl, lbz rfl⟩ rfl rfl hl.1 rfl (lv_room (lbz rfl)) aN6.2.2.2.2.2.2.2.2.2.2.1 ⟨Nat.zero_le _, Nat.zero_le _⟩) (fun r_4 u H locs hp hP hD hS => ?_)
    have hPD := PDm (ws' := (aRq cI cC cZ cB cJ a_m nY sJ eG iY lY jR jW jZ jO oQ bR aY jQ gY iJ mQ lJ jA bG mK jB mW mJ eJ dG bT aG jC bL 0 jD mLn oF rP dQ aJ aB bW bZ aR aE bI aW bU fJ dO bM bQ bO jY oX nG oO)) hP hD 3 rfl rfl rfl
    have hP := hPD.1
    have hD := hPD.2
    refine lv_if_ne (tgt := 27) hx hb aN6.2.2.2.2.2.2.2.2.2.2.2.1 (by decide) (fun hc => ?_) (fun hc => ?_)
    · have hp := hp.1 hc
      refine lv_iload_n hx hb aN6.2.2.2.2.2.2.2.2.2.2.2.2.2.2.2 rfl (lv_at hl 2 rfl) ?_
      refine lv_if_ne (tgt := 40) hx hb aMQ.1 (by decide) (fun hc => ?_) (fun hc => ?_)
      · have hp := hp.1 hc
        refine lv_iload_n hx hb aMQ.2.2.2.2.2.2.1 rfl (lv_at hl 2 rfl) ?_
        refine lv_iconst (v := 1) hx hb aMQ.2.2.2.2.2.2.2.1 aDx ?_
        refine lv_icmp_ne (tgt := 54) hx hb aMQ.2.2.2.2.2.2.2.2.1 (by decide) (fun hc => ?_) (fun hc => ?_)
        · have hp := hp.1 hc
          refine lv_aload_n hx hb aMQ.2.2.2.2.2.2.2.2.2.2.2.2.2.2.1 rfl (lv_at hl 0 rfl) ?_
          refine lv_iload_n hx hb aMQ.2.2.2.2.2.2.2.2.2.2.2.2.2.2.2 rfl (lv_at hl 1 rfl) ?_
          have hm := mgk (wc := (wd_X10_downOf cI cC cZ cB cJ a_m nY sJ eG iY lY jR jW jZ jO oQ bR aY jQ gY iJ mQ lJ jA bG mK jB mW mJ eJ dG bT aG jC bL 0 jD mLn oF rP dQ aJ aB bW bZ aR aE bI aW bU fJ dO bM bQ bO jY oX oO)) hP mk_21 3 rfl rfl rfl
          refine yW hP hD hS hA (yS mk_21) (aAi mk_21) hm.1 hm.2 (aAk _) (zW _) (zF (As := [.int p0]) (rest := []) C0 hP hD hS (yS mk_21) hm.1 (aAl _) 0 10 rfl rfl (c_X10_downOf l dC dI cI cC cZ cB cJ a_m nY sJ eG iY lY jR jW jZ jO oQ bR aY jQ gY iJ mQ lJ jA bG mK jB mW mJ eJ dG H.size p0 bT aG jC bL 0 jD mLn oF rP dQ aJ aB bW bZ aR aE bI aW bU fJ dO bM bQ bO jY oX oO _ hp) q_761 q_764 q_762 q_763 aBL h_X10_downOf rfl rfl ⟨lbz rfl, lbz rfl⟩ rfl rfl hl.1 rfl (lv_room (lbz rfl)) eX10_standing_56.1 ⟨Nat.zero_le _, Nat.zero_le _⟩) (fun r_5 u H locs hp hP hD hS => ?_)
          have hPD := PDm (ws' := (aRq cI cC cZ cB cJ a_m nY sJ eG iY lY jR jW jZ jO oQ bR aY jQ gY iJ mQ lJ jA bG mK jB mW mJ eJ dG bT aG jC bL 0 jD mLn oF rP dQ aJ aB bW bZ aR aE bI aW bU fJ dO bM bQ bO jY oX nG oO)) hP hD 3 rfl rfl rfl
          have hP := hPD.1
          have hD := hPD.2
          exact W.iret (v := r_5) hx hb hr (fun t ht hW => ⟨⟨r_5, 0, rfl, hp, by rw [ht]; exact hP, va_K.moved hW.alike hK, hD⟩, hS.F ht⟩) hS.2.2 eX10_standing_56.2
        · have hp := hp.2 hc
          refine lv_aload_n hx hb aMQ.2.2.2.2.2.2.2.2.2.1 rfl (lv_at hl 0 rfl) ?_
          refine va_get (D := (dC, dI)) (ci := 10) (v := .ref jW) (C := zX) (T := aBe) (N := 51) hx hb hts aAt hown hK hP 0 rfl rfl 8 (lbz rfl) (hts _ q_687) (fun _ h9 => h9) rfl aMQ.2.2.2.2.2.2.2.2.2.2.1 ?_
          refine lv_iload_n hx hb aMQ.2.2.2.2.2.2.2.2.2.2.2.1 rfl (lv_at hl 1 rfl) ?_
          have hin := hp.1
          have hp := hp.2
          refine va_iald hx hb hK hP 2 0 rfl rfl hin aMQ.2.2.2.2.2.2.2.2.2.2.2.2.1 ?_
          refine lv_topi (fun v_6 ev_6 => ?_)
          have hp := hp v_6 ev_6
          refine lv_goto (tgt := 59) hx hb aMQ.2.2.2.2.2.2.2.2.2.2.2.2.2.1 (by decide) ?_
          exact W.iret (v := v_6) hx hb hr (fun t ht hW => ⟨⟨v_6, 0, rfl, hp, by rw [ht]; exact hP, va_K.moved hW.alike hK, hD⟩, hS.F ht⟩) hS.2.2 eX10_standing_56.2
      · have hp := hp.2 hc
        refine lv_aload_n hx hb aMQ.2.1 rfl (lv_at hl 0 rfl) ?_
        refine va_get (D := (dC, dI)) (ci := 10) (v := .ref jR) (C := zX) (T := aBe) (N := 51) hx hb hts aAt hown hK hP 0 rfl rfl 7 (lbz rfl) (hts _ q_686) (fun _ h9 => h9) rfl aMQ.2.2.1 ?_
        refine lv_iload_n hx hb aMQ.2.2.2.1 rfl (lv_at hl 1 rfl) ?_
        have hin := hp.1
        have hp := hp.2
        refine va_iald hx hb hK hP 1 0 rfl rfl hin aMQ.2.2.2.2.1 ?_
        refine lv_topi (fun v_7 ev_7 => ?_)
        have hp := hp v_7 ev_7
        refine lv_goto (tgt := 59) hx hb aMQ.2.2.2.2.2.1 (by decide) ?_
        exact W.iret (v := v_7) hx hb hr (fun t ht hW => ⟨⟨v_7, 0, rfl, hp, by rw [ht]; exact hP, va_K.moved hW.alike hK, hD⟩, hS.F ht⟩) hS.2.2 eX10_standing_56.2
    · have hp := hp.2 hc
      exact ks_X10_standing_22 C0 0 H locs ls hp hP hD hS (lv_sub hl [0] rfl)
abbrev wd_X10_set (cI cC cZ cB cJ : ClassId) (a_m nY sJ eG iY lY jR jW jZ jO oQ bR aY jQ gY iJ mQ lJ jA bG mK jB mW mJ eJ dG : Nat) (bT aG jC bL bY : Int32) (jD : Nat) (mLn oF rP dQ aJ aB bW bZ aR aE bI aW bU fJ dO bM bQ bO jY oX : Int32) (pJ : Nat -> Int32) : va_W := [(a_m, .inr (10, [.ref nY, .int bT, .ref sJ, .ref eG, .ref iY, .ref lY, .int aG, .ref jR, .ref jW, .ref jZ, .ref jO, .int jC, .ref oQ, .int bL, .int bY, rdv jO jQ jD, .int mLn, .int oF, .int rP, .int dQ, .ref bR, .ref aY, .int aJ, .int aB, .ref jQ, .int bW, .int bZ, .int aR, .int aE, .int bI, .int aW, .ref gY, .int bU, .ref iJ, .ref mQ, .int fJ, .ref lJ, .int dO, .ref jA, .ref bG, .int bM, .int bQ, .int bO, .ref mK, .ref jB, .ref mW, .int jY, .int oX, .ref mJ, .ref eJ, .ref dG])), (jZ, .inl (cI, 5, .inl pJ))]
abbrev q_X10_set (dC : Nat -> ClassId) (dI : Nat -> Nat -> Nat) (cI cC cZ cB cJ : ClassId) (A : Nat -> Prop) (a_m nY sJ eG iY lY jR jW jZ jO oQ bR aY jQ gY iJ mQ lJ jA bG mK jB mW mJ eJ dG : Nat) (bT aG jC bL : Int32) (jD : Nat) (mLn oF rP dQ aJ aB bW bZ aR aE bI aW bU fJ dO bM bQ bO jY oX : Int32) (post : Int32 -> Int32 -> (Nat -> Int32) -> Prop) : Array Value -> State -> Outcome -> State -> Prop := va_Qi (fun (r : Int32) (u : Int32 × (Nat -> Int32)) => post r u.1 u.2) (fun u t => gB (dC, dI) (tyl cI cC cZ cB cJ) A (wd_X10_set cI cC cZ cB cJ a_m nY sJ eG iY lY jR jW jZ jO oQ bR aY jQ gY iJ mQ lJ jA bG mK jB mW mJ eJ dG bT aG jC bL u.1 jD mLn oF rP dQ aJ aB bW bZ aR aE bI aW bU fJ dO bM bQ bO jY oX u.2) t) A
abbrev rm_X10_set : Room := { frames := 1, cells := 0, slots := 0, locals := 22 }
section S_X10_set
variable {p : Program} {l : Launch} {e : Env} {s : State} {m : MethodId} {args : Array Value} {below : List Frame} {meth : Method} {c : Code} {dC : Nat -> ClassId} {dI : Nat -> Nat -> Nat} {cI cC cZ cB cJ : ClassId} {A : Nat -> Prop} {a_m nY sJ eG iY lY jR jW jZ jO oQ bR aY jQ gY iJ mQ lJ jA bG mK jB mW mJ eJ dG : Nat} {bT aG jC bL : Int32} {jD : Nat} {mLn oF rP dQ aJ aB bW bZ aR aE bI aW bU fJ dO bM bQ bO jY oX : Int32} {post : Int32 -> Int32 -> (Nat -> Int32) -> Prop}
def bCM (post : Int32 -> Int32 -> (Nat -> Int32) -> Prop) (x1 x2 k0 k1 k2 bY : Int32) (pJ : Nat -> Int32) : Prop := aJY (fun r_2 => (¬ r_2 = 0 -> vp_in x1 5 /\ (∀ v_3 : Int32, v_3 = pJ x1.toNatClampNeg -> vp_in x1 5 /\ (post v_3 bY (upd pJ x1.toNatClampNeg x2)))) /\ (r_2 = 0 -> post (-1) bY pJ)) k0 k1 k2
set_option maxHeartbeats 4000000 in
set_option maxRecDepth 100000 in
theorem ks_X10_set_47 (C0 : gc aJL (some .int) 4 zX (dC, dI) (tyl cI cC cZ cB cJ) A p s m args meth c) : ∀ (x1 x2 k0 k1 k2 bY : Int32) (pJ : Nat -> Int32) (H : Heap) (locs : List Loc) (ls : Array Slot), (bCM post) x1 x2 k0 k1 k2 bY pJ -> va_P (dC, dI) classes (wd_X10_set cI cC cZ cB cJ a_m nY sJ eG iY lY jR jW jZ jO oQ bR aY jQ gY iJ mQ lJ jA bG mK jB mW mJ eJ dG bT aG jC bL bY jD mLn oF rP dQ aJ aB bW bZ aR aE bI aW bU fJ dO bM bQ bO jY oX pJ) H -> va_D A (wd_X10_set cI cC cZ cB cJ a_m nY sJ eG iY lY jR jW jZ jO oQ bR aY jQ gY iJ mQ lJ jA bG mK jB mW mJ eJ dG bT aG jC bL bY jD mLn oF rP dQ aJ aB bW bZ aR aE bI aW bU fJ dO bM bQ bO jY oX pJ) -> va_S A s.heap H locs -> lv_has ls 4 [(0, .ref a_m), (1, .int x1), (2, .int x2)] -> W p l e rm_X10_set s m args below meth c H locs 0 0 (MQ below (q_X10_set dC dI cI cC cZ cB cJ A a_m nY sJ eG iY lY jR jW jZ jO oQ bR aY jQ gY iJ mQ lJ jA bG mK jB mW mJ eJ dG bT aG jC bL jD mLn oF rP dQ aJ aB bW bZ aR aE bI aW bU fJ dO bM bQ bO jY oX post) args s 0 0 A) (F0 m 47 ls [.int k2, .int k1, .int k0]) := by
  obtain ⟨hx, hb, hr, hml, hown, hts, hlocks, hA, hK, hN, tL, tM, hZL, hTL, hZM, hTM, hZX⟩ := id C0
  intro x1 x2 k0 k1 k2 bY pJ H locs ls hp hP hD hS hl
  unfold bCM at hp
  refine yW (wc := (aKW cI cC cZ cB cJ)) hP hD hS hA [] [0, 1] rfl rfl rfl rfl (aDn (As := [.int k0, .int k1, .int k2]) (rest := []) C0 hP hD hS [] rfl rfl (aRu l dC dI cI cC cZ cB cJ H.size k0 k1 k2 _ hp) q_641 q_644 q_643 aBL aRx rfl rfl ⟨lbz rfl, lbz rfl⟩ rfl rfl hl.1 rfl (lv_room (lbz rfl)) aVY.2.2.2.2.2.2.2.2.2.2.1 ⟨Nat.zero_le _, Nat.zero_le _⟩) (fun r_2 u H locs hp hP hD hS => ?_)
  have hPD := PDs (ws' := (wd_X10_set cI cC cZ cB cJ a_m nY sJ eG iY lY jR jW jZ jO oQ bR aY jQ gY iJ mQ lJ jA bG mK jB mW mJ eJ dG bT aG jC bL bY jD mLn oF rP dQ aJ aB bW bZ aR aE bI aW bU fJ dO bM bQ bO jY oX pJ)) hP hD [0, 1] (by decide) rfl
  have hP := hPD.1
  have hD := hPD.2
  refine lv_if_ne (tgt := 55) hx hb aVY.2.2.2.2.2.2.2.2.2.2.2.1 (by decide) (fun hc => ?_) (fun hc => ?_)
  · have hp := hp.1 hc
    refine lv_aload_n hx hb aVY.2.2.2.2.2.2.2.2.2.2.2.2.2.2.1 rfl (lv_at hl 0 rfl) ?_
    refine va_get (D := (dC, dI)) (ci := 10) (v := .ref jZ) (C := zX) (T := aBe) (N := 51) hx hb hts aAt hown hK hP 0 rfl rfl 9 (lbz rfl) (hts _ q_765) (fun _ h9 => h9) rfl aVY.2.2.2.2.2.2.2.2.2.2.2.2.2.2.2 ?_
    refine lv_iload_n hx hb eX10_set_59.1 rfl (lv_at hl 1 rfl) ?_
    have hin := hp.1
    have hp := hp.2
    refine va_iald hx hb hK hP 1 0 rfl rfl hin eX10_set_59.2.1 ?_
    refine lv_topi (fun v_3 aGW => ?_)
    have hp := hp v_3 aGW
    refine lv_istore_n (lv' := [(3, .int v_3), (0, .ref a_m), (1, .int x1), (2, .int x2)]) hx hb eX10_set_59.2.2.1 rfl hl (by decide) rfl (fun ls hl => ?_)
    refine lv_aload_n hx hb eX10_set_59.2.2.2.1 rfl (lv_at hl 1 rfl) ?_
    refine va_get (D := (dC, dI)) (ci := 10) (v := .ref jZ) (C := zX) (T := aBe) (N := 51) hx hb hts aAt hown hK hP 0 rfl rfl 9 (lbz rfl) (hts _ q_765) (fun _ h9 => h9) rfl eX10_set_59.2.2.2.2.1 ?_
    refine lv_iload_n hx hb eX10_set_59.2.2.2.2.2.1 rfl (lv_at hl 2 rfl) ?_
    refine lv_iload_n hx hb eX10_set_59.2.2.2.2.2.2.1 rfl (lv_at hl 3 rfl) ?_
    have hin := hp.1
    have hp := hp.2
    refine va_iast hx hb hK hP hD hS 1 0 rfl rfl hin eX10_set_59.2.2.2.2.2.2.2.1 (fun H locs hP hD hS => ?_)
    have hPD := PDw (ws' := (wd_X10_set cI cC cZ cB cJ a_m nY sJ eG iY lY jR jW jZ jO oQ bR aY jQ gY iJ mQ lJ jA bG mK jB mW mJ eJ dG bT aG jC bL bY jD mLn oF rP dQ aJ aB bW bZ aR aE bI aW bU fJ dO bM bQ bO jY oX (upd pJ x1.toNatClampNeg x2))) hP hD rfl
    have hP := hPD.1
    have hD := hPD.2
    refine lv_iload_n hx hb eX10_set_59.2.2.2.2.2.2.2.2.1 rfl (lv_at hl 0 rfl) ?_
    exact W.iret (v := v_3) hx hb hr (fun t ht hW => ⟨⟨v_3, (bY, (upd pJ x1.toNatClampNeg x2)), rfl, hp, by rw [ht]; exact hP, va_K.moved hW.alike hK, hD⟩, hS.F ht⟩) hS.2.2 eX10_set_59.2.2.2.2.2.2.2.2.2
  · have hp := hp.2 hc
    refine lv_iconst (v := (-1)) hx hb aVY.2.2.2.2.2.2.2.2.2.2.2.2.1 aEJ ?_
    exact W.iret (v := (-1)) hx hb hr (fun t ht hW => ⟨⟨(-1), (bY, pJ), rfl, hp, by rw [ht]; exact hP, va_K.moved hW.alike hK, hD⟩, hS.F ht⟩) hS.2.2 aVY.2.2.2.2.2.2.2.2.2.2.2.2.2.1
def ws_X10_set_25 (post : Int32 -> Int32 -> (Nat -> Int32) -> Prop) (x1 x2 k0 k1 bY : Int32) (pJ : Nat -> Int32) : Prop := (¬ x1 = 4 -> (¬ x1 = 3 -> bCM post x1 x2 k0 k1 30 bY pJ) /\ (x1 = 3 -> bCM post x1 x2 k0 k1 9 bY pJ)) /\ (x1 = 4 -> bCM post x1 x2 k0 k1 16 bY pJ)
set_option maxHeartbeats 4000000 in
set_option maxRecDepth 100000 in
theorem ks_X10_set_25 (C0 : gc aJL (some .int) 4 zX (dC, dI) (tyl cI cC cZ cB cJ) A p s m args meth c) : ∀ (x1 x2 k0 k1 bY : Int32) (pJ : Nat -> Int32) (H : Heap) (locs : List Loc) (ls : Array Slot), (ws_X10_set_25 post) x1 x2 k0 k1 bY pJ -> va_P (dC, dI) classes (wd_X10_set cI cC cZ cB cJ a_m nY sJ eG iY lY jR jW jZ jO oQ bR aY jQ gY iJ mQ lJ jA bG mK jB mW mJ eJ dG bT aG jC bL bY jD mLn oF rP dQ aJ aB bW bZ aR aE bI aW bU fJ dO bM bQ bO jY oX pJ) H -> va_D A (wd_X10_set cI cC cZ cB cJ a_m nY sJ eG iY lY jR jW jZ jO oQ bR aY jQ gY iJ mQ lJ jA bG mK jB mW mJ eJ dG bT aG jC bL bY jD mLn oF rP dQ aJ aB bW bZ aR aE bI aW bU fJ dO bM bQ bO jY oX pJ) -> va_S A s.heap H locs -> lv_has ls 4 [(0, .ref a_m), (1, .int x1), (2, .int x2)] -> W p l e rm_X10_set s m args below meth c H locs 0 0 (MQ below (q_X10_set dC dI cI cC cZ cB cJ A a_m nY sJ eG iY lY jR jW jZ jO oQ bR aY jQ gY iJ mQ lJ jA bG mK jB mW mJ eJ dG bT aG jC bL jD mLn oF rP dQ aJ aB bW bZ aR aE bI aW bU fJ dO bM bQ bO jY oX post) args s 0 0 A) (F0 m 25 ls [.int k1, .int k0]) := by
  obtain ⟨hx, hb, hr, hml, hown, hts, hlocks, hA, hK, hN, tL, tM, hZL, hTL, hZM, hTM, hZX⟩ := id C0
  intro x1 x2 k0 k1 bY pJ H locs ls hp hP hD hS hl
  unfold ws_X10_set_25 at hp
  refine lv_iload_n hx hb eX10_set_0.2.2.2.2.2.2.2.2.2.2.2.2.2.2.2 rfl (lv_at hl 1 rfl) ?_
  refine lv_iconst (v := 4) hx hb aVY.1 ic_4 ?_
  refine lv_icmp_ne (tgt := 35) hx hb aVY.2.1 (by decide) (fun hc => ?_) (fun hc => ?_)
  · have hp := hp.1 hc
    refine lv_iload_n hx hb aVY.2.2.2.2.1 rfl (lv_at hl 1 rfl) ?_
    refine lv_iconst (v := 3) hx hb aVY.2.2.2.2.2.1 ic_3 ?_
    refine lv_icmp_ne (tgt := 45) hx hb aVY.2.2.2.2.2.2.1 (by decide) (fun hc => ?_) (fun hc => ?_)
    · have hp := hp.1 hc
      refine lv_bipush (v := 30) hx hb aVY.2.2.2.2.2.2.2.2.2.1 bp_30 ?_
      exact ks_X10_set_47 C0 x1 x2 k0 k1 30 bY pJ H locs ls hp hP hD hS (lv_sub hl [0, 1, 2] rfl)
    · have hp := hp.2 hc
      refine lv_bipush (v := 9) hx hb aVY.2.2.2.2.2.2.2.1 bp_9 ?_
      refine lv_goto (tgt := 47) hx hb aVY.2.2.2.2.2.2.2.2.1 (by decide) ?_
      exact ks_X10_set_47 C0 x1 x2 k0 k1 9 bY pJ H locs ls hp hP hD hS (lv_sub hl [0, 1, 2] rfl)
  · have hp := hp.2 hc
    refine lv_bipush (v := 16) hx hb aVY.2.2.1 bp_16 ?_
    refine lv_goto (tgt := 47) hx hb aVY.2.2.2.1 (by decide) ?_
    exact ks_X10_set_47 C0 x1 x2 k0 k1 16 bY pJ H locs ls hp hP hD hS (lv_sub hl [0, 1, 2] rfl)
end S_X10_set
def wp_X10_set (post : Int32 -> Int32 -> (Nat -> Int32) -> Prop) (p0 p1 bY : Int32) (pJ : Nat -> Int32) : Prop := aJY (fun r_1 => (r_1 = 0 -> post (-1) 0 pJ) /\ (¬ r_1 = 0 -> (¬ p0 = 4 -> ws_X10_set_25 post p0 p1 p1 0 0 pJ) /\ (p0 = 4 -> ws_X10_set_25 post p0 p1 p1 1 0 pJ))) p0 0 4
set_option maxHeartbeats 4000000 in
set_option maxRecDepth 100000 in
theorem c_X10_set (l : Launch) (dC : Nat -> ClassId) (dI : Nat -> Nat -> Nat) (cI cC cZ cB cJ : ClassId) (a_m nY sJ eG iY lY jR jW jZ jO oQ bR aY jQ gY iJ mQ lJ jA bG mK jB mW mJ eJ dG sz : Nat) (p0 p1 bT aG jC bL bY : Int32) (jD : Nat) (mLn oF rP dQ aJ aB bW bZ aR aE bI aW bU fJ dO bM bQ bO jY oX : Int32) (pJ : Nat -> Int32) (post : Int32 -> Int32 -> (Nat -> Int32) -> Prop) (hw : wp_X10_set post p0 p1 bY pJ) : Met l yX10_set (gw yX10_set aJL 4 (some .int)) rm_X10_set (va_Pc [.ref a_m, .int p0, .int p1] (gPre (dC, dI) (tyl cI cC cZ cB cJ) (wd_X10_set cI cC cZ cB cJ a_m nY sJ eG iY lY jR jW jZ jO oQ bR aY jQ gY iJ mQ lJ jA bG mK jB mW mJ eJ dG bT aG jC bL bY jD mLn oF rP dQ aJ aB bW bZ aR aE bI aW bU fJ dO bM bQ bO jY oX pJ) sz)) (q_X10_set dC dI cI cC cZ cB cJ (va_A (wd_X10_set cI cC cZ cB cJ a_m nY sJ eG iY lY jR jW jZ jO oQ bR aY jQ gY iJ mQ lJ jA bG mK jB mW mJ eJ dG bT aG jC bL bY jD mLn oF rP dQ aJ aB bW bZ aR aE bI aW bU fJ dO bM bQ bO jY oX pJ) sz) a_m nY sJ eG iY lY jR jW jZ jO oQ bR aY jQ gY iJ mQ lJ jA bG mK jB mW mJ eJ dG bT aG jC bL jD mLn oF rP dQ aJ aB bW bZ aR aE bI aW bU fJ dO bM bQ bO jY oX post) 0 0 (va_A (wd_X10_set cI cC cZ cB cJ a_m nY sJ eG iY lY jR jW jZ jO oQ bR aY jQ gY iJ mQ lJ jA bG mK jB mW mJ eJ dG bT aG jC bL bY jD mLn oF rP dQ aJ aB bW bZ aR aE bI aW bU fJ dO bM bQ bO jY oX pJ) sz) := by
  refine aBJ (own := zX) (dC, dI) (tyl cI cC cZ cB cJ) (wd_X10_set cI cC cZ cB cJ a_m nY sJ eG iY lY jR jW jZ jO oQ bR aY jQ gY iJ mQ lJ jA bG mK jB mW mJ eJ dG bT aG jC bL bY jD mLn oF rP dQ aJ aB bW bZ aR aE bI aW bU fJ dO bM bQ bO jY oX pJ) sz [.ref a_m, .int p0, .int p1] (fun A => q_X10_set dC dI cI cC cZ cB cJ A a_m nY sJ eG iY lY jR jW jZ jO oQ bR aY jQ gY iJ mQ lJ jA bG mK jB mW mJ eJ dG bT aG jC bL jD mLn oF rP dQ aJ aB bW bZ aR aE bI aW bU fJ dO bM bQ bO jY oX post) aFY rfl (lbz rfl) ?_
  intro p e s m args below meth c A H locs ls C0 hP hD hS hl
  have hl : lv_has ls 4 [(0, .ref a_m), (1, .int p0), (2, .int p1)] := hl
  obtain ⟨hx, hb, hr, hml, hown, hts, hlocks, hA, hK, hN, tL, tM, hZL, hTL, hZM, hTM, hZX⟩ := id C0
  have hp := hw
  unfold wp_X10_set at hp
  refine lv_aload_n hx hb eX10_set_0.1 rfl (lv_at hl 0 rfl) ?_
  refine lv_iconst (v := 0) hx hb eX10_set_0.2.1 aCi ?_
  refine va_put (D := (dC, dI)) (ci := 10) (v := .int 0) (ty := .int) (C := zX) (T := aBe) (N := 51) hx hb hts aAt aD2 aAa aEC hown hK hP hD hS 0 rfl rfl 14 (lbz rfl) (hts _ q_638) (fun _ h9 => h9) rfl (aAa 14 (lbz rfl)) rfl rfl (lbz rfl) eX10_set_0.2.2.1 (fun H locs hP hD hS => ?_)
  have hPD := PDw (ws' := (wd_X10_set cI cC cZ cB cJ a_m nY sJ eG iY lY jR jW jZ jO oQ bR aY jQ gY iJ mQ lJ jA bG mK jB mW mJ eJ dG bT aG jC bL 0 jD mLn oF rP dQ aJ aB bW bZ aR aE bI aW bU fJ dO bM bQ bO jY oX pJ)) hP hD rfl
  have hP := hPD.1
  have hD := hPD.2
  refine lv_iload_n hx hb eX10_set_0.2.2.2.1 rfl (lv_at hl 1 rfl) ?_
  refine lv_iconst (v := 0) hx hb eX10_set_0.2.2.2.2.1 aCi ?_
  refine lv_iconst (v := 4) hx hb eX10_set_0.2.2.2.2.2.1 ic_4 ?_
  refine yW (wc := (aKW cI cC cZ cB cJ)) hP hD hS hA [] [0, 1] rfl rfl rfl rfl (aDn (As := [.int p0, .int 0, .int 4]) (rest := []) C0 hP hD hS [] rfl rfl (aRu l dC dI cI cC cZ cB cJ H.size p0 0 4 _ hp) q_641 q_644 q_643 aBL aRx rfl rfl ⟨lbz rfl, lbz rfl⟩ rfl rfl hl.1 rfl (lv_room (lbz rfl)) eX10_set_0.2.2.2.2.2.2.1 ⟨Nat.zero_le _, Nat.zero_le _⟩) (fun r_1 u H locs hp hP hD hS => ?_)
  have hPD := PDs (ws' := (wd_X10_set cI cC cZ cB cJ a_m nY sJ eG iY lY jR jW jZ jO oQ bR aY jQ gY iJ mQ lJ jA bG mK jB mW mJ eJ dG bT aG jC bL 0 jD mLn oF rP dQ aJ aB bW bZ aR aE bI aW bU fJ dO bM bQ bO jY oX pJ)) hP hD [0, 1] (by decide) rfl
  have hP := hPD.1
  have hD := hPD.2
  refine lv_if_eq (tgt := 53) hx hb eX10_set_0.2.2.2.2.2.2.2.1 (by decide) (fun hc => ?_) (fun hc => ?_)
  · have hp := hp.1 hc
    refine lv_iconst (v := (-1)) hx hb aVY.2.2.2.2.2.2.2.2.2.2.2.2.1 aEJ ?_
    exact W.iret (v := (-1)) hx hb hr (fun t ht hW => ⟨⟨(-1), (0, pJ), rfl, hp, by rw [ht]; exact hP, va_K.moved hW.alike hK, hD⟩, hS.F ht⟩) hS.2.2 aVY.2.2.2.2.2.2.2.2.2.2.2.2.2.1
  · have hp := hp.2 hc
    refine lv_iload_n hx hb eX10_set_0.2.2.2.2.2.2.2.2.1 rfl (lv_at hl 2 rfl) ?_
    refine lv_iload_n hx hb eX10_set_0.2.2.2.2.2.2.2.2.2.1 rfl (lv_at hl 1 rfl) ?_
    refine lv_iconst (v := 4) hx hb eX10_set_0.2.2.2.2.2.2.2.2.2.2.1 ic_4 ?_
    refine lv_icmp_ne (tgt := 24) hx hb eX10_set_0.2.2.2.2.2.2.2.2.2.2.2.1 (by decide) (fun hc => ?_) (fun hc => ?_)
    · have hp := hp.1 hc
      refine lv_iconst (v := 0) hx hb eX10_set_0.2.2.2.2.2.2.2.2.2.2.2.2.2.2.1 aCi ?_
      exact ks_X10_set_25 C0 p0 p1 p1 0 0 pJ H locs ls hp hP hD hS (lv_sub hl [0, 1, 2] rfl)
    · have hp := hp.2 hc
      refine lv_iconst (v := 1) hx hb eX10_set_0.2.2.2.2.2.2.2.2.2.2.2.2.1 aDx ?_
      refine lv_goto (tgt := 25) hx hb eX10_set_0.2.2.2.2.2.2.2.2.2.2.2.2.2.1 (by decide) ?_
      exact ks_X10_set_25 C0 p0 p1 p1 1 0 pJ H locs ls hp hP hD hS (lv_sub hl [0, 1, 2] rfl)
abbrev aHr (cI cC cZ cB cJ : ClassId) (a_m nY sJ eG iY lY jR jW jZ jO oQ bR aY jQ gY iJ mQ lJ jA bG mK jB mW mJ eJ dG : Nat) (bT aG jC bL bY : Int32) (jD : Nat) (mLn oF rP dQ aJ aB bW bZ aR aE bI aW bU fJ dO bM bQ bO jY oX : Int32) (pW : Nat -> Int32) : va_W := [(a_m, .inr (10, [.ref nY, .int bT, .ref sJ, .ref eG, .ref iY, .ref lY, .int aG, .ref jR, .ref jW, .ref jZ, .ref jO, .int jC, .ref oQ, .int bL, .int bY, rdv jO jQ jD, .int mLn, .int oF, .int rP, .int dQ, .ref bR, .ref aY, .int aJ, .int aB, .ref jQ, .int bW, .int bZ, .int aR, .int aE, .int bI, .int aW, .ref gY, .int bU, .ref iJ, .ref mQ, .int fJ, .ref lJ, .int dO, .ref jA, .ref bG, .int bM, .int bQ, .int bO, .ref mK, .ref jB, .ref mW, .int jY, .int oX, .ref mJ, .ref eJ, .ref dG])), (iY, .inl (cI, 16, .inl pW))]
abbrev q_X10_sheet (dC : Nat -> ClassId) (dI : Nat -> Nat -> Nat) (cI cC cZ cB cJ : ClassId) (A : Nat -> Prop) (a_m nY sJ eG iY lY jR jW jZ jO oQ bR aY jQ gY iJ mQ lJ jA bG mK jB mW mJ eJ dG : Nat) (bT aG jC bL : Int32) (jD : Nat) (mLn oF rP dQ aJ aB bW bZ aR aE bI aW bU fJ dO bM bQ bO jY oX : Int32) (post : Int32 -> Int32 -> (Nat -> Int32) -> Prop) : Array Value -> State -> Outcome -> State -> Prop := va_Qi (fun (r : Int32) (u : Int32 × (Nat -> Int32)) => post r u.1 u.2) (fun u t => gB (dC, dI) (tyl cI cC cZ cB cJ) A (aHr cI cC cZ cB cJ a_m nY sJ eG iY lY jR jW jZ jO oQ bR aY jQ gY iJ mQ lJ jA bG mK jB mW mJ eJ dG bT aG jC bL u.1 jD mLn oF rP dQ aJ aB bW bZ aR aE bI aW bU fJ dO bM bQ bO jY oX u.2) t) A
abbrev rm_X10_sheet : Room := { frames := 1, cells := 0, slots := 0, locals := 22 }
section S_X10_sheet
variable {p : Program} {l : Launch} {e : Env} {s : State} {m : MethodId} {args : Array Value} {below : List Frame} {meth : Method} {c : Code} {dC : Nat -> ClassId} {dI : Nat -> Nat -> Nat} {cI cC cZ cB cJ : ClassId} {A : Nat -> Prop} {a_m nY sJ eG iY lY jR jW jZ jO oQ bR aY jQ gY iJ mQ lJ jA bG mK jB mW mJ eJ dG : Nat} {bT aG jC bL : Int32} {jD : Nat} {mLn oF rP dQ aJ aB bW bZ aR aE bI aW bU fJ dO bM bQ bO jY oX : Int32} {post : Int32 -> Int32 -> (Nat -> Int32) -> Prop}
def aPF (post : Int32 -> Int32 -> (Nat -> Int32) -> Prop) (K43 : Int32 -> Int32 -> Int32 -> Int32 -> Int32 -> Int32 -> Int32 -> (Nat -> Int32) -> Prop) (bT x1 x2 x4 x5 x6 x7 k1 k2 bY : Int32) (pW : Nat -> Int32) : Prop := vp_in k1 16 /\ (vp_in x7 16 /\ (∀ v_2 : Int32, v_2 = x5 + ((upd pW k1.toNatClampNeg k2) x7.toNatClampNeg) -> ∀ v_3 : Int32, v_3 = x6 + x4 -> ∀ v_4 : Int32, v_4 = x7 + 1 -> K43 x1 x2 x4 v_2 v_3 v_4 bY (upd pW k1.toNatClampNeg k2)))
set_option maxHeartbeats 4000000 in
set_option maxRecDepth 100000 in
theorem ks_X10_sheet_109 (C0 : gc aCp (some .int) 9 zX (dC, dI) (tyl cI cC cZ cB cJ) A p s m args meth c) {K43 : Int32 -> Int32 -> Int32 -> Int32 -> Int32 -> Int32 -> Int32 -> (Nat -> Int32) -> Prop} (hK43 : ∀ (x1 : Int32) (x2 : Int32) (x4 : Int32) (x5 : Int32) (x6 : Int32) (x7 : Int32) (bY : Int32) (pW : Nat -> Int32) (H : Heap) (locs : List Loc) (ls : Array Slot), K43 x1 x2 x4 x5 x6 x7 bY pW -> va_P (dC, dI) classes (aHr cI cC cZ cB cJ a_m nY sJ eG iY lY jR jW jZ jO oQ bR aY jQ gY iJ mQ lJ jA bG mK jB mW mJ eJ dG bT aG jC bL bY jD mLn oF rP dQ aJ aB bW bZ aR aE bI aW bU fJ dO bM bQ bO jY oX pW) H -> va_D A (aHr cI cC cZ cB cJ a_m nY sJ eG iY lY jR jW jZ jO oQ bR aY jQ gY iJ mQ lJ jA bG mK jB mW mJ eJ dG bT aG jC bL bY jD mLn oF rP dQ aJ aB bW bZ aR aE bI aW bU fJ dO bM bQ bO jY oX pW) -> va_S A s.heap H locs -> lv_has ls 9 [(0, .ref a_m), (1, .int x1), (2, .int x2), (4, .int x4), (5, .int x5), (6, .int x6), (7, .int x7)] -> W p l e rm_X10_sheet s m args below meth c H locs 0 0 (MQ below (q_X10_sheet dC dI cI cC cZ cB cJ A a_m nY sJ eG iY lY jR jW jZ jO oQ bR aY jQ gY iJ mQ lJ jA bG mK jB mW mJ eJ dG bT aG jC bL jD mLn oF rP dQ aJ aB bW bZ aR aE bI aW bU fJ dO bM bQ bO jY oX post) args s 0 0 A) (F0 m 43 ls [])) : ∀ (x1 x2 x4 x5 x6 x7 k1 k2 bY : Int32) (pW : Nat -> Int32) (H : Heap) (locs : List Loc) (ls : Array Slot), (aPF post K43 bT) x1 x2 x4 x5 x6 x7 k1 k2 bY pW -> va_P (dC, dI) classes (aHr cI cC cZ cB cJ a_m nY sJ eG iY lY jR jW jZ jO oQ bR aY jQ gY iJ mQ lJ jA bG mK jB mW mJ eJ dG bT aG jC bL bY jD mLn oF rP dQ aJ aB bW bZ aR aE bI aW bU fJ dO bM bQ bO jY oX pW) H -> va_D A (aHr cI cC cZ cB cJ a_m nY sJ eG iY lY jR jW jZ jO oQ bR aY jQ gY iJ mQ lJ jA bG mK jB mW mJ eJ dG bT aG jC bL bY jD mLn oF rP dQ aJ aB bW bZ aR aE bI aW bU fJ dO bM bQ bO jY oX pW) -> va_S A s.heap H locs -> lv_has ls 9 [(0, .ref a_m), (1, .int x1), (2, .int x2), (4, .int x4), (5, .int x5), (6, .int x6), (7, .int x7)] -> W p l e rm_X10_sheet s m args below meth c H locs 0 0 (MQ below (q_X10_sheet dC dI cI cC cZ cB cJ A a_m nY sJ eG iY lY jR jW jZ jO oQ bR aY jQ gY iJ mQ lJ jA bG mK jB mW mJ eJ dG bT aG jC bL jD mLn oF rP dQ aJ aB bW bZ aR aE bI aW bU fJ dO bM bQ bO jY oX post) args s 0 0 A) (F0 m 109 ls [.int k2, .int k1, .ref iY]) := by
  obtain ⟨hx, hb, hr, hml, hown, hts, hlocks, hA, hK, hN, tL, tM, hZL, hTL, hZM, hTM, hZX⟩ := id C0
  intro x1 x2 x4 x5 x6 x7 k1 k2 bY pW H locs ls hp hP hD hS hl
  unfold aPF at hp
  have hin := hp.1
  have hp := hp.2
  refine va_iast hx hb hK hP hD hS 1 0 rfl rfl hin aTN.2.2.2.2.2.2.2.2.2.2.2.1 (fun H locs hP hD hS => ?_)
  have hPD := PDw (ws' := (aHr cI cC cZ cB cJ a_m nY sJ eG iY lY jR jW jZ jO oQ bR aY jQ gY iJ mQ lJ jA bG mK jB mW mJ eJ dG bT aG jC bL bY jD mLn oF rP dQ aJ aB bW bZ aR aE bI aW bU fJ dO bM bQ bO jY oX (upd pW k1.toNatClampNeg k2))) hP hD rfl
  have hP := hPD.1
  have hD := hPD.2
  refine lv_iload hx hb aTN.2.2.2.2.2.2.2.2.2.2.2.2.1 (lv_at hl 4 rfl) ?_
  refine lv_aload_n hx hb aTN.2.2.2.2.2.2.2.2.2.2.2.2.2.1 rfl (lv_at hl 0 rfl) ?_
  refine va_get (D := (dC, dI)) (ci := 10) (v := .ref iY) (C := zX) (T := aBe) (N := 51) hx hb hts aAt hown hK hP 0 rfl rfl 4 (lbz rfl) (hts _ q_690) (fun _ h9 => h9) rfl aTN.2.2.2.2.2.2.2.2.2.2.2.2.2.2.1 ?_
  refine lv_iload hx hb aTN.2.2.2.2.2.2.2.2.2.2.2.2.2.2.2 (lv_at hl 6 rfl) ?_
  have hin := hp.1
  have hp := hp.2
  refine va_iald hx hb hK hP 1 0 rfl rfl hin aOm.1 ?_
  refine lv_iadd hx hb aOm.2.1 ?_
  refine lv_topi (fun v_2 aGO => ?_)
  have hp := hp v_2 aGO
  refine lv_istore (lv' := [(5, .int v_2), (0, .ref a_m), (1, .int x1), (2, .int x2), (4, .int x4), (6, .int x6), (7, .int x7)]) hx hb aOm.2.2.1 hl (by decide) rfl (fun ls hl => ?_)
  refine lv_iload hx hb aOm.2.2.2.1 (lv_at hl 5 rfl) ?_
  refine lv_iload hx hb aOm.2.2.2.2.1 (lv_at hl 4 rfl) ?_
  refine lv_iadd hx hb aOm.2.2.2.2.2.1 ?_
  refine lv_topi (fun v_3 aGW => ?_)
  have hp := hp v_3 aGW
  refine lv_istore (lv' := [(6, .int v_3), (5, .int v_2), (0, .ref a_m), (1, .int x1), (2, .int x2), (4, .int x4), (7, .int x7)]) hx hb aOm.2.2.2.2.2.2.1 hl (by decide) rfl (fun ls hl => ?_)
  obtain ⟨v_4, aHM⟩ : ∃ y : Int32, y = x7 + 1 := ⟨_, rfl⟩
  refine lv_iinc (v := v_4) (lv' := [(7, .int v_4), (6, .int v_3), (5, .int v_2), (0, .ref a_m), (1, .int x1), (2, .int x2), (4, .int x4)]) hx hb aOm.2.2.2.2.2.2.2.1 hl (k := 6) rfl (by rw [aHM]; rfl) (by decide) rfl (fun ls hl => ?_)
  have hp := hp v_4 aHM
  refine lv_goto (tgt := 43) hx hb aOm.2.2.2.2.2.2.2.2.1 (by decide) ?_
  exact hK43 x1 x2 x4 v_2 v_3 v_4 bY (upd pW k1.toNatClampNeg k2) H locs ls hp hP hD hS (lv_sub hl [3, 4, 5, 6, 2, 1, 0] rfl)
def aZA (post : Int32 -> Int32 -> (Nat -> Int32) -> Prop) (K43 : Int32 -> Int32 -> Int32 -> Int32 -> Int32 -> Int32 -> Int32 -> (Nat -> Int32) -> Prop) (bT x1 x2 x4 x5 x6 x7 k1 bY : Int32) (pW : Nat -> Int32) : Prop := aPF post K43 bT x1 x2 x4 x5 x6 x7 k1 0 bY pW
set_option maxHeartbeats 4000000 in
set_option maxRecDepth 100000 in
theorem ks_X10_sheet_94 (C0 : gc aCp (some .int) 9 zX (dC, dI) (tyl cI cC cZ cB cJ) A p s m args meth c) {K43 : Int32 -> Int32 -> Int32 -> Int32 -> Int32 -> Int32 -> Int32 -> (Nat -> Int32) -> Prop} (hK43 : ∀ (x1 : Int32) (x2 : Int32) (x4 : Int32) (x5 : Int32) (x6 : Int32) (x7 : Int32) (bY : Int32) (pW : Nat -> Int32) (H : Heap) (locs : List Loc) (ls : Array Slot), K43 x1 x2 x4 x5 x6 x7 bY pW -> va_P (dC, dI) classes (aHr cI cC cZ cB cJ a_m nY sJ eG iY lY jR jW jZ jO oQ bR aY jQ gY iJ mQ lJ jA bG mK jB mW mJ eJ dG bT aG jC bL bY jD mLn oF rP dQ aJ aB bW bZ aR aE bI aW bU fJ dO bM bQ bO jY oX pW) H -> va_D A (aHr cI cC cZ cB cJ a_m nY sJ eG iY lY jR jW jZ jO oQ bR aY jQ gY iJ mQ lJ jA bG mK jB mW mJ eJ dG bT aG jC bL bY jD mLn oF rP dQ aJ aB bW bZ aR aE bI aW bU fJ dO bM bQ bO jY oX pW) -> va_S A s.heap H locs -> lv_has ls 9 [(0, .ref a_m), (1, .int x1), (2, .int x2), (4, .int x4), (5, .int x5), (6, .int x6), (7, .int x7)] -> W p l e rm_X10_sheet s m args below meth c H locs 0 0 (MQ below (q_X10_sheet dC dI cI cC cZ cB cJ A a_m nY sJ eG iY lY jR jW jZ jO oQ bR aY jQ gY iJ mQ lJ jA bG mK jB mW mJ eJ dG bT aG jC bL jD mLn oF rP dQ aJ aB bW bZ aR aE bI aW bU fJ dO bM bQ bO jY oX post) args s 0 0 A) (F0 m 43 ls [])) : ∀ (x1 x2 x4 x5 x6 x7 k1 bY : Int32) (pW : Nat -> Int32) (H : Heap) (locs : List Loc) (ls : Array Slot), (aZA post K43 bT) x1 x2 x4 x5 x6 x7 k1 bY pW -> va_P (dC, dI) classes (aHr cI cC cZ cB cJ a_m nY sJ eG iY lY jR jW jZ jO oQ bR aY jQ gY iJ mQ lJ jA bG mK jB mW mJ eJ dG bT aG jC bL bY jD mLn oF rP dQ aJ aB bW bZ aR aE bI aW bU fJ dO bM bQ bO jY oX pW) H -> va_D A (aHr cI cC cZ cB cJ a_m nY sJ eG iY lY jR jW jZ jO oQ bR aY jQ gY iJ mQ lJ jA bG mK jB mW mJ eJ dG bT aG jC bL bY jD mLn oF rP dQ aJ aB bW bZ aR aE bI aW bU fJ dO bM bQ bO jY oX pW) -> va_S A s.heap H locs -> lv_has ls 9 [(0, .ref a_m), (1, .int x1), (2, .int x2), (4, .int x4), (5, .int x5), (6, .int x6), (7, .int x7)] -> W p l e rm_X10_sheet s m args below meth c H locs 0 0 (MQ below (q_X10_sheet dC dI cI cC cZ cB cJ A a_m nY sJ eG iY lY jR jW jZ jO oQ bR aY jQ gY iJ mQ lJ jA bG mK jB mW mJ eJ dG bT aG jC bL jD mLn oF rP dQ aJ aB bW bZ aR aE bI aW bU fJ dO bM bQ bO jY oX post) args s 0 0 A) (F0 m 94 ls [.int k1, .ref iY]) := by
  obtain ⟨hx, hb, hr, hml, hown, hts, hlocks, hA, hK, hN, tL, tM, hZL, hTL, hZM, hTM, hZX⟩ := id C0
  intro x1 x2 x4 x5 x6 x7 k1 bY pW H locs ls hp hP hD hS hl
  unfold aZA at hp
  refine lv_iconst (v := 0) hx hb aTN.2.2.2.2.1 aCi ?_
  refine lv_goto (tgt := 109) hx hb aTN.2.2.2.2.2.1 (by decide) ?_
  exact ks_X10_sheet_109 C0 hK43 x1 x2 x4 x5 x6 x7 k1 0 bY pW H locs ls hp hP hD hS (lv_sub hl [0, 1, 2, 3, 4, 5, 6] rfl)
def ws_X10_sheet_75 (post : Int32 -> Int32 -> (Nat -> Int32) -> Prop) (K43 : Int32 -> Int32 -> Int32 -> Int32 -> Int32 -> Int32 -> Int32 -> (Nat -> Int32) -> Prop) (bT x1 x2 x4 x5 x6 x7 k0 bY : Int32) (pW : Nat -> Int32) : Prop := (x1 = 3 -> aZA post K43 bT x1 x2 x4 x5 x6 x7 x7 bY pW) /\ (¬ x1 = 3 -> (x7 < x2 -> ∀ v_5 : Int32, v_5 = (if k0 < 9 then k0 else 9) -> ∀ v_6 : Int32, v_6 = (if 0 < v_5 then v_5 else 0) -> aPF post K43 bT x1 x2 x4 x5 x6 x7 x7 v_6 bY pW) /\ (¬ x7 < x2 -> aZA post K43 bT x1 x2 x4 x5 x6 x7 x7 bY pW))
set_option maxHeartbeats 4000000 in
set_option maxRecDepth 100000 in
theorem ks_X10_sheet_75 (C0 : gc aCp (some .int) 9 zX (dC, dI) (tyl cI cC cZ cB cJ) A p s m args meth c) {K43 : Int32 -> Int32 -> Int32 -> Int32 -> Int32 -> Int32 -> Int32 -> (Nat -> Int32) -> Prop} (hK43 : ∀ (x1 : Int32) (x2 : Int32) (x4 : Int32) (x5 : Int32) (x6 : Int32) (x7 : Int32) (bY : Int32) (pW : Nat -> Int32) (H : Heap) (locs : List Loc) (ls : Array Slot), K43 x1 x2 x4 x5 x6 x7 bY pW -> va_P (dC, dI) classes (aHr cI cC cZ cB cJ a_m nY sJ eG iY lY jR jW jZ jO oQ bR aY jQ gY iJ mQ lJ jA bG mK jB mW mJ eJ dG bT aG jC bL bY jD mLn oF rP dQ aJ aB bW bZ aR aE bI aW bU fJ dO bM bQ bO jY oX pW) H -> va_D A (aHr cI cC cZ cB cJ a_m nY sJ eG iY lY jR jW jZ jO oQ bR aY jQ gY iJ mQ lJ jA bG mK jB mW mJ eJ dG bT aG jC bL bY jD mLn oF rP dQ aJ aB bW bZ aR aE bI aW bU fJ dO bM bQ bO jY oX pW) -> va_S A s.heap H locs -> lv_has ls 9 [(0, .ref a_m), (1, .int x1), (2, .int x2), (4, .int x4), (5, .int x5), (6, .int x6), (7, .int x7)] -> W p l e rm_X10_sheet s m args below meth c H locs 0 0 (MQ below (q_X10_sheet dC dI cI cC cZ cB cJ A a_m nY sJ eG iY lY jR jW jZ jO oQ bR aY jQ gY iJ mQ lJ jA bG mK jB mW mJ eJ dG bT aG jC bL jD mLn oF rP dQ aJ aB bW bZ aR aE bI aW bU fJ dO bM bQ bO jY oX post) args s 0 0 A) (F0 m 43 ls [])) : ∀ (x1 x2 x4 x5 x6 x7 k0 bY : Int32) (pW : Nat -> Int32) (H : Heap) (locs : List Loc) (ls : Array Slot), (ws_X10_sheet_75 post K43 bT) x1 x2 x4 x5 x6 x7 k0 bY pW -> va_P (dC, dI) classes (aHr cI cC cZ cB cJ a_m nY sJ eG iY lY jR jW jZ jO oQ bR aY jQ gY iJ mQ lJ jA bG mK jB mW mJ eJ dG bT aG jC bL bY jD mLn oF rP dQ aJ aB bW bZ aR aE bI aW bU fJ dO bM bQ bO jY oX pW) H -> va_D A (aHr cI cC cZ cB cJ a_m nY sJ eG iY lY jR jW jZ jO oQ bR aY jQ gY iJ mQ lJ jA bG mK jB mW mJ eJ dG bT aG jC bL bY jD mLn oF rP dQ aJ aB bW bZ aR aE bI aW bU fJ dO bM bQ bO jY oX pW) -> va_S A s.heap H locs -> lv_has ls 9 [(0, .ref a_m), (1, .int x1), (2, .int x2), (4, .int x4), (5, .int x5), (6, .int x6), (7, .int x7)] -> W p l e rm_X10_sheet s m args below meth c H locs 0 0 (MQ below (q_X10_sheet dC dI cI cC cZ cB cJ A a_m nY sJ eG iY lY jR jW jZ jO oQ bR aY jQ gY iJ mQ lJ jA bG mK jB mW mJ eJ dG bT aG jC bL jD mLn oF rP dQ aJ aB bW bZ aR aE bI aW bU fJ dO bM bQ bO jY oX post) args s 0 0 A) (F0 m 75 ls [.int k0]) := by
  obtain ⟨hx, hb, hr, hml, hown, hts, hlocks, hA, hK, hN, tL, tM, hZL, hTL, hZM, hTM, hZX⟩ := id C0
  intro x1 x2 x4 x5 x6 x7 k0 bY pW H locs ls hp hP hD hS hl
  unfold ws_X10_sheet_75 at hp
  refine lv_istore (lv' := [(8, .int k0), (0, .ref a_m), (1, .int x1), (2, .int x2), (4, .int x4), (5, .int x5), (6, .int x6), (7, .int x7)]) hx hb aTM.2.2.2.2.2.2.2.2.2.2.1 hl (by decide) rfl (fun ls hl => ?_)
  refine lv_aload_n hx hb aTM.2.2.2.2.2.2.2.2.2.2.2.1 rfl (lv_at hl 1 rfl) ?_
  refine va_get (D := (dC, dI)) (ci := 10) (v := .ref iY) (C := zX) (T := aBe) (N := 51) hx hb hts aAt hown hK hP 0 rfl rfl 4 (lbz rfl) (hts _ q_690) (fun _ h9 => h9) rfl aTM.2.2.2.2.2.2.2.2.2.2.2.2.1 ?_
  refine lv_iload hx hb aTM.2.2.2.2.2.2.2.2.2.2.2.2.2.1 (lv_at hl 7 rfl) ?_
  refine lv_iload_n hx hb aTM.2.2.2.2.2.2.2.2.2.2.2.2.2.2.1 rfl (lv_at hl 2 rfl) ?_
  refine lv_iconst (v := 3) hx hb aTM.2.2.2.2.2.2.2.2.2.2.2.2.2.2.2 ic_3 ?_
  refine lv_icmp_eq (tgt := 94) hx hb aTN.1 (by decide) (fun hc => ?_) (fun hc => ?_)
  · have hp := hp.1 hc
    exact ks_X10_sheet_94 C0 hK43 x1 x2 x4 x5 x6 x7 x7 bY pW H locs ls hp hP hD hS (lv_sub hl [1, 2, 3, 4, 5, 6, 7] rfl)
  · have hp := hp.2 hc
    refine lv_iload hx hb aTN.2.1 (lv_at hl 7 rfl) ?_
    refine lv_iload_n hx hb aTN.2.2.1 rfl (lv_at hl 3 rfl) ?_
    refine lv_icmp_lt (tgt := 98) hx hb aTN.2.2.2.1 (by decide) (fun hc => ?_) (fun hc => ?_)
    · have hp := hp.1 hc
      refine lv_iconst (v := 0) hx hb aTN.2.2.2.2.2.2.1 aCi ?_
      refine lv_bipush (v := 9) hx hb aTN.2.2.2.2.2.2.2.1 bp_9 ?_
      refine lv_iload hx hb aTN.2.2.2.2.2.2.2.2.1 (lv_at hl 0 rfl) ?_
      refine va_mmin hx hb (by rw [hml]; exact hl.1.symm) hown (hts _ q_766) (hts _ q_15) (hts _ q_16) (hts _ q_17) (lbz rfl) (lbz rfl) (Nat.zero_le _) (Nat.zero_le _) aTN.2.2.2.2.2.2.2.2.2.1 ?_
      refine lv_topi (fun v_5 aJD => ?_)
      have hp := hp v_5 aJD
      refine va_mmax hx hb (by rw [hml]; exact hl.1.symm) hown (hts _ q_697) (hts _ q_134) (hts _ q_16) (hts _ q_135) (lbz rfl) (lbz rfl) (Nat.zero_le _) (Nat.zero_le _) aTN.2.2.2.2.2.2.2.2.2.2.1 ?_
      refine lv_topi (fun v_6 ev_6 => ?_)
      have hp := hp v_6 ev_6
      exact ks_X10_sheet_109 C0 hK43 x1 x2 x4 x5 x6 x7 x7 v_6 bY pW H locs ls hp hP hD hS (lv_sub hl [1, 2, 3, 4, 5, 6, 7] rfl)
    · have hp := hp.2 hc
      exact ks_X10_sheet_94 C0 hK43 x1 x2 x4 x5 x6 x7 x7 bY pW H locs ls hp hP hD hS (lv_sub hl [1, 2, 3, 4, 5, 6, 7] rfl)
def ws_X10_sheet_43 (post : Int32 -> Int32 -> (Nat -> Int32) -> Prop) (next : Int32 -> Int32 -> Int32 -> Int32 -> Int32 -> Int32 -> Int32 -> (Nat -> Int32) -> Prop) (bT x1 x2 x4 x5 x6 x7 bY : Int32) (pW : Nat -> Int32) : Prop := (bT <= x7 -> (¬ x1 = 3 -> post x5 bY pW) /\ (x1 = 3 -> post (-3) bY pW)) /\ (¬ bT <= x7 -> (¬ x1 = 0 -> (¬ x1 = 1 -> ws_X10_sheet_75 post next bT x1 x2 x4 x5 x6 x7 x6 bY pW) /\ (x1 = 1 -> ∀ v_7 : Int32, v_7 = x6.toInt16.toInt32 -> ws_X10_sheet_75 post next bT x1 x2 x4 x5 x6 x7 v_7 bY pW)) /\ (x1 = 0 -> ∀ v_8 : Int32, v_8 = x6.toInt8.toInt32 -> ws_X10_sheet_75 post next bT x1 x2 x4 x5 x6 x7 v_8 bY pW))
noncomputable def wb_X10_sheet_43 (post : Int32 -> Int32 -> (Nat -> Int32) -> Prop) (bT : Int32) : Nat -> Int32 -> Int32 -> Int32 -> Int32 -> Int32 -> Int32 -> Int32 -> (Nat -> Int32) -> Prop := fun n => Nat.rec (motive := fun _ => Int32 -> Int32 -> Int32 -> Int32 -> Int32 -> Int32 -> Int32 -> (Nat -> Int32) -> Prop) (fun _ _ _ _ _ _ _ _ => False) (fun _ ih => ws_X10_sheet_43 post ih bT) n
set_option maxHeartbeats 4000000 in
set_option maxRecDepth 100000 in
theorem ks_X10_sheet_43 (C0 : gc aCp (some .int) 9 zX (dC, dI) (tyl cI cC cZ cB cJ) A p s m args meth c) {next : Int32 -> Int32 -> Int32 -> Int32 -> Int32 -> Int32 -> Int32 -> (Nat -> Int32) -> Prop} (hKn : ∀ (x1 : Int32) (x2 : Int32) (x4 : Int32) (x5 : Int32) (x6 : Int32) (x7 : Int32) (bY : Int32) (pW : Nat -> Int32) (H : Heap) (locs : List Loc) (ls : Array Slot), next x1 x2 x4 x5 x6 x7 bY pW -> va_P (dC, dI) classes (aHr cI cC cZ cB cJ a_m nY sJ eG iY lY jR jW jZ jO oQ bR aY jQ gY iJ mQ lJ jA bG mK jB mW mJ eJ dG bT aG jC bL bY jD mLn oF rP dQ aJ aB bW bZ aR aE bI aW bU fJ dO bM bQ bO jY oX pW) H -> va_D A (aHr cI cC cZ cB cJ a_m nY sJ eG iY lY jR jW jZ jO oQ bR aY jQ gY iJ mQ lJ jA bG mK jB mW mJ eJ dG bT aG jC bL bY jD mLn oF rP dQ aJ aB bW bZ aR aE bI aW bU fJ dO bM bQ bO jY oX pW) -> va_S A s.heap H locs -> lv_has ls 9 [(0, .ref a_m), (1, .int x1), (2, .int x2), (4, .int x4), (5, .int x5), (6, .int x6), (7, .int x7)] -> W p l e rm_X10_sheet s m args below meth c H locs 0 0 (MQ below (q_X10_sheet dC dI cI cC cZ cB cJ A a_m nY sJ eG iY lY jR jW jZ jO oQ bR aY jQ gY iJ mQ lJ jA bG mK jB mW mJ eJ dG bT aG jC bL jD mLn oF rP dQ aJ aB bW bZ aR aE bI aW bU fJ dO bM bQ bO jY oX post) args s 0 0 A) (F0 m 43 ls [])) : ∀ (x1 x2 x4 x5 x6 x7 bY : Int32) (pW : Nat -> Int32) (H : Heap) (locs : List Loc) (ls : Array Slot), (ws_X10_sheet_43 post next bT) x1 x2 x4 x5 x6 x7 bY pW -> va_P (dC, dI) classes (aHr cI cC cZ cB cJ a_m nY sJ eG iY lY jR jW jZ jO oQ bR aY jQ gY iJ mQ lJ jA bG mK jB mW mJ eJ dG bT aG jC bL bY jD mLn oF rP dQ aJ aB bW bZ aR aE bI aW bU fJ dO bM bQ bO jY oX pW) H -> va_D A (aHr cI cC cZ cB cJ a_m nY sJ eG iY lY jR jW jZ jO oQ bR aY jQ gY iJ mQ lJ jA bG mK jB mW mJ eJ dG bT aG jC bL bY jD mLn oF rP dQ aJ aB bW bZ aR aE bI aW bU fJ dO bM bQ bO jY oX pW) -> va_S A s.heap H locs -> lv_has ls 9 [(0, .ref a_m), (1, .int x1), (2, .int x2), (4, .int x4), (5, .int x5), (6, .int x6), (7, .int x7)] -> W p l e rm_X10_sheet s m args below meth c H locs 0 0 (MQ below (q_X10_sheet dC dI cI cC cZ cB cJ A a_m nY sJ eG iY lY jR jW jZ jO oQ bR aY jQ gY iJ mQ lJ jA bG mK jB mW mJ eJ dG bT aG jC bL jD mLn oF rP dQ aJ aB bW bZ aR aE bI aW bU fJ dO bM bQ bO jY oX post) args s 0 0 A) (F0 m 43 ls []) := by
  obtain ⟨hx, hb, hr, hml, hown, hts, hlocks, hA, hK, hN, tL, tM, hZL, hTL, hZM, hTM, hZX⟩ := id C0
  intro x1 x2 x4 x5 x6 x7 bY pW H locs ls hp hP hD hS hl
  unfold ws_X10_sheet_43 at hp
  refine lv_iload hx hb aTL.2.2.2.2.2.2.2.2.2.2.1 (lv_at hl 6 rfl) ?_
  refine lv_aload_n hx hb aTL.2.2.2.2.2.2.2.2.2.2.2.1 rfl (lv_at hl 0 rfl) ?_
  refine va_get (D := (dC, dI)) (ci := 10) (v := .int bT) (C := zX) (T := aBe) (N := 51) hx hb hts aAt hown hK hP 0 rfl rfl 1 (lbz rfl) (hts _ q_677) (fun _ h9 => h9) rfl aTL.2.2.2.2.2.2.2.2.2.2.2.2.1 ?_
  refine lv_icmp_ge (tgt := 135) hx hb aTL.2.2.2.2.2.2.2.2.2.2.2.2.2.1 (by decide) (fun hc => ?_) (fun hc => ?_)
  · have hp := hp.1 hc
    refine lv_iload_n hx hb aOm.2.2.2.2.2.2.2.2.2.1 rfl (lv_at hl 1 rfl) ?_
    refine lv_iconst (v := 3) hx hb aOm.2.2.2.2.2.2.2.2.2.2.1 ic_3 ?_
    refine lv_icmp_ne (tgt := 145) hx hb aOm.2.2.2.2.2.2.2.2.2.2.2.1 (by decide) (fun hc => ?_) (fun hc => ?_)
    · have hp := hp.1 hc
      refine lv_iload hx hb aOm.2.2.2.2.2.2.2.2.2.2.2.2.2.2.1 (lv_at hl 4 rfl) ?_
      exact W.iret (v := x5) hx hb hr (fun t ht hW => ⟨⟨x5, (bY, pW), rfl, hp, by rw [ht]; exact hP, va_K.moved hW.alike hK, hD⟩, hS.F ht⟩) hS.2.2 aOm.2.2.2.2.2.2.2.2.2.2.2.2.2.2.2
    · have hp := hp.2 hc
      refine lv_bipush (v := (-3)) hx hb aOm.2.2.2.2.2.2.2.2.2.2.2.2.1 bp_m3 ?_
      refine lv_goto (tgt := 147) hx hb aOm.2.2.2.2.2.2.2.2.2.2.2.2.2.1 (by decide) ?_
      exact W.iret (v := (-3)) hx hb hr (fun t ht hW => ⟨⟨(-3), (bY, pW), rfl, hp, by rw [ht]; exact hP, va_K.moved hW.alike hK, hD⟩, hS.F ht⟩) hS.2.2 aOm.2.2.2.2.2.2.2.2.2.2.2.2.2.2.2
  · have hp := hp.2 hc
    refine lv_iload_n hx hb aTL.2.2.2.2.2.2.2.2.2.2.2.2.2.2.1 rfl (lv_at hl 1 rfl) ?_
    refine lv_if_ne (tgt := 62) hx hb aTL.2.2.2.2.2.2.2.2.2.2.2.2.2.2.2 (by decide) (fun hc => ?_) (fun hc => ?_)
    · have hp := hp.1 hc
      refine lv_iload_n hx hb aTM.2.2.2.1 rfl (lv_at hl 1 rfl) ?_
      refine lv_iconst (v := 1) hx hb aTM.2.2.2.2.1 aDx ?_
      refine lv_icmp_ne (tgt := 73) hx hb aTM.2.2.2.2.2.1 (by decide) (fun hc => ?_) (fun hc => ?_)
      · have hp := hp.1 hc
        refine lv_iload hx hb aTM.2.2.2.2.2.2.2.2.2.1 (lv_at hl 5 rfl) ?_
        exact ks_X10_sheet_75 C0 hKn x1 x2 x4 x5 x6 x7 x6 bY pW H locs ls hp hP hD hS (lv_sub hl [0, 1, 2, 3, 4, 5, 6] rfl)
      · have hp := hp.2 hc
        refine lv_iload hx hb aTM.2.2.2.2.2.2.1 (lv_at hl 5 rfl) ?_
        refine lv_i2s hx hb aTM.2.2.2.2.2.2.2.1 rfl ?_
        refine lv_topi (fun v_7 ev_7 => ?_)
        have hp := hp v_7 ev_7
        refine lv_goto (tgt := 75) hx hb aTM.2.2.2.2.2.2.2.2.1 (by decide) ?_
        exact ks_X10_sheet_75 C0 hKn x1 x2 x4 x5 x6 x7 v_7 bY pW H locs ls hp hP hD hS (lv_sub hl [0, 1, 2, 3, 4, 5, 6] rfl)
    · have hp := hp.2 hc
      refine lv_iload hx hb aTM.1 (lv_at hl 5 rfl) ?_
      refine lv_i2b hx hb aTM.2.1 rfl ?_
      refine lv_topi (fun v_8 ev_8 => ?_)
      have hp := hp v_8 ev_8
      refine lv_goto (tgt := 75) hx hb aTM.2.2.1 (by decide) ?_
      exact ks_X10_sheet_75 C0 hKn x1 x2 x4 x5 x6 x7 v_8 bY pW H locs ls hp hP hD hS (lv_sub hl [0, 1, 2, 3, 4, 5, 6] rfl)
set_option maxHeartbeats 4000000 in
set_option maxRecDepth 100000 in
theorem kb_X10_sheet_43 (C0 : gc aCp (some .int) 9 zX (dC, dI) (tyl cI cC cZ cB cJ) A p s m args meth c) : ∀ (n : Nat), ∀ (x1 x2 x4 x5 x6 x7 bY : Int32) (pW : Nat -> Int32) (H : Heap) (locs : List Loc) (ls : Array Slot), (wb_X10_sheet_43 post bT n) x1 x2 x4 x5 x6 x7 bY pW -> va_P (dC, dI) classes (aHr cI cC cZ cB cJ a_m nY sJ eG iY lY jR jW jZ jO oQ bR aY jQ gY iJ mQ lJ jA bG mK jB mW mJ eJ dG bT aG jC bL bY jD mLn oF rP dQ aJ aB bW bZ aR aE bI aW bU fJ dO bM bQ bO jY oX pW) H -> va_D A (aHr cI cC cZ cB cJ a_m nY sJ eG iY lY jR jW jZ jO oQ bR aY jQ gY iJ mQ lJ jA bG mK jB mW mJ eJ dG bT aG jC bL bY jD mLn oF rP dQ aJ aB bW bZ aR aE bI aW bU fJ dO bM bQ bO jY oX pW) -> va_S A s.heap H locs -> lv_has ls 9 [(0, .ref a_m), (1, .int x1), (2, .int x2), (4, .int x4), (5, .int x5), (6, .int x6), (7, .int x7)] -> W p l e rm_X10_sheet s m args below meth c H locs 0 0 (MQ below (q_X10_sheet dC dI cI cC cZ cB cJ A a_m nY sJ eG iY lY jR jW jZ jO oQ bR aY jQ gY iJ mQ lJ jA bG mK jB mW mJ eJ dG bT aG jC bL jD mLn oF rP dQ aJ aB bW bZ aR aE bI aW bU fJ dO bM bQ bO jY oX post) args s 0 0 A) (F0 m 43 ls []) := by
  intro n
  induction n with
  | zero =>
    intro x1 x2 x4 x5 x6 x7 bY pW H locs ls hp
    exact False.elim hp
  | succ n ih =>
    intro x1 x2 x4 x5 x6 x7 bY pW H locs ls hp
    exact ks_X10_sheet_43 C0 ih x1 x2 x4 x5 x6 x7 bY pW H locs ls hp
def ws_X10_sheet_34 (post : Int32 -> Int32 -> (Nat -> Int32) -> Prop) (bT x1 x2 x3 x4 bY : Int32) (pW : Nat -> Int32) : Prop := ∃ n : Nat, wb_X10_sheet_43 post bT n x1 x2 x4 0 x3 0 bY pW
set_option maxHeartbeats 4000000 in
set_option maxRecDepth 100000 in
theorem ks_X10_sheet_34 (C0 : gc aCp (some .int) 9 zX (dC, dI) (tyl cI cC cZ cB cJ) A p s m args meth c) : ∀ (x1 x2 x3 x4 bY : Int32) (pW : Nat -> Int32) (H : Heap) (locs : List Loc) (ls : Array Slot), (ws_X10_sheet_34 post bT) x1 x2 x3 x4 bY pW -> va_P (dC, dI) classes (aHr cI cC cZ cB cJ a_m nY sJ eG iY lY jR jW jZ jO oQ bR aY jQ gY iJ mQ lJ jA bG mK jB mW mJ eJ dG bT aG jC bL bY jD mLn oF rP dQ aJ aB bW bZ aR aE bI aW bU fJ dO bM bQ bO jY oX pW) H -> va_D A (aHr cI cC cZ cB cJ a_m nY sJ eG iY lY jR jW jZ jO oQ bR aY jQ gY iJ mQ lJ jA bG mK jB mW mJ eJ dG bT aG jC bL bY jD mLn oF rP dQ aJ aB bW bZ aR aE bI aW bU fJ dO bM bQ bO jY oX pW) -> va_S A s.heap H locs -> lv_has ls 9 [(0, .ref a_m), (1, .int x1), (2, .int x2), (3, .int x3), (4, .int x4)] -> W p l e rm_X10_sheet s m args below meth c H locs 0 0 (MQ below (q_X10_sheet dC dI cI cC cZ cB cJ A a_m nY sJ eG iY lY jR jW jZ jO oQ bR aY jQ gY iJ mQ lJ jA bG mK jB mW mJ eJ dG bT aG jC bL jD mLn oF rP dQ aJ aB bW bZ aR aE bI aW bU fJ dO bM bQ bO jY oX post) args s 0 0 A) (F0 m 34 ls []) := by
  obtain ⟨hx, hb, hr, hml, hown, hts, hlocks, hA, hK, hN, tL, tM, hZL, hTL, hZM, hTM, hZX⟩ := id C0
  intro x1 x2 x3 x4 bY pW H locs ls hp hP hD hS hl
  unfold ws_X10_sheet_34 at hp
  refine lv_iconst (v := 0) hx hb aTL.2.2.2.2.1 aCi ?_
  refine lv_istore (lv' := [(5, .int 0), (0, .ref a_m), (1, .int x1), (2, .int x2), (3, .int x3), (4, .int x4)]) hx hb aTL.2.2.2.2.2.1 hl (by decide) rfl (fun ls hl => ?_)
  refine lv_iload_n hx hb aTL.2.2.2.2.2.2.1 rfl (lv_at hl 4 rfl) ?_
  refine lv_istore (lv' := [(6, .int x3), (5, .int 0), (0, .ref a_m), (1, .int x1), (2, .int x2), (3, .int x3), (4, .int x4)]) hx hb aTL.2.2.2.2.2.2.2.1 hl (by decide) rfl (fun ls hl => ?_)
  refine lv_iconst (v := 0) hx hb aTL.2.2.2.2.2.2.2.2.1 aCi ?_
  refine lv_istore (lv' := [(7, .int 0), (6, .int x3), (5, .int 0), (0, .ref a_m), (1, .int x1), (2, .int x2), (3, .int x3), (4, .int x4)]) hx hb aTL.2.2.2.2.2.2.2.2.2.1 hl (by decide) rfl (fun ls hl => ?_)
  obtain ⟨n9, hp⟩ := hp
  exact kb_X10_sheet_43 C0 n9 x1 x2 x4 0 x3 0 bY pW H locs ls hp hP hD hS (lv_sub hl [3, 4, 5, 7, 2, 1, 0] rfl)
end S_X10_sheet
def wp_X10_sheet (post : Int32 -> Int32 -> (Nat -> Int32) -> Prop) (p0 p1 p2 p3 bT bY : Int32) (pW : Nat -> Int32) : Prop := aJY (fun r_1 => (r_1 = 0 -> post (-1) 0 pW) /\ (¬ r_1 = 0 -> (p1 <= 16 -> (3 <= p0 -> ws_X10_sheet_34 post bT p0 p1 p2 p3 0 pW) /\ (¬ 3 <= p0 -> (0 <= p1 -> ws_X10_sheet_34 post bT p0 p1 p2 p3 0 pW) /\ (¬ 0 <= p1 -> post (-2) 0 pW))) /\ (¬ p1 <= 16 -> post (-1) 0 pW))) p0 0 3
set_option maxHeartbeats 4000000 in
set_option maxRecDepth 100000 in
theorem c_X10_sheet (l : Launch) (dC : Nat -> ClassId) (dI : Nat -> Nat -> Nat) (cI cC cZ cB cJ : ClassId) (a_m nY sJ eG iY lY jR jW jZ jO oQ bR aY jQ gY iJ mQ lJ jA bG mK jB mW mJ eJ dG sz : Nat) (p0 p1 p2 p3 bT aG jC bL bY : Int32) (jD : Nat) (mLn oF rP dQ aJ aB bW bZ aR aE bI aW bU fJ dO bM bQ bO jY oX : Int32) (pW : Nat -> Int32) (post : Int32 -> Int32 -> (Nat -> Int32) -> Prop) (hw : wp_X10_sheet post p0 p1 p2 p3 bT bY pW) : Met l yX10_sheet (gw yX10_sheet aCp 9 (some .int)) rm_X10_sheet (va_Pc [.ref a_m, .int p0, .int p1, .int p2, .int p3] (gPre (dC, dI) (tyl cI cC cZ cB cJ) (aHr cI cC cZ cB cJ a_m nY sJ eG iY lY jR jW jZ jO oQ bR aY jQ gY iJ mQ lJ jA bG mK jB mW mJ eJ dG bT aG jC bL bY jD mLn oF rP dQ aJ aB bW bZ aR aE bI aW bU fJ dO bM bQ bO jY oX pW) sz)) (q_X10_sheet dC dI cI cC cZ cB cJ (va_A (aHr cI cC cZ cB cJ a_m nY sJ eG iY lY jR jW jZ jO oQ bR aY jQ gY iJ mQ lJ jA bG mK jB mW mJ eJ dG bT aG jC bL bY jD mLn oF rP dQ aJ aB bW bZ aR aE bI aW bU fJ dO bM bQ bO jY oX pW) sz) a_m nY sJ eG iY lY jR jW jZ jO oQ bR aY jQ gY iJ mQ lJ jA bG mK jB mW mJ eJ dG bT aG jC bL jD mLn oF rP dQ aJ aB bW bZ aR aE bI aW bU fJ dO bM bQ bO jY oX post) 0 0 (va_A (aHr cI cC cZ cB cJ a_m nY sJ eG iY lY jR jW jZ jO oQ bR aY jQ gY iJ mQ lJ jA bG mK jB mW mJ eJ dG bT aG jC bL bY jD mLn oF rP dQ aJ aB bW bZ aR aE bI aW bU fJ dO bM bQ bO jY oX pW) sz) := by
  refine aBJ (own := zX) (dC, dI) (tyl cI cC cZ cB cJ) (aHr cI cC cZ cB cJ a_m nY sJ eG iY lY jR jW jZ jO oQ bR aY jQ gY iJ mQ lJ jA bG mK jB mW mJ eJ dG bT aG jC bL bY jD mLn oF rP dQ aJ aB bW bZ aR aE bI aW bU fJ dO bM bQ bO jY oX pW) sz [.ref a_m, .int p0, .int p1, .int p2, .int p3] (fun A => q_X10_sheet dC dI cI cC cZ cB cJ A a_m nY sJ eG iY lY jR jW jZ jO oQ bR aY jQ gY iJ mQ lJ jA bG mK jB mW mJ eJ dG bT aG jC bL jD mLn oF rP dQ aJ aB bW bZ aR aE bI aW bU fJ dO bM bQ bO jY oX post) aFY rfl (lbz rfl) ?_
  intro p e s m args below meth c A H locs ls C0 hP hD hS hl
  have hl : lv_has ls 9 [(0, .ref a_m), (1, .int p0), (2, .int p1), (3, .int p2), (4, .int p3)] := hl
  obtain ⟨hx, hb, hr, hml, hown, hts, hlocks, hA, hK, hN, tL, tM, hZL, hTL, hZM, hTM, hZX⟩ := id C0
  have hp := hw
  unfold wp_X10_sheet at hp
  refine lv_aload_n hx hb aSG.1 rfl (lv_at hl 0 rfl) ?_
  refine lv_iconst (v := 0) hx hb aSG.2.1 aCi ?_
  refine va_put (D := (dC, dI)) (ci := 10) (v := .int 0) (ty := .int) (C := zX) (T := aBe) (N := 51) hx hb hts aAt aD2 aAa aEC hown hK hP hD hS 0 rfl rfl 14 (lbz rfl) (hts _ q_638) (fun _ h9 => h9) rfl (aAa 14 (lbz rfl)) rfl rfl (lbz rfl) aSG.2.2.1 (fun H locs hP hD hS => ?_)
  have hPD := PDw (ws' := (aHr cI cC cZ cB cJ a_m nY sJ eG iY lY jR jW jZ jO oQ bR aY jQ gY iJ mQ lJ jA bG mK jB mW mJ eJ dG bT aG jC bL 0 jD mLn oF rP dQ aJ aB bW bZ aR aE bI aW bU fJ dO bM bQ bO jY oX pW)) hP hD rfl
  have hP := hPD.1
  have hD := hPD.2
  refine lv_iload_n hx hb aSG.2.2.2.1 rfl (lv_at hl 1 rfl) ?_
  refine lv_iconst (v := 0) hx hb aSG.2.2.2.2.1 aCi ?_
  refine lv_iconst (v := 3) hx hb aSG.2.2.2.2.2.1 ic_3 ?_
  refine yW (wc := (aKW cI cC cZ cB cJ)) hP hD hS hA [] [0, 1] rfl rfl rfl rfl (aDn (As := [.int p0, .int 0, .int 3]) (rest := []) C0 hP hD hS [] rfl rfl (aRu l dC dI cI cC cZ cB cJ H.size p0 0 3 _ hp) q_641 q_644 q_643 aBL aRx rfl rfl ⟨lbz rfl, lbz rfl⟩ rfl rfl hl.1 rfl (lv_room (lbz rfl)) aSG.2.2.2.2.2.2.1 ⟨Nat.zero_le _, Nat.zero_le _⟩) (fun r_1 u H locs hp hP hD hS => ?_)
  have hPD := PDs (ws' := (aHr cI cC cZ cB cJ a_m nY sJ eG iY lY jR jW jZ jO oQ bR aY jQ gY iJ mQ lJ jA bG mK jB mW mJ eJ dG bT aG jC bL 0 jD mLn oF rP dQ aJ aB bW bZ aR aE bI aW bU fJ dO bM bQ bO jY oX pW)) hP hD [0, 1] (by decide) rfl
  have hP := hPD.1
  have hD := hPD.2
  refine lv_if_eq (tgt := 20) hx hb aSG.2.2.2.2.2.2.2.1 (by decide) (fun hc => ?_) (fun hc => ?_)
  · have hp := hp.1 hc
    refine lv_iconst (v := (-1)) hx hb aSG.2.2.2.2.2.2.2.2.2.2.2.1 aEJ ?_
    exact W.iret (v := (-1)) hx hb hr (fun t ht hW => ⟨⟨(-1), (0, pW), rfl, hp, by rw [ht]; exact hP, va_K.moved hW.alike hK, hD⟩, hS.F ht⟩) hS.2.2 aSG.2.2.2.2.2.2.2.2.2.2.2.2.1
  · have hp := hp.2 hc
    refine lv_iload_n hx hb aSG.2.2.2.2.2.2.2.2.1 rfl (lv_at hl 2 rfl) ?_
    refine lv_bipush (v := 16) hx hb aSG.2.2.2.2.2.2.2.2.2.1 bp_16 ?_
    refine lv_icmp_le (tgt := 22) hx hb aSG.2.2.2.2.2.2.2.2.2.2.1 (by decide) (fun hc => ?_) (fun hc => ?_)
    · have hp := hp.1 hc
      refine lv_iload_n hx hb aSG.2.2.2.2.2.2.2.2.2.2.2.2.2.1 rfl (lv_at hl 1 rfl) ?_
      refine lv_iconst (v := 3) hx hb aSG.2.2.2.2.2.2.2.2.2.2.2.2.2.2.1 ic_3 ?_
      refine lv_icmp_ge (tgt := 34) hx hb aSG.2.2.2.2.2.2.2.2.2.2.2.2.2.2.2 (by decide) (fun hc => ?_) (fun hc => ?_)
      · have hp := hp.1 hc
        exact ks_X10_sheet_34 C0 p0 p1 p2 p3 0 pW H locs ls hp hP hD hS (lv_sub hl [0, 1, 2, 3, 4] rfl)
      · have hp := hp.2 hc
        refine lv_iload_n hx hb aTL.1 rfl (lv_at hl 2 rfl) ?_
        refine lv_if_ge (tgt := 34) hx hb aTL.2.1 (by decide) (fun hc => ?_) (fun hc => ?_)
        · have hp := hp.1 hc
          exact ks_X10_sheet_34 C0 p0 p1 p2 p3 0 pW H locs ls hp hP hD hS (lv_sub hl [0, 1, 2, 3, 4] rfl)
        · have hp := hp.2 hc
          refine lv_bipush (v := (-2)) hx hb aTL.2.2.1 bp_m2 ?_
          exact W.iret (v := (-2)) hx hb hr (fun t ht hW => ⟨⟨(-2), (0, pW), rfl, hp, by rw [ht]; exact hP, va_K.moved hW.alike hK, hD⟩, hS.F ht⟩) hS.2.2 aTL.2.2.2.1
    · have hp := hp.2 hc
      refine lv_iconst (v := (-1)) hx hb aSG.2.2.2.2.2.2.2.2.2.2.2.1 aEJ ?_
      exact W.iret (v := (-1)) hx hb hr (fun t ht hW => ⟨⟨(-1), (0, pW), rfl, hp, by rw [ht]; exact hP, va_K.moved hW.alike hK, hD⟩, hS.F ht⟩) hS.2.2 aSG.2.2.2.2.2.2.2.2.2.2.2.2.1
