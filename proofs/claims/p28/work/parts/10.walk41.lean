abbrev aH0 (cI cC cZ cB cJ : ClassId) (a_m nY sJ eG iY lY jR jW jZ jO oQ bR aY jQ gY iJ mQ lJ jA bG mK jB mW mJ eJ dG : Nat) (bT aG jC bL bY : Int32) (jD : Nat) (mLn oF rP dQ aJ aB bW bZ aR aE bI aW bU fJ dO bM bQ bO jY oX : Int32) (qG m_x gR pW qR nG oO pJ sW sH : Nat -> Int32) : va_W := [(a_m, .inr (10, [.ref nY, .int bT, .ref sJ, .ref eG, .ref iY, .ref lY, .int aG, .ref jR, .ref jW, .ref jZ, .ref jO, .int jC, .ref oQ, .int bL, .int bY, rdv jO jQ jD, .int mLn, .int oF, .int rP, .int dQ, .ref bR, .ref aY, .int aJ, .int aB, .ref jQ, .int bW, .int bZ, .int aR, .int aE, .int bI, .int aW, .ref gY, .int bU, .ref iJ, .ref mQ, .int fJ, .ref lJ, .int dO, .ref jA, .ref bG, .int bM, .int bQ, .int bO, .ref mK, .ref jB, .ref mW, .int jY, .int oX, .ref mJ, .ref eJ, .ref dG])), (nY, .inl (cI, 21, .inl qG)), (sJ, .inl (cI, 16, .inl m_x)), (eG, .inl (cI, 16, .inl gR)), (iY, .inl (cI, 16, .inl pW)), (lY, .inl (cI, 16, .inl qR)), (jR, .inl (cI, 8, .inl nG)), (jW, .inl (cI, 8, .inl oO)), (jZ, .inl (cI, 5, .inl pJ)), (oQ, .inl (cI, 32, .inl sW)), (lJ, .inl (cI, 8, .inl sH))]
abbrev q_X10_next (dC : Nat -> ClassId) (dI : Nat -> Nat -> Nat) (cI cC cZ cB cJ : ClassId) (A : Nat -> Prop) (a_m nY sJ eG iY lY jR jW jZ jO oQ bR aY jQ gY iJ mQ lJ jA bG mK jB mW mJ eJ dG : Nat) (bT aG jC : Int32) (jD : Nat) (mLn oF rP dQ aJ aB bW bZ aR aE bI aW bU fJ bM bQ bO jY oX : Int32) (qG m_x gR pW qR nG oO pJ : Nat -> Int32) (post : Int32 -> Int32 -> Int32 -> Int32 -> (Nat -> Int32) -> (Nat -> Int32) -> Prop) : Array Value -> State -> Outcome -> State -> Prop := va_Qi (fun (r : Int32) (u : Int32 × Int32 × Int32 × (Nat -> Int32) × (Nat -> Int32)) => post r u.1 u.2.1 u.2.2.1 u.2.2.2.1 u.2.2.2.2) (fun u t => gB (dC, dI) (tyl cI cC cZ cB cJ) A (aH0 cI cC cZ cB cJ a_m nY sJ eG iY lY jR jW jZ jO oQ bR aY jQ gY iJ mQ lJ jA bG mK jB mW mJ eJ dG bT aG jC u.1 u.2.1 jD mLn oF rP dQ aJ aB bW bZ aR aE bI aW bU fJ u.2.2.1 bM bQ bO jY oX qG m_x gR pW qR nG oO pJ u.2.2.2.1 u.2.2.2.2) t) A
abbrev rm_X10_next : Room := { frames := 6, cells := 0, slots := 0, locals := 133 }
section S_X10_next
variable {p : Program} {l : Launch} {e : Env} {s : State} {m : MethodId} {args : Array Value} {below : List Frame} {meth : Method} {c : Code} {dC : Nat -> ClassId} {dI : Nat -> Nat -> Nat} {cI cC cZ cB cJ : ClassId} {A : Nat -> Prop} {a_m nY sJ eG iY lY jR jW jZ jO oQ bR aY jQ gY iJ mQ lJ jA bG mK jB mW mJ eJ dG : Nat} {bT aG jC : Int32} {jD : Nat} {mLn oF rP dQ aJ aB bW bZ aR aE bI aW bU fJ bM bQ bO jY oX : Int32} {qG m_x gR pW qR nG oO pJ : Nat -> Int32} {post : Int32 -> Int32 -> Int32 -> Int32 -> (Nat -> Int32) -> (Nat -> Int32) -> Prop}
def ws_X10_next_71 (post : Int32 -> Int32 -> Int32 -> Int32 -> (Nat -> Int32) -> (Nat -> Int32) -> Prop) (K28 : Int32 -> Int32 -> Int32 -> Int32 -> Int32 -> Int32 -> (Nat -> Int32) -> (Nat -> Int32) -> Prop) (bT aG : Int32) (qG m_x gR pW qR nG oO pJ : Nat -> Int32) (x1 x2 x3 bL bY dO : Int32) (sW sH : Nat -> Int32) : Prop := ∀ aIQ : Int32, aIQ = x3 + 1 -> K28 x1 x2 aIQ bL bY dO sW sH
set_option maxHeartbeats 4000000 in
set_option maxRecDepth 100000 in
theorem ks_X10_next_71 (C0 : gc aDf (some .int) 4 zX (dC, dI) (tyl cI cC cZ cB cJ) A p s m args meth c) {K28 : Int32 -> Int32 -> Int32 -> Int32 -> Int32 -> Int32 -> (Nat -> Int32) -> (Nat -> Int32) -> Prop} (hK28 : ∀ (x1 : Int32) (x2 : Int32) (x3 : Int32) (bL : Int32) (bY : Int32) (dO : Int32) (sW : Nat -> Int32) (sH : Nat -> Int32) (H : Heap) (locs : List Loc) (ls : Array Slot), K28 x1 x2 x3 bL bY dO sW sH -> va_P (dC, dI) classes (aH0 cI cC cZ cB cJ a_m nY sJ eG iY lY jR jW jZ jO oQ bR aY jQ gY iJ mQ lJ jA bG mK jB mW mJ eJ dG bT aG jC bL bY jD mLn oF rP dQ aJ aB bW bZ aR aE bI aW bU fJ dO bM bQ bO jY oX qG m_x gR pW qR nG oO pJ sW sH) H -> va_D A (aH0 cI cC cZ cB cJ a_m nY sJ eG iY lY jR jW jZ jO oQ bR aY jQ gY iJ mQ lJ jA bG mK jB mW mJ eJ dG bT aG jC bL bY jD mLn oF rP dQ aJ aB bW bZ aR aE bI aW bU fJ dO bM bQ bO jY oX qG m_x gR pW qR nG oO pJ sW sH) -> va_S A s.heap H locs -> lv_has ls 4 [(0, .ref a_m), (1, .int x1), (2, .int x2), (3, .int x3)] -> W p l e rm_X10_next s m args below meth c H locs 0 0 (MQ below (q_X10_next dC dI cI cC cZ cB cJ A a_m nY sJ eG iY lY jR jW jZ jO oQ bR aY jQ gY iJ mQ lJ jA bG mK jB mW mJ eJ dG bT aG jC jD mLn oF rP dQ aJ aB bW bZ aR aE bI aW bU fJ bM bQ bO jY oX qG m_x gR pW qR nG oO pJ post) args s 0 0 A) (F0 m 28 ls [])) : ∀ (x1 x2 x3 bL bY dO : Int32) (sW sH : Nat -> Int32) (H : Heap) (locs : List Loc) (ls : Array Slot), (ws_X10_next_71 post K28 bT aG qG m_x gR pW qR nG oO pJ) x1 x2 x3 bL bY dO sW sH -> va_P (dC, dI) classes (aH0 cI cC cZ cB cJ a_m nY sJ eG iY lY jR jW jZ jO oQ bR aY jQ gY iJ mQ lJ jA bG mK jB mW mJ eJ dG bT aG jC bL bY jD mLn oF rP dQ aJ aB bW bZ aR aE bI aW bU fJ dO bM bQ bO jY oX qG m_x gR pW qR nG oO pJ sW sH) H -> va_D A (aH0 cI cC cZ cB cJ a_m nY sJ eG iY lY jR jW jZ jO oQ bR aY jQ gY iJ mQ lJ jA bG mK jB mW mJ eJ dG bT aG jC bL bY jD mLn oF rP dQ aJ aB bW bZ aR aE bI aW bU fJ dO bM bQ bO jY oX qG m_x gR pW qR nG oO pJ sW sH) -> va_S A s.heap H locs -> lv_has ls 4 [(0, .ref a_m), (1, .int x1), (2, .int x2), (3, .int x3)] -> W p l e rm_X10_next s m args below meth c H locs 0 0 (MQ below (q_X10_next dC dI cI cC cZ cB cJ A a_m nY sJ eG iY lY jR jW jZ jO oQ bR aY jQ gY iJ mQ lJ jA bG mK jB mW mJ eJ dG bT aG jC jD mLn oF rP dQ aJ aB bW bZ aR aE bI aW bU fJ bM bQ bO jY oX qG m_x gR pW qR nG oO pJ post) args s 0 0 A) (F0 m 71 ls []) := by
  obtain ⟨hx, hb, hr, hml, hown, hts, hlocks, hA, hK, hN, tL, tM, hZL, hTL, hZM, hTM, hZX⟩ := id C0
  intro x1 x2 x3 bL bY dO sW sH H locs ls hp hP hD hS hl
  unfold ws_X10_next_71 at hp
  obtain ⟨aIQ, ev_13⟩ : ∃ y : Int32, y = x3 + 1 := ⟨_, rfl⟩
  refine lv_iinc (v := aIQ) (lv' := [(3, .int aIQ), (0, .ref a_m), (1, .int x1), (2, .int x2)]) hx hb aWI.2.2.2.2.2.2.2.2.2.2.2.2.1 hl (k := 3) rfl (by rw [ev_13]; rfl) (by decide) rfl (fun ls hl => ?_)
  have hp := hp aIQ ev_13
  refine lv_goto (tgt := 28) hx hb aWI.2.2.2.2.2.2.2.2.2.2.2.2.2.1 (by decide) ?_
  exact hK28 x1 x2 aIQ bL bY dO sW sH H locs ls hp hP hD hS (lv_sub hl [1, 2, 3, 0] rfl)
def ws_X10_next_69 (post : Int32 -> Int32 -> Int32 -> Int32 -> (Nat -> Int32) -> (Nat -> Int32) -> Prop) (K28 : Int32 -> Int32 -> Int32 -> Int32 -> Int32 -> Int32 -> (Nat -> Int32) -> (Nat -> Int32) -> Prop) (bT aG : Int32) (qG m_x gR pW qR nG oO pJ : Nat -> Int32) (x1 x3 bL bY dO : Int32) (sW sH : Nat -> Int32) : Prop := ws_X10_next_71 post K28 bT aG qG m_x gR pW qR nG oO pJ x1 x3 x3 bL bY dO sW sH
set_option maxHeartbeats 4000000 in
set_option maxRecDepth 100000 in
theorem ks_X10_next_69 (C0 : gc aDf (some .int) 4 zX (dC, dI) (tyl cI cC cZ cB cJ) A p s m args meth c) {K28 : Int32 -> Int32 -> Int32 -> Int32 -> Int32 -> Int32 -> (Nat -> Int32) -> (Nat -> Int32) -> Prop} (hK28 : ∀ (x1 : Int32) (x2 : Int32) (x3 : Int32) (bL : Int32) (bY : Int32) (dO : Int32) (sW : Nat -> Int32) (sH : Nat -> Int32) (H : Heap) (locs : List Loc) (ls : Array Slot), K28 x1 x2 x3 bL bY dO sW sH -> va_P (dC, dI) classes (aH0 cI cC cZ cB cJ a_m nY sJ eG iY lY jR jW jZ jO oQ bR aY jQ gY iJ mQ lJ jA bG mK jB mW mJ eJ dG bT aG jC bL bY jD mLn oF rP dQ aJ aB bW bZ aR aE bI aW bU fJ dO bM bQ bO jY oX qG m_x gR pW qR nG oO pJ sW sH) H -> va_D A (aH0 cI cC cZ cB cJ a_m nY sJ eG iY lY jR jW jZ jO oQ bR aY jQ gY iJ mQ lJ jA bG mK jB mW mJ eJ dG bT aG jC bL bY jD mLn oF rP dQ aJ aB bW bZ aR aE bI aW bU fJ dO bM bQ bO jY oX qG m_x gR pW qR nG oO pJ sW sH) -> va_S A s.heap H locs -> lv_has ls 4 [(0, .ref a_m), (1, .int x1), (2, .int x2), (3, .int x3)] -> W p l e rm_X10_next s m args below meth c H locs 0 0 (MQ below (q_X10_next dC dI cI cC cZ cB cJ A a_m nY sJ eG iY lY jR jW jZ jO oQ bR aY jQ gY iJ mQ lJ jA bG mK jB mW mJ eJ dG bT aG jC jD mLn oF rP dQ aJ aB bW bZ aR aE bI aW bU fJ bM bQ bO jY oX qG m_x gR pW qR nG oO pJ post) args s 0 0 A) (F0 m 28 ls [])) : ∀ (x1 x3 bL bY dO : Int32) (sW sH : Nat -> Int32) (H : Heap) (locs : List Loc) (ls : Array Slot), (ws_X10_next_69 post K28 bT aG qG m_x gR pW qR nG oO pJ) x1 x3 bL bY dO sW sH -> va_P (dC, dI) classes (aH0 cI cC cZ cB cJ a_m nY sJ eG iY lY jR jW jZ jO oQ bR aY jQ gY iJ mQ lJ jA bG mK jB mW mJ eJ dG bT aG jC bL bY jD mLn oF rP dQ aJ aB bW bZ aR aE bI aW bU fJ dO bM bQ bO jY oX qG m_x gR pW qR nG oO pJ sW sH) H -> va_D A (aH0 cI cC cZ cB cJ a_m nY sJ eG iY lY jR jW jZ jO oQ bR aY jQ gY iJ mQ lJ jA bG mK jB mW mJ eJ dG bT aG jC bL bY jD mLn oF rP dQ aJ aB bW bZ aR aE bI aW bU fJ dO bM bQ bO jY oX qG m_x gR pW qR nG oO pJ sW sH) -> va_S A s.heap H locs -> lv_has ls 4 [(0, .ref a_m), (1, .int x1), (3, .int x3)] -> W p l e rm_X10_next s m args below meth c H locs 0 0 (MQ below (q_X10_next dC dI cI cC cZ cB cJ A a_m nY sJ eG iY lY jR jW jZ jO oQ bR aY jQ gY iJ mQ lJ jA bG mK jB mW mJ eJ dG bT aG jC jD mLn oF rP dQ aJ aB bW bZ aR aE bI aW bU fJ bM bQ bO jY oX qG m_x gR pW qR nG oO pJ post) args s 0 0 A) (F0 m 69 ls []) := by
  obtain ⟨hx, hb, hr, hml, hown, hts, hlocks, hA, hK, hN, tL, tM, hZL, hTL, hZM, hTM, hZX⟩ := id C0
  intro x1 x3 bL bY dO sW sH H locs ls hp hP hD hS hl
  unfold ws_X10_next_69 at hp
  refine lv_iload_n hx hb aWI.2.2.2.2.2.2.2.2.2.2.1 rfl (lv_at hl 2 rfl) ?_
  refine lv_istore_n (lv' := [(2, .int x3), (0, .ref a_m), (1, .int x1), (3, .int x3)]) hx hb aWI.2.2.2.2.2.2.2.2.2.2.2.1 rfl hl (by decide) rfl (fun ls hl => ?_)
  exact ks_X10_next_71 C0 hK28 x1 x3 x3 bL bY dO sW sH H locs ls hp hP hD hS (lv_sub hl [1, 2, 0, 3] rfl)
def ws_X10_next_28 (post : Int32 -> Int32 -> Int32 -> Int32 -> (Nat -> Int32) -> (Nat -> Int32) -> Prop) (next : Int32 -> Int32 -> Int32 -> Int32 -> Int32 -> Int32 -> (Nat -> Int32) -> (Nat -> Int32) -> Prop) (bT aG : Int32) (qG m_x gR pW qR nG oO pJ : Nat -> Int32) (x1 x2 x3 bL bY dO : Int32) (sW sH : Nat -> Int32) : Prop := (aG <= x3 -> (0 <= x2 -> ∀ v_5 : Int32, v_5 = x1 ||| (1 <<< (x2 &&& 31)) -> wp_X10_leftBy (fun r_6 => aDs (fun aOp m_row_8 => wp_X10_leftBy (fun r_9 => aDs (fun aDZ aHj => post x2 aDZ bY dO aHj sH) r_9 aOp m_row_8) x1 bT aG dO qG pW sH) r_6 0 sW) v_5 bT aG dO qG pW sH) /\ (¬ 0 <= x2 -> post (-2) bL bY dO sW sH)) /\ (¬ aG <= x3 -> aKc (fun r_12 => (¬ r_12 = 0 -> ws_X10_next_71 post next bT aG qG m_x gR pW qR nG oO pJ x1 x2 x3 bL bY dO sW sH) /\ (r_12 = 0 -> (x2 < 0 -> ws_X10_next_69 post next bT aG qG m_x gR pW qR nG oO pJ x1 x3 bL bY dO sW sH) /\ (¬ x2 < 0 -> ∀ aGC : Int32, aGC = x1 ||| (1 <<< (x3 &&& 31)) -> wp_X10_leftBy (fun r_15 => ∀ aHb : Int32, aHb = x1 ||| (1 <<< (x2 &&& 31)) -> wp_X10_leftBy (fun r_17 => (r_17 <= r_15 -> ws_X10_next_71 post next bT aG qG m_x gR pW qR nG oO pJ x1 x2 x3 bL bY dO sW sH) /\ (¬ r_17 <= r_15 -> ws_X10_next_69 post next bT aG qG m_x gR pW qR nG oO pJ x1 x3 bL bY dO sW sH)) aHb bT aG dO qG pW sH) aGC bT aG dO qG pW sH))) x1 x3)
noncomputable def wb_X10_next_28 (post : Int32 -> Int32 -> Int32 -> Int32 -> (Nat -> Int32) -> (Nat -> Int32) -> Prop) (bT aG : Int32) (qG m_x gR pW qR nG oO pJ : Nat -> Int32) : Nat -> Int32 -> Int32 -> Int32 -> Int32 -> Int32 -> Int32 -> (Nat -> Int32) -> (Nat -> Int32) -> Prop := fun n => Nat.rec (motive := fun _ => Int32 -> Int32 -> Int32 -> Int32 -> Int32 -> Int32 -> (Nat -> Int32) -> (Nat -> Int32) -> Prop) (fun _ _ _ _ _ _ _ _ => False) (fun _ ih => ws_X10_next_28 post ih bT aG qG m_x gR pW qR nG oO pJ) n
set_option maxHeartbeats 4000000 in
set_option maxRecDepth 100000 in
theorem ks_X10_next_28 (C0 : gc aDf (some .int) 4 zX (dC, dI) (tyl cI cC cZ cB cJ) A p s m args meth c) {next : Int32 -> Int32 -> Int32 -> Int32 -> Int32 -> Int32 -> (Nat -> Int32) -> (Nat -> Int32) -> Prop} (hKn : ∀ (x1 : Int32) (x2 : Int32) (x3 : Int32) (bL : Int32) (bY : Int32) (dO : Int32) (sW : Nat -> Int32) (sH : Nat -> Int32) (H : Heap) (locs : List Loc) (ls : Array Slot), next x1 x2 x3 bL bY dO sW sH -> va_P (dC, dI) classes (aH0 cI cC cZ cB cJ a_m nY sJ eG iY lY jR jW jZ jO oQ bR aY jQ gY iJ mQ lJ jA bG mK jB mW mJ eJ dG bT aG jC bL bY jD mLn oF rP dQ aJ aB bW bZ aR aE bI aW bU fJ dO bM bQ bO jY oX qG m_x gR pW qR nG oO pJ sW sH) H -> va_D A (aH0 cI cC cZ cB cJ a_m nY sJ eG iY lY jR jW jZ jO oQ bR aY jQ gY iJ mQ lJ jA bG mK jB mW mJ eJ dG bT aG jC bL bY jD mLn oF rP dQ aJ aB bW bZ aR aE bI aW bU fJ dO bM bQ bO jY oX qG m_x gR pW qR nG oO pJ sW sH) -> va_S A s.heap H locs -> lv_has ls 4 [(0, .ref a_m), (1, .int x1), (2, .int x2), (3, .int x3)] -> W p l e rm_X10_next s m args below meth c H locs 0 0 (MQ below (q_X10_next dC dI cI cC cZ cB cJ A a_m nY sJ eG iY lY jR jW jZ jO oQ bR aY jQ gY iJ mQ lJ jA bG mK jB mW mJ eJ dG bT aG jC jD mLn oF rP dQ aJ aB bW bZ aR aE bI aW bU fJ bM bQ bO jY oX qG m_x gR pW qR nG oO pJ post) args s 0 0 A) (F0 m 28 ls [])) : ∀ (x1 x2 x3 bL bY dO : Int32) (sW sH : Nat -> Int32) (H : Heap) (locs : List Loc) (ls : Array Slot), (ws_X10_next_28 post next bT aG qG m_x gR pW qR nG oO pJ) x1 x2 x3 bL bY dO sW sH -> va_P (dC, dI) classes (aH0 cI cC cZ cB cJ a_m nY sJ eG iY lY jR jW jZ jO oQ bR aY jQ gY iJ mQ lJ jA bG mK jB mW mJ eJ dG bT aG jC bL bY jD mLn oF rP dQ aJ aB bW bZ aR aE bI aW bU fJ dO bM bQ bO jY oX qG m_x gR pW qR nG oO pJ sW sH) H -> va_D A (aH0 cI cC cZ cB cJ a_m nY sJ eG iY lY jR jW jZ jO oQ bR aY jQ gY iJ mQ lJ jA bG mK jB mW mJ eJ dG bT aG jC bL bY jD mLn oF rP dQ aJ aB bW bZ aR aE bI aW bU fJ dO bM bQ bO jY oX qG m_x gR pW qR nG oO pJ sW sH) -> va_S A s.heap H locs -> lv_has ls 4 [(0, .ref a_m), (1, .int x1), (2, .int x2), (3, .int x3)] -> W p l e rm_X10_next s m args below meth c H locs 0 0 (MQ below (q_X10_next dC dI cI cC cZ cB cJ A a_m nY sJ eG iY lY jR jW jZ jO oQ bR aY jQ gY iJ mQ lJ jA bG mK jB mW mJ eJ dG bT aG jC jD mLn oF rP dQ aJ aB bW bZ aR aE bI aW bU fJ bM bQ bO jY oX qG m_x gR pW qR nG oO pJ post) args s 0 0 A) (F0 m 28 ls []) := by
  obtain ⟨hx, hb, hr, hml, hown, hts, hlocks, hA, hK, hN, tL, tM, hZL, hTL, hZM, hTM, hZX⟩ := id C0
  intro x1 x2 x3 bL bY dO sW sH H locs ls hp hP hD hS hl
  unfold ws_X10_next_28 at hp
  refine lv_iload_n hx hb aWH.2.1 rfl (lv_at hl 3 rfl) ?_
  refine lv_aload_n hx hb aWH.2.2.1 rfl (lv_at hl 0 rfl) ?_
  refine va_get (D := (dC, dI)) (ci := 10) (v := .int aG) (C := zX) (T := aBe) (N := 51) hx hb hts aAt hown hK hP 0 rfl rfl 6 (lbz rfl) (hts _ q_666) (fun _ h9 => h9) rfl aWH.2.2.2.1 ?_
  refine lv_icmp_ge (tgt := 77) hx hb aWH.2.2.2.2.1 (by decide) (fun hc => ?_) (fun hc => ?_)
  · have hp := hp.1 hc
    refine lv_iload_n hx hb aWI.2.2.2.2.2.2.2.2.2.2.2.2.2.2.1 rfl (lv_at hl 2 rfl) ?_
    refine lv_if_ge (tgt := 84) hx hb aWI.2.2.2.2.2.2.2.2.2.2.2.2.2.2.2 (by decide) (fun hc => ?_) (fun hc => ?_)
    · have hp := hp.1 hc
      refine lv_aload_n hx hb aWJ.2.2.1 rfl (lv_at hl 0 rfl) ?_
      refine lv_iconst (v := 0) hx hb aWJ.2.2.2.1 aCi ?_
      refine va_put (D := (dC, dI)) (ci := 10) (v := .int 0) (ty := .int) (C := zX) (T := aBe) (N := 51) hx hb hts aAt aD2 aAa aEC hown hK hP hD hS 0 rfl rfl 13 (lbz rfl) (hts _ q_847) (fun _ h9 => h9) rfl (aAa 13 (lbz rfl)) rfl rfl (lbz rfl) aWJ.2.2.2.2.1 (fun H locs hP hD hS => ?_)
      have hPD := PDw (ws' := (aH0 cI cC cZ cB cJ a_m nY sJ eG iY lY jR jW jZ jO oQ bR aY jQ gY iJ mQ lJ jA bG mK jB mW mJ eJ dG bT aG jC 0 bY jD mLn oF rP dQ aJ aB bW bZ aR aE bI aW bU fJ dO bM bQ bO jY oX qG m_x gR pW qR nG oO pJ sW sH)) hP hD rfl
      have hP := hPD.1
      have hD := hPD.2
      refine lv_aload_n hx hb aWJ.2.2.2.2.2.1 rfl (lv_at hl 0 rfl) ?_
      refine lv_aload_n hx hb aWJ.2.2.2.2.2.2.1 rfl (lv_at hl 0 rfl) ?_
      refine lv_iload_n hx hb aWJ.2.2.2.2.2.2.2.1 rfl (lv_at hl 1 rfl) ?_
      refine lv_iconst (v := 1) hx hb aWJ.2.2.2.2.2.2.2.2.1 aDx ?_
      refine lv_iload_n hx hb aWJ.2.2.2.2.2.2.2.2.2.1 rfl (lv_at hl 2 rfl) ?_
      refine lv_ishl hx hb aWJ.2.2.2.2.2.2.2.2.2.2.1 ?_
      refine lv_ior hx hb aWJ.2.2.2.2.2.2.2.2.2.2.2.1 ?_
      refine lv_topi (fun v_5 aJD => ?_)
      have hp := hp v_5 aJD
      have hm := mgk (wc := (aYD cI cC cZ cB cJ a_m nY sJ eG iY lY jR jW jZ jO oQ bR aY jQ gY iJ mQ lJ jA bG mK jB mW mJ eJ dG bT aG jC 0 bY jD mLn oF rP dQ aJ aB bW bZ aR aE bI aW bU fJ dO bM bQ bO jY oX qG pW sH)) hP mk_260 11 rfl rfl rfl
      refine yW hP hD hS hA (yS mk_260) (aAi mk_260) hm.1 hm.2 (aAk _) (zW _) (zF (As := [.int v_5]) (rest := [.ref a_m]) C0 hP hD hS (yS mk_260) hm.1 (aAl _) 0 10 rfl rfl (c_X10_leftBy l dC dI cI cC cZ cB cJ a_m nY sJ eG iY lY jR jW jZ jO oQ bR aY jQ gY iJ mQ lJ jA bG mK jB mW mJ eJ dG H.size v_5 bT aG jC 0 bY jD mLn oF rP dQ aJ aB bW bZ aR aE bI aW bU fJ dO bM bQ bO jY oX qG pW sH _ hp) q_906 q_909 q_907 q_908 aBL h_X10_leftBy rfl rfl ⟨lbz rfl, lbz rfl⟩ rfl rfl hl.1 rfl (lv_room (lbz rfl)) aWJ.2.2.2.2.2.2.2.2.2.2.2.2.1 ⟨Nat.zero_le _, Nat.zero_le _⟩) (fun r_6 u H locs hp hP hD hS => ?_)
      have hPD := PDm (ws' := (aH0 cI cC cZ cB cJ a_m nY sJ eG iY lY jR jW jZ jO oQ bR aY jQ gY iJ mQ lJ jA bG mK jB mW mJ eJ dG bT aG jC 0 bY jD mLn oF rP dQ aJ aB bW bZ aR aE bI aW bU fJ dO bM bQ bO jY oX qG m_x gR pW qR nG oO pJ sW sH)) hP hD 11 rfl rfl rfl
      have hP := hPD.1
      have hD := hPD.2
      have hm := mgk (wc := (aD0 cI cC cZ cB cJ a_m nY sJ eG iY lY jR jW jZ jO oQ bR aY jQ gY iJ mQ lJ jA bG mK jB mW mJ eJ dG bT aG jC 0 bY jD mLn oF rP dQ aJ aB bW bZ aR aE bI aW bU fJ dO bM bQ bO jY oX sW)) hP mk_258 11 rfl rfl rfl
      refine aBn hP hD hS hA (yS mk_258) (aAi mk_258) hm.1 hm.2 (aAk _) (zW _) (zF (As := [.int r_6]) (rest := []) C0 hP hD hS (yS mk_258) hm.1 (aAl _) 0 10 rfl rfl (aGE l dC dI cI cC cZ cB cJ a_m nY sJ eG iY lY jR jW jZ jO oQ bR aY jQ gY iJ mQ lJ jA bG mK jB mW mJ eJ dG H.size r_6 bT aG jC 0 bY jD mLn oF rP dQ aJ aB bW bZ aR aE bI aW bU fJ dO bM bQ bO jY oX sW _ hp) q_849 q_852 q_850 q_851 aBL aGF rfl rfl ⟨lbz rfl, lbz rfl⟩ rfl rfl hl.1 rfl (lv_room (lbz rfl)) aWJ.2.2.2.2.2.2.2.2.2.2.2.2.2.1 ⟨Nat.zero_le _, Nat.zero_le _⟩) (fun u H locs hp hP hD hS => ?_)
      obtain ⟨aOp, m_row_8⟩ := u
      have hPD := PDm (ws' := (aH0 cI cC cZ cB cJ a_m nY sJ eG iY lY jR jW jZ jO oQ bR aY jQ gY iJ mQ lJ jA bG mK jB mW mJ eJ dG bT aG jC aOp bY jD mLn oF rP dQ aJ aB bW bZ aR aE bI aW bU fJ dO bM bQ bO jY oX qG m_x gR pW qR nG oO pJ m_row_8 sH)) hP hD 11 rfl rfl rfl
      have hP := hPD.1
      have hD := hPD.2
      refine lv_aload_n hx hb aWJ.2.2.2.2.2.2.2.2.2.2.2.2.2.2.1 rfl (lv_at hl 0 rfl) ?_
      refine lv_aload_n hx hb aWJ.2.2.2.2.2.2.2.2.2.2.2.2.2.2.2 rfl (lv_at hl 0 rfl) ?_
      refine lv_iload_n hx hb eX10_next_104.1 rfl (lv_at hl 1 rfl) ?_
      have hm := mgk (wc := (aYD cI cC cZ cB cJ a_m nY sJ eG iY lY jR jW jZ jO oQ bR aY jQ gY iJ mQ lJ jA bG mK jB mW mJ eJ dG bT aG jC aOp bY jD mLn oF rP dQ aJ aB bW bZ aR aE bI aW bU fJ dO bM bQ bO jY oX qG pW sH)) hP mk_260 11 rfl rfl rfl
      refine yW hP hD hS hA (yS mk_260) (aAi mk_260) hm.1 hm.2 (aAk _) (zW _) (zF (As := [.int x1]) (rest := [.ref a_m]) C0 hP hD hS (yS mk_260) hm.1 (aAl _) 0 10 rfl rfl (c_X10_leftBy l dC dI cI cC cZ cB cJ a_m nY sJ eG iY lY jR jW jZ jO oQ bR aY jQ gY iJ mQ lJ jA bG mK jB mW mJ eJ dG H.size x1 bT aG jC aOp bY jD mLn oF rP dQ aJ aB bW bZ aR aE bI aW bU fJ dO bM bQ bO jY oX qG pW sH _ hp) q_906 q_909 q_907 q_908 aBL h_X10_leftBy rfl rfl ⟨lbz rfl, lbz rfl⟩ rfl rfl hl.1 rfl (lv_room (lbz rfl)) eX10_next_104.2.1 ⟨Nat.zero_le _, Nat.zero_le _⟩) (fun r_9 u H locs hp hP hD hS => ?_)
      have hPD := PDm (ws' := (aH0 cI cC cZ cB cJ a_m nY sJ eG iY lY jR jW jZ jO oQ bR aY jQ gY iJ mQ lJ jA bG mK jB mW mJ eJ dG bT aG jC aOp bY jD mLn oF rP dQ aJ aB bW bZ aR aE bI aW bU fJ dO bM bQ bO jY oX qG m_x gR pW qR nG oO pJ m_row_8 sH)) hP hD 11 rfl rfl rfl
      have hP := hPD.1
      have hD := hPD.2
      have hm := mgk (wc := (aD0 cI cC cZ cB cJ a_m nY sJ eG iY lY jR jW jZ jO oQ bR aY jQ gY iJ mQ lJ jA bG mK jB mW mJ eJ dG bT aG jC aOp bY jD mLn oF rP dQ aJ aB bW bZ aR aE bI aW bU fJ dO bM bQ bO jY oX m_row_8)) hP mk_258 11 rfl rfl rfl
      refine aBn hP hD hS hA (yS mk_258) (aAi mk_258) hm.1 hm.2 (aAk _) (zW _) (zF (As := [.int r_9]) (rest := []) C0 hP hD hS (yS mk_258) hm.1 (aAl _) 0 10 rfl rfl (aGE l dC dI cI cC cZ cB cJ a_m nY sJ eG iY lY jR jW jZ jO oQ bR aY jQ gY iJ mQ lJ jA bG mK jB mW mJ eJ dG H.size r_9 bT aG jC aOp bY jD mLn oF rP dQ aJ aB bW bZ aR aE bI aW bU fJ dO bM bQ bO jY oX m_row_8 _ hp) q_849 q_852 q_850 q_851 aBL aGF rfl rfl ⟨lbz rfl, lbz rfl⟩ rfl rfl hl.1 rfl (lv_room (lbz rfl)) eX10_next_104.2.2.1 ⟨Nat.zero_le _, Nat.zero_le _⟩) (fun u H locs hp hP hD hS => ?_)
      obtain ⟨aDZ, aHj⟩ := u
      have hPD := PDm (ws' := (aH0 cI cC cZ cB cJ a_m nY sJ eG iY lY jR jW jZ jO oQ bR aY jQ gY iJ mQ lJ jA bG mK jB mW mJ eJ dG bT aG jC aDZ bY jD mLn oF rP dQ aJ aB bW bZ aR aE bI aW bU fJ dO bM bQ bO jY oX qG m_x gR pW qR nG oO pJ aHj sH)) hP hD 11 rfl rfl rfl
      have hP := hPD.1
      have hD := hPD.2
      refine lv_iload_n hx hb eX10_next_104.2.2.2.1 rfl (lv_at hl 2 rfl) ?_
      exact W.iret (v := x2) hx hb hr (fun t ht hW => ⟨⟨x2, (aDZ, bY, dO, aHj, sH), rfl, hp, by rw [ht]; exact hP, va_K.moved hW.alike hK, hD⟩, hS.F ht⟩) hS.2.2 eX10_next_104.2.2.2.2
    · have hp := hp.2 hc
      refine lv_bipush (v := (-2)) hx hb aWJ.1 bp_m2 ?_
      exact W.iret (v := (-2)) hx hb hr (fun t ht hW => ⟨⟨(-2), (bL, bY, dO, sW, sH), rfl, hp, by rw [ht]; exact hP, va_K.moved hW.alike hK, hD⟩, hS.F ht⟩) hS.2.2 aWJ.2.1
  · have hp := hp.2 hc
    refine lv_iload_n hx hb aWH.2.2.2.2.2.1 rfl (lv_at hl 1 rfl) ?_
    refine lv_iload_n hx hb aWH.2.2.2.2.2.2.1 rfl (lv_at hl 3 rfl) ?_
    have hm := mgk (wc := (aLW cI cC cZ cB cJ)) hP mk_261 11 rfl rfl rfl
    refine yW hP hD hS hA (yS mk_261) (aAi mk_261) hm.1 hm.2 (aAk _) (zW _) (aDn (As := [.int x1, .int x3]) (rest := []) C0 hP hD hS (yS mk_261) hm.1 (aAl _) (aUP l dC dI cI cC cZ cB cJ H.size x1 x3 _ hp) q_734 q_736 q_735 aBL aUT rfl rfl ⟨lbz rfl, lbz rfl⟩ rfl rfl hl.1 rfl (lv_room (lbz rfl)) aWH.2.2.2.2.2.2.2.1 ⟨Nat.zero_le _, Nat.zero_le _⟩) (fun r_12 u H locs hp hP hD hS => ?_)
    have hPD := PDm (ws' := (aH0 cI cC cZ cB cJ a_m nY sJ eG iY lY jR jW jZ jO oQ bR aY jQ gY iJ mQ lJ jA bG mK jB mW mJ eJ dG bT aG jC bL bY jD mLn oF rP dQ aJ aB bW bZ aR aE bI aW bU fJ dO bM bQ bO jY oX qG m_x gR pW qR nG oO pJ sW sH)) hP hD 11 rfl rfl rfl
    have hP := hPD.1
    have hD := hPD.2
    refine lv_if_ne (tgt := 71) hx hb aWH.2.2.2.2.2.2.2.2.1 (by decide) (fun hc => ?_) (fun hc => ?_)
    · have hp := hp.1 hc
      exact ks_X10_next_71 C0 hKn x1 x2 x3 bL bY dO sW sH H locs ls hp hP hD hS (lv_sub hl [0, 1, 2, 3] rfl)
    · have hp := hp.2 hc
      refine lv_iload_n hx hb aWH.2.2.2.2.2.2.2.2.2.1 rfl (lv_at hl 2 rfl) ?_
      refine lv_if_lt (tgt := 69) hx hb aWH.2.2.2.2.2.2.2.2.2.2.1 (by decide) (fun hc => ?_) (fun hc => ?_)
      · have hp := hp.1 hc
        exact ks_X10_next_69 C0 hKn x1 x3 bL bY dO sW sH H locs ls hp hP hD hS (lv_sub hl [0, 1, 3] rfl)
      · have hp := hp.2 hc
        refine lv_aload_n hx hb aWH.2.2.2.2.2.2.2.2.2.2.2.1 rfl (lv_at hl 0 rfl) ?_
        refine lv_iload_n hx hb aWH.2.2.2.2.2.2.2.2.2.2.2.2.1 rfl (lv_at hl 1 rfl) ?_
        refine lv_iconst (v := 1) hx hb aWH.2.2.2.2.2.2.2.2.2.2.2.2.2.1 aDx ?_
        refine lv_iload_n hx hb aWH.2.2.2.2.2.2.2.2.2.2.2.2.2.2.1 rfl (lv_at hl 3 rfl) ?_
        refine lv_ishl hx hb aWH.2.2.2.2.2.2.2.2.2.2.2.2.2.2.2 ?_
        refine lv_ior hx hb aWI.1 ?_
        refine lv_topi (fun aGC ev_14 => ?_)
        have hp := hp aGC ev_14
        have hm := mgk (wc := (aYD cI cC cZ cB cJ a_m nY sJ eG iY lY jR jW jZ jO oQ bR aY jQ gY iJ mQ lJ jA bG mK jB mW mJ eJ dG bT aG jC bL bY jD mLn oF rP dQ aJ aB bW bZ aR aE bI aW bU fJ dO bM bQ bO jY oX qG pW sH)) hP mk_260 11 rfl rfl rfl
        refine yW hP hD hS hA (yS mk_260) (aAi mk_260) hm.1 hm.2 (aAk _) (zW _) (zF (As := [.int aGC]) (rest := []) C0 hP hD hS (yS mk_260) hm.1 (aAl _) 0 10 rfl rfl (c_X10_leftBy l dC dI cI cC cZ cB cJ a_m nY sJ eG iY lY jR jW jZ jO oQ bR aY jQ gY iJ mQ lJ jA bG mK jB mW mJ eJ dG H.size aGC bT aG jC bL bY jD mLn oF rP dQ aJ aB bW bZ aR aE bI aW bU fJ dO bM bQ bO jY oX qG pW sH _ hp) q_906 q_909 q_907 q_908 aBL h_X10_leftBy rfl rfl ⟨lbz rfl, lbz rfl⟩ rfl rfl hl.1 rfl (lv_room (lbz rfl)) aWI.2.1 ⟨Nat.zero_le _, Nat.zero_le _⟩) (fun r_15 u H locs hp hP hD hS => ?_)
        have hPD := PDm (ws' := (aH0 cI cC cZ cB cJ a_m nY sJ eG iY lY jR jW jZ jO oQ bR aY jQ gY iJ mQ lJ jA bG mK jB mW mJ eJ dG bT aG jC bL bY jD mLn oF rP dQ aJ aB bW bZ aR aE bI aW bU fJ dO bM bQ bO jY oX qG m_x gR pW qR nG oO pJ sW sH)) hP hD 11 rfl rfl rfl
        have hP := hPD.1
        have hD := hPD.2
        refine lv_aload_n hx hb aWI.2.2.1 rfl (lv_at hl 0 rfl) ?_
        refine lv_iload_n hx hb aWI.2.2.2.1 rfl (lv_at hl 1 rfl) ?_
        refine lv_iconst (v := 1) hx hb aWI.2.2.2.2.1 aDx ?_
        refine lv_iload_n hx hb aWI.2.2.2.2.2.1 rfl (lv_at hl 2 rfl) ?_
        refine lv_ishl hx hb aWI.2.2.2.2.2.2.1 ?_
        refine lv_ior hx hb aWI.2.2.2.2.2.2.2.1 ?_
        refine lv_topi (fun aHb ev_16 => ?_)
        have hp := hp aHb ev_16
        have hm := mgk (wc := (aYD cI cC cZ cB cJ a_m nY sJ eG iY lY jR jW jZ jO oQ bR aY jQ gY iJ mQ lJ jA bG mK jB mW mJ eJ dG bT aG jC bL bY jD mLn oF rP dQ aJ aB bW bZ aR aE bI aW bU fJ dO bM bQ bO jY oX qG pW sH)) hP mk_260 11 rfl rfl rfl
        refine yW hP hD hS hA (yS mk_260) (aAi mk_260) hm.1 hm.2 (aAk _) (zW _) (zF (As := [.int aHb]) (rest := [.int r_15]) C0 hP hD hS (yS mk_260) hm.1 (aAl _) 0 10 rfl rfl (c_X10_leftBy l dC dI cI cC cZ cB cJ a_m nY sJ eG iY lY jR jW jZ jO oQ bR aY jQ gY iJ mQ lJ jA bG mK jB mW mJ eJ dG H.size aHb bT aG jC bL bY jD mLn oF rP dQ aJ aB bW bZ aR aE bI aW bU fJ dO bM bQ bO jY oX qG pW sH _ hp) q_906 q_909 q_907 q_908 aBL h_X10_leftBy rfl rfl ⟨lbz rfl, lbz rfl⟩ rfl rfl hl.1 rfl (lv_room (lbz rfl)) aWI.2.2.2.2.2.2.2.2.1 ⟨Nat.zero_le _, Nat.zero_le _⟩) (fun r_17 u H locs hp hP hD hS => ?_)
        have hPD := PDm (ws' := (aH0 cI cC cZ cB cJ a_m nY sJ eG iY lY jR jW jZ jO oQ bR aY jQ gY iJ mQ lJ jA bG mK jB mW mJ eJ dG bT aG jC bL bY jD mLn oF rP dQ aJ aB bW bZ aR aE bI aW bU fJ dO bM bQ bO jY oX qG m_x gR pW qR nG oO pJ sW sH)) hP hD 11 rfl rfl rfl
        have hP := hPD.1
        have hD := hPD.2
        refine lv_icmp_ge (tgt := 71) hx hb aWI.2.2.2.2.2.2.2.2.2.1 (by decide) (fun hc => ?_) (fun hc => ?_)
        · have hp := hp.1 hc
          exact ks_X10_next_71 C0 hKn x1 x2 x3 bL bY dO sW sH H locs ls hp hP hD hS (lv_sub hl [0, 1, 2, 3] rfl)
        · have hp := hp.2 hc
          exact ks_X10_next_69 C0 hKn x1 x3 bL bY dO sW sH H locs ls hp hP hD hS (lv_sub hl [0, 1, 3] rfl)
set_option maxHeartbeats 4000000 in
set_option maxRecDepth 100000 in
theorem kb_X10_next_28 (C0 : gc aDf (some .int) 4 zX (dC, dI) (tyl cI cC cZ cB cJ) A p s m args meth c) : ∀ (n : Nat), ∀ (x1 x2 x3 bL bY dO : Int32) (sW sH : Nat -> Int32) (H : Heap) (locs : List Loc) (ls : Array Slot), (wb_X10_next_28 post bT aG qG m_x gR pW qR nG oO pJ n) x1 x2 x3 bL bY dO sW sH -> va_P (dC, dI) classes (aH0 cI cC cZ cB cJ a_m nY sJ eG iY lY jR jW jZ jO oQ bR aY jQ gY iJ mQ lJ jA bG mK jB mW mJ eJ dG bT aG jC bL bY jD mLn oF rP dQ aJ aB bW bZ aR aE bI aW bU fJ dO bM bQ bO jY oX qG m_x gR pW qR nG oO pJ sW sH) H -> va_D A (aH0 cI cC cZ cB cJ a_m nY sJ eG iY lY jR jW jZ jO oQ bR aY jQ gY iJ mQ lJ jA bG mK jB mW mJ eJ dG bT aG jC bL bY jD mLn oF rP dQ aJ aB bW bZ aR aE bI aW bU fJ dO bM bQ bO jY oX qG m_x gR pW qR nG oO pJ sW sH) -> va_S A s.heap H locs -> lv_has ls 4 [(0, .ref a_m), (1, .int x1), (2, .int x2), (3, .int x3)] -> W p l e rm_X10_next s m args below meth c H locs 0 0 (MQ below (q_X10_next dC dI cI cC cZ cB cJ A a_m nY sJ eG iY lY jR jW jZ jO oQ bR aY jQ gY iJ mQ lJ jA bG mK jB mW mJ eJ dG bT aG jC jD mLn oF rP dQ aJ aB bW bZ aR aE bI aW bU fJ bM bQ bO jY oX qG m_x gR pW qR nG oO pJ post) args s 0 0 A) (F0 m 28 ls []) := by
  intro n
  induction n with
  | zero =>
    intro x1 x2 x3 bL bY dO sW sH H locs ls hp
    exact False.elim hp
  | succ n ih =>
    intro x1 x2 x3 bL bY dO sW sH H locs ls hp
    exact ks_X10_next_28 C0 ih x1 x2 x3 bL bY dO sW sH H locs ls hp
end S_X10_next
def wp_X10_next (post : Int32 -> Int32 -> Int32 -> Int32 -> (Nat -> Int32) -> (Nat -> Int32) -> Prop) (p0 bT aG bL bY dO : Int32) (qG m_x gR pW qR nG oO pJ sW sH : Nat -> Int32) : Prop := aGu (fun r_1 => aJY (fun r_2 => (¬ r_2 = 0 -> aJm (fun aC5 aF5 => ∃ n : Nat, wb_X10_next_28 post bT aG qG m_x gR pW qR nG oO pJ n p0 (-2) 0 bL 0 aC5 sW aF5) bT aG dO qG m_x gR qR nG oO pJ sH) /\ (r_2 = 0 -> post (-1) bL 0 dO sW sH)) p0 0 r_1) aG
set_option maxHeartbeats 4000000 in
set_option maxRecDepth 100000 in
theorem c_X10_next (l : Launch) (dC : Nat -> ClassId) (dI : Nat -> Nat -> Nat) (cI cC cZ cB cJ : ClassId) (a_m nY sJ eG iY lY jR jW jZ jO oQ bR aY jQ gY iJ mQ lJ jA bG mK jB mW mJ eJ dG sz : Nat) (p0 bT aG jC bL bY : Int32) (jD : Nat) (mLn oF rP dQ aJ aB bW bZ aR aE bI aW bU fJ dO bM bQ bO jY oX : Int32) (qG m_x gR pW qR nG oO pJ sW sH : Nat -> Int32) (post : Int32 -> Int32 -> Int32 -> Int32 -> (Nat -> Int32) -> (Nat -> Int32) -> Prop) (hw : wp_X10_next post p0 bT aG bL bY dO qG m_x gR pW qR nG oO pJ sW sH) : Met l yX10_next (gw yX10_next aDf 4 (some .int)) rm_X10_next (va_Pc [.ref a_m, .int p0] (gPre (dC, dI) (tyl cI cC cZ cB cJ) (aH0 cI cC cZ cB cJ a_m nY sJ eG iY lY jR jW jZ jO oQ bR aY jQ gY iJ mQ lJ jA bG mK jB mW mJ eJ dG bT aG jC bL bY jD mLn oF rP dQ aJ aB bW bZ aR aE bI aW bU fJ dO bM bQ bO jY oX qG m_x gR pW qR nG oO pJ sW sH) sz)) (q_X10_next dC dI cI cC cZ cB cJ (va_A (aH0 cI cC cZ cB cJ a_m nY sJ eG iY lY jR jW jZ jO oQ bR aY jQ gY iJ mQ lJ jA bG mK jB mW mJ eJ dG bT aG jC bL bY jD mLn oF rP dQ aJ aB bW bZ aR aE bI aW bU fJ dO bM bQ bO jY oX qG m_x gR pW qR nG oO pJ sW sH) sz) a_m nY sJ eG iY lY jR jW jZ jO oQ bR aY jQ gY iJ mQ lJ jA bG mK jB mW mJ eJ dG bT aG jC jD mLn oF rP dQ aJ aB bW bZ aR aE bI aW bU fJ bM bQ bO jY oX qG m_x gR pW qR nG oO pJ post) 0 0 (va_A (aH0 cI cC cZ cB cJ a_m nY sJ eG iY lY jR jW jZ jO oQ bR aY jQ gY iJ mQ lJ jA bG mK jB mW mJ eJ dG bT aG jC bL bY jD mLn oF rP dQ aJ aB bW bZ aR aE bI aW bU fJ dO bM bQ bO jY oX qG m_x gR pW qR nG oO pJ sW sH) sz) := by
  refine aBJ (own := zX) (dC, dI) (tyl cI cC cZ cB cJ) (aH0 cI cC cZ cB cJ a_m nY sJ eG iY lY jR jW jZ jO oQ bR aY jQ gY iJ mQ lJ jA bG mK jB mW mJ eJ dG bT aG jC bL bY jD mLn oF rP dQ aJ aB bW bZ aR aE bI aW bU fJ dO bM bQ bO jY oX qG m_x gR pW qR nG oO pJ sW sH) sz [.ref a_m, .int p0] (fun A => q_X10_next dC dI cI cC cZ cB cJ A a_m nY sJ eG iY lY jR jW jZ jO oQ bR aY jQ gY iJ mQ lJ jA bG mK jB mW mJ eJ dG bT aG jC jD mLn oF rP dQ aJ aB bW bZ aR aE bI aW bU fJ bM bQ bO jY oX qG m_x gR pW qR nG oO pJ post) aFY rfl (lbz rfl) ?_
  intro p e s m args below meth c A H locs ls C0 hP hD hS hl
  have hl : lv_has ls 4 [(0, .ref a_m), (1, .int p0)] := hl
  obtain ⟨hx, hb, hr, hml, hown, hts, hlocks, hA, hK, hN, tL, tM, hZL, hTL, hZM, hTM, hZX⟩ := id C0
  have hp := hw
  unfold wp_X10_next at hp
  refine lv_aload_n hx hb bAJ.1 rfl (lv_at hl 0 rfl) ?_
  refine lv_iconst (v := 0) hx hb bAJ.2.1 aCi ?_
  refine va_put (D := (dC, dI)) (ci := 10) (v := .int 0) (ty := .int) (C := zX) (T := aBe) (N := 51) hx hb hts aAt aD2 aAa aEC hown hK hP hD hS 0 rfl rfl 14 (lbz rfl) (hts _ q_638) (fun _ h9 => h9) rfl (aAa 14 (lbz rfl)) rfl rfl (lbz rfl) bAJ.2.2.1 (fun H locs hP hD hS => ?_)
  have hPD := PDw (ws' := (aH0 cI cC cZ cB cJ a_m nY sJ eG iY lY jR jW jZ jO oQ bR aY jQ gY iJ mQ lJ jA bG mK jB mW mJ eJ dG bT aG jC bL 0 jD mLn oF rP dQ aJ aB bW bZ aR aE bI aW bU fJ dO bM bQ bO jY oX qG m_x gR pW qR nG oO pJ sW sH)) hP hD rfl
  have hP := hPD.1
  have hD := hPD.2
  refine lv_iload_n hx hb bAJ.2.2.2.1 rfl (lv_at hl 1 rfl) ?_
  refine lv_iconst (v := 0) hx hb bAJ.2.2.2.2.1 aCi ?_
  refine lv_aload_n hx hb bAJ.2.2.2.2.2.1 rfl (lv_at hl 0 rfl) ?_
  have hm := mgk (wc := (aGj cI cC cZ cB cJ a_m nY sJ eG iY lY jR jW jZ jO oQ bR aY jQ gY iJ mQ lJ jA bG mK jB mW mJ eJ dG bT aG jC bL 0 jD mLn oF rP dQ aJ aB bW bZ aR aE bI aW bU fJ dO bM bQ bO jY oX)) hP mk_257 11 rfl rfl rfl
  refine yW hP hD hS hA (yS mk_257) (aAi mk_257) hm.1 hm.2 (aAk _) (zW _) (zF (As := []) (rest := [.int 0, .int p0]) C0 hP hD hS (yS mk_257) hm.1 (aAl _) 0 10 rfl rfl (aKY l dC dI cI cC cZ cB cJ a_m nY sJ eG iY lY jR jW jZ jO oQ bR aY jQ gY iJ mQ lJ jA bG mK jB mW mJ eJ dG H.size bT aG jC bL 0 jD mLn oF rP dQ aJ aB bW bZ aR aE bI aW bU fJ dO bM bQ bO jY oX _ hp) q_870 q_873 q_871 q_872 aBL aKa rfl rfl ⟨lbz rfl, lbz rfl⟩ rfl rfl hl.1 rfl (lv_room (lbz rfl)) bAJ.2.2.2.2.2.2.1 ⟨Nat.zero_le _, Nat.zero_le _⟩) (fun r_1 u H locs hp hP hD hS => ?_)
  have hPD := PDm (ws' := (aH0 cI cC cZ cB cJ a_m nY sJ eG iY lY jR jW jZ jO oQ bR aY jQ gY iJ mQ lJ jA bG mK jB mW mJ eJ dG bT aG jC bL 0 jD mLn oF rP dQ aJ aB bW bZ aR aE bI aW bU fJ dO bM bQ bO jY oX qG m_x gR pW qR nG oO pJ sW sH)) hP hD 11 rfl rfl rfl
  have hP := hPD.1
  have hD := hPD.2
  have hm := mgk (wc := (aKW cI cC cZ cB cJ)) hP mk_261 11 rfl rfl rfl
  refine yW hP hD hS hA (yS mk_261) (aAi mk_261) hm.1 hm.2 (aAk _) (zW _) (aDn (As := [.int p0, .int 0, .int r_1]) (rest := []) C0 hP hD hS (yS mk_261) hm.1 (aAl _) (aRu l dC dI cI cC cZ cB cJ H.size p0 0 r_1 _ hp) q_641 q_644 q_643 aBL aRx rfl rfl ⟨lbz rfl, lbz rfl⟩ rfl rfl hl.1 rfl (lv_room (lbz rfl)) bAJ.2.2.2.2.2.2.2.1 ⟨Nat.zero_le _, Nat.zero_le _⟩) (fun r_2 u H locs hp hP hD hS => ?_)
  have hPD := PDm (ws' := (aH0 cI cC cZ cB cJ a_m nY sJ eG iY lY jR jW jZ jO oQ bR aY jQ gY iJ mQ lJ jA bG mK jB mW mJ eJ dG bT aG jC bL 0 jD mLn oF rP dQ aJ aB bW bZ aR aE bI aW bU fJ dO bM bQ bO jY oX qG m_x gR pW qR nG oO pJ sW sH)) hP hD 11 rfl rfl rfl
  have hP := hPD.1
  have hD := hPD.2
  refine lv_if_ne (tgt := 19) hx hb bAJ.2.2.2.2.2.2.2.2.1 (by decide) (fun hc => ?_) (fun hc => ?_)
  · have hp := hp.1 hc
    refine lv_aload_n hx hb bAJ.2.2.2.2.2.2.2.2.2.2.2.1 rfl (lv_at hl 0 rfl) ?_
    have hm := mgk (wc := (aIe cI cC cZ cB cJ a_m nY sJ eG iY lY jR jW jZ jO oQ bR aY jQ gY iJ mQ lJ jA bG mK jB mW mJ eJ dG bT aG jC bL 0 jD mLn oF rP dQ aJ aB bW bZ aR aE bI aW bU fJ dO bM bQ bO jY oX qG m_x gR qR nG oO pJ sH)) hP mk_262 11 rfl rfl rfl
    refine aBn hP hD hS hA (yS mk_262) (aAi mk_262) hm.1 hm.2 (aAk _) (zW _) (zF (As := []) (rest := []) C0 hP hD hS (yS mk_262) hm.1 (aAl _) 0 10 rfl rfl (aPr l dC dI cI cC cZ cB cJ a_m nY sJ eG iY lY jR jW jZ jO oQ bR aY jQ gY iJ mQ lJ jA bG mK jB mW mJ eJ dG H.size bT aG jC bL 0 jD mLn oF rP dQ aJ aB bW bZ aR aE bI aW bU fJ dO bM bQ bO jY oX qG m_x gR qR nG oO pJ sH _ hp) q_883 q_886 q_884 q_885 aBL aQ3 rfl rfl ⟨lbz rfl, lbz rfl⟩ rfl rfl hl.1 rfl (lv_room (lbz rfl)) bAJ.2.2.2.2.2.2.2.2.2.2.2.2.1 ⟨Nat.zero_le _, Nat.zero_le _⟩) (fun u H locs hp hP hD hS => ?_)
    obtain ⟨aC5, aF5⟩ := u
    have hPD := PDm (ws' := (aH0 cI cC cZ cB cJ a_m nY sJ eG iY lY jR jW jZ jO oQ bR aY jQ gY iJ mQ lJ jA bG mK jB mW mJ eJ dG bT aG jC bL 0 jD mLn oF rP dQ aJ aB bW bZ aR aE bI aW bU fJ aC5 bM bQ bO jY oX qG m_x gR pW qR nG oO pJ sW aF5)) hP hD 11 rfl rfl rfl
    have hP := hPD.1
    have hD := hPD.2
    refine lv_bipush (v := (-2)) hx hb bAJ.2.2.2.2.2.2.2.2.2.2.2.2.2.1 bp_m2 ?_
    refine lv_istore_n (lv' := [(2, .int (-2)), (0, .ref a_m), (1, .int p0)]) hx hb bAJ.2.2.2.2.2.2.2.2.2.2.2.2.2.2.1 rfl hl (by decide) rfl (fun ls hl => ?_)
    refine lv_iconst (v := 0) hx hb bAJ.2.2.2.2.2.2.2.2.2.2.2.2.2.2.2 aCi ?_
    refine lv_istore_n (lv' := [(3, .int 0), (2, .int (-2)), (0, .ref a_m), (1, .int p0)]) hx hb aWH.1 rfl hl (by decide) rfl (fun ls hl => ?_)
    obtain ⟨n9, hp⟩ := hp
    exact kb_X10_next_28 C0 n9 p0 (-2) 0 bL 0 aC5 sW aF5 H locs ls hp hP hD hS (lv_sub hl [2, 3, 1, 0] rfl)
  · have hp := hp.2 hc
    refine lv_iconst (v := (-1)) hx hb bAJ.2.2.2.2.2.2.2.2.2.1 aEJ ?_
    exact W.iret (v := (-1)) hx hb hr (fun t ht hW => ⟨⟨(-1), (bL, 0, dO, sW, sH), rfl, hp, by rw [ht]; exact hP, va_K.moved hW.alike hK, hD⟩, hS.F ht⟩) hS.2.2 bAJ.2.2.2.2.2.2.2.2.2.2.1
abbrev aYC (cI cC cZ cB cJ : ClassId) (a_m nY sJ eG iY lY jR jW jZ jO oQ bR aY jQ gY iJ mQ lJ jA bG mK jB mW mJ eJ dG : Nat) (bT aG jC bL bY : Int32) (jD : Nat) (mLn oF rP dQ aJ aB bW bZ aR aE bI aW bU fJ dO bM bQ bO jY oX : Int32) (uE : Nat -> Int32) : va_W := [(a_m, .inr (10, [.ref nY, .int bT, .ref sJ, .ref eG, .ref iY, .ref lY, .int aG, .ref jR, .ref jW, .ref jZ, .ref jO, .int jC, .ref oQ, .int bL, .int bY, rdv jO jQ jD, .int mLn, .int oF, .int rP, .int dQ, .ref bR, .ref aY, .int aJ, .int aB, .ref jQ, .int bW, .int bZ, .int aR, .int aE, .int bI, .int aW, .ref gY, .int bU, .ref iJ, .ref mQ, .int fJ, .ref lJ, .int dO, .ref jA, .ref bG, .int bM, .int bQ, .int bO, .ref mK, .ref jB, .ref mW, .int jY, .int oX, .ref mJ, .ref eJ, .ref dG])), (jA, .inl (cI, 2304, .inl uE))]
abbrev q_X10_leastMoves (dC : Nat -> ClassId) (dI : Nat -> Nat -> Nat) (cI cC cZ cB cJ : ClassId) (A : Nat -> Prop) (a_m nY sJ eG iY lY jR jW jZ jO oQ bR aY jQ gY iJ mQ lJ jA bG mK jB mW mJ eJ dG : Nat) (bT aG jC bL bY : Int32) (jD : Nat) (mLn oF rP dQ aJ aB bW bZ aR aE bI aW bU fJ dO bM bQ bO jY oX : Int32) (uE : Nat -> Int32) (post : Int32 -> Prop) : Array Value -> State -> Outcome -> State -> Prop := va_Qi (fun (r : Int32) (u : Unit) => post r) (fun u t => gB (dC, dI) (tyl cI cC cZ cB cJ) A (aYC cI cC cZ cB cJ a_m nY sJ eG iY lY jR jW jZ jO oQ bR aY jQ gY iJ mQ lJ jA bG mK jB mW mJ eJ dG bT aG jC bL bY jD mLn oF rP dQ aJ aB bW bZ aR aE bI aW bU fJ dO bM bQ bO jY oX uE) t) A
abbrev rm_X10_leastMoves : Room := { frames := 0, cells := 0, slots := 0, locals := 0 }
def wp_X10_leastMoves (post : Int32 -> Prop) (p0 p1 : Int32) (uE : Nat -> Int32) : Prop := ∀ v_1 : Int32, v_1 = p0 <<< (8 &&& 31) -> ∀ v_2 : Int32, v_2 = v_1 + p1 -> vp_in v_2 2304 /\ (post (uE v_2.toNatClampNeg))
set_option maxHeartbeats 4000000 in
set_option maxRecDepth 100000 in
theorem c_X10_leastMoves (l : Launch) (dC : Nat -> ClassId) (dI : Nat -> Nat -> Nat) (cI cC cZ cB cJ : ClassId) (a_m nY sJ eG iY lY jR jW jZ jO oQ bR aY jQ gY iJ mQ lJ jA bG mK jB mW mJ eJ dG sz : Nat) (p0 p1 bT aG jC bL bY : Int32) (jD : Nat) (mLn oF rP dQ aJ aB bW bZ aR aE bI aW bU fJ dO bM bQ bO jY oX : Int32) (uE : Nat -> Int32) (post : Int32 -> Prop) (hw : wp_X10_leastMoves post p0 p1 uE) : Met l aZF (gw aZF aYp 3 (some .int)) rm_X10_leastMoves (va_Pc [.ref a_m, .int p0, .int p1] (gPre (dC, dI) (tyl cI cC cZ cB cJ) (aYC cI cC cZ cB cJ a_m nY sJ eG iY lY jR jW jZ jO oQ bR aY jQ gY iJ mQ lJ jA bG mK jB mW mJ eJ dG bT aG jC bL bY jD mLn oF rP dQ aJ aB bW bZ aR aE bI aW bU fJ dO bM bQ bO jY oX uE) sz)) (q_X10_leastMoves dC dI cI cC cZ cB cJ (va_A (aYC cI cC cZ cB cJ a_m nY sJ eG iY lY jR jW jZ jO oQ bR aY jQ gY iJ mQ lJ jA bG mK jB mW mJ eJ dG bT aG jC bL bY jD mLn oF rP dQ aJ aB bW bZ aR aE bI aW bU fJ dO bM bQ bO jY oX uE) sz) a_m nY sJ eG iY lY jR jW jZ jO oQ bR aY jQ gY iJ mQ lJ jA bG mK jB mW mJ eJ dG bT aG jC bL bY jD mLn oF rP dQ aJ aB bW bZ aR aE bI aW bU fJ dO bM bQ bO jY oX uE post) 0 0 (va_A (aYC cI cC cZ cB cJ a_m nY sJ eG iY lY jR jW jZ jO oQ bR aY jQ gY iJ mQ lJ jA bG mK jB mW mJ eJ dG bT aG jC bL bY jD mLn oF rP dQ aJ aB bW bZ aR aE bI aW bU fJ dO bM bQ bO jY oX uE) sz) := by
  refine aBJ (own := zX) (dC, dI) (tyl cI cC cZ cB cJ) (aYC cI cC cZ cB cJ a_m nY sJ eG iY lY jR jW jZ jO oQ bR aY jQ gY iJ mQ lJ jA bG mK jB mW mJ eJ dG bT aG jC bL bY jD mLn oF rP dQ aJ aB bW bZ aR aE bI aW bU fJ dO bM bQ bO jY oX uE) sz [.ref a_m, .int p0, .int p1] (fun A => q_X10_leastMoves dC dI cI cC cZ cB cJ A a_m nY sJ eG iY lY jR jW jZ jO oQ bR aY jQ gY iJ mQ lJ jA bG mK jB mW mJ eJ dG bT aG jC bL bY jD mLn oF rP dQ aJ aB bW bZ aR aE bI aW bU fJ dO bM bQ bO jY oX uE post) aFY rfl (lbz rfl) ?_
  intro p e s m args below meth c A H locs ls C0 hP hD hS hl
  have hl : lv_has ls 3 [(0, .ref a_m), (1, .int p0), (2, .int p1)] := hl
  obtain ⟨hx, hb, hr, hml, hown, hts, hlocks, hA, hK, hN, tL, tM, hZL, hTL, hZM, hTM, hZX⟩ := id C0
  have hp := hw
  unfold wp_X10_leastMoves at hp
  refine lv_aload_n hx hb bBD.1 rfl (lv_at hl 0 rfl) ?_
  refine va_get (D := (dC, dI)) (ci := 10) (v := .ref jA) (C := zX) (T := aBe) (N := 51) hx hb hts aAt hown hK hP 0 rfl rfl 38 (lbz rfl) (hts _ q_910) (fun _ h9 => h9) rfl bBD.2.1 ?_
  refine lv_iload_n hx hb bBD.2.2.1 rfl (lv_at hl 1 rfl) ?_
  refine lv_bipush (v := 8) hx hb bBD.2.2.2.1 bp_8 ?_
  refine lv_ishl hx hb bBD.2.2.2.2.1 ?_
  refine lv_topi (fun v_1 aFJ => ?_)
  have hp := hp v_1 aFJ
  refine lv_iload_n hx hb bBD.2.2.2.2.2.1 rfl (lv_at hl 2 rfl) ?_
  refine lv_iadd hx hb bBD.2.2.2.2.2.2.1 ?_
  refine lv_topi (fun v_2 aGO => ?_)
  have hp := hp v_2 aGO
  have hin := hp.1
  have hp := hp.2
  refine va_iald hx hb hK hP 1 0 rfl rfl hin bBD.2.2.2.2.2.2.2.1 ?_
  exact W.iret (v := uE v_2.toNatClampNeg) hx hb hr (fun t ht hW => ⟨⟨uE v_2.toNatClampNeg, (), rfl, hp, by rw [ht]; exact hP, va_K.moved hW.alike hK, hD⟩, hS.F ht⟩) hS.2.2 bBD.2.2.2.2.2.2.2.2
abbrev aBr (cI cC cZ cB cJ : ClassId) (a_m nY sJ eG iY lY jR jW jZ jO oQ bR aY jQ gY iJ mQ lJ jA bG mK jB mW mJ eJ dG : Nat) (bT aG jC bL bY : Int32) (jD : Nat) (mLn oF rP dQ aJ aB bW bZ aR aE bI aW bU fJ dO bM bQ bO jY oX : Int32) (nG pJ uE : Nat -> Int32) : va_W := [(a_m, .inr (10, [.ref nY, .int bT, .ref sJ, .ref eG, .ref iY, .ref lY, .int aG, .ref jR, .ref jW, .ref jZ, .ref jO, .int jC, .ref oQ, .int bL, .int bY, rdv jO jQ jD, .int mLn, .int oF, .int rP, .int dQ, .ref bR, .ref aY, .int aJ, .int aB, .ref jQ, .int bW, .int bZ, .int aR, .int aE, .int bI, .int aW, .ref gY, .int bU, .ref iJ, .ref mQ, .int fJ, .ref lJ, .int dO, .ref jA, .ref bG, .int bM, .int bQ, .int bO, .ref mK, .ref jB, .ref mW, .int jY, .int oX, .ref mJ, .ref eJ, .ref dG])), (jR, .inl (cI, 8, .inl nG)), (jZ, .inl (cI, 5, .inl pJ)), (jA, .inl (cI, 2304, .inl uE))]
abbrev aFQ (dC : Nat -> ClassId) (dI : Nat -> Nat -> Nat) (cI cC cZ cB cJ : ClassId) (A : Nat -> Prop) (a_m nY sJ eG iY lY jR jW jZ jO oQ bR aY jQ gY iJ mQ lJ jA bG mK jB mW mJ eJ dG : Nat) (bT aG jC bL bY : Int32) (jD : Nat) (mLn oF rP dQ aJ aB bW bZ aR aE bI aW bU fJ dO bM bQ bO jY oX : Int32) (nG pJ : Nat -> Int32) (post : (Nat -> Int32) -> Prop) : Array Value -> State -> Outcome -> State -> Prop := va_Qv (fun (u : (Nat -> Int32)) => post u) (fun u t => gB (dC, dI) (tyl cI cC cZ cB cJ) A (aBr cI cC cZ cB cJ a_m nY sJ eG iY lY jR jW jZ jO oQ bR aY jQ gY iJ mQ lJ jA bG mK jB mW mJ eJ dG bT aG jC bL bY jD mLn oF rP dQ aJ aB bW bZ aR aE bI aW bU fJ dO bM bQ bO jY oX nG pJ u) t) A
abbrev aE2 : Room := { frames := 2, cells := 0, slots := 0, locals := 43 }
section S_X10_layMoves
variable {p : Program} {l : Launch} {e : Env} {s : State} {m : MethodId} {args : Array Value} {below : List Frame} {meth : Method} {c : Code} {dC : Nat -> ClassId} {dI : Nat -> Nat -> Nat} {cI cC cZ cB cJ : ClassId} {A : Nat -> Prop} {a_m nY sJ eG iY lY jR jW jZ jO oQ bR aY jQ gY iJ mQ lJ jA bG mK jB mW mJ eJ dG : Nat} {bT aG jC bL bY : Int32} {jD : Nat} {mLn oF rP dQ aJ aB bW bZ aR aE bI aW bU fJ dO bM bQ bO jY oX : Int32} {nG pJ : Nat -> Int32} {post : (Nat -> Int32) -> Prop}
def ws_X10_layMoves_131 (post : (Nat -> Int32) -> Prop) (K2 : Int32 -> (Nat -> Int32) -> Prop) (K12 : Int32 -> Int32 -> (Nat -> Int32) -> Prop) (aG : Int32) (nG pJ : Nat -> Int32) (x1 x2 : Int32) (uE : Nat -> Int32) : Prop := ∀ v_5 : Int32, v_5 = x2 + 1 -> K12 x1 v_5 uE
set_option maxHeartbeats 4000000 in
set_option maxRecDepth 100000 in
theorem ks_X10_layMoves_131 (C0 : gc aBu none 5 zX (dC, dI) (tyl cI cC cZ cB cJ) A p s m args meth c) {K2 : Int32 -> (Nat -> Int32) -> Prop} {K12 : Int32 -> Int32 -> (Nat -> Int32) -> Prop} (hK2 : ∀ (x1 : Int32) (uE : Nat -> Int32) (H : Heap) (locs : List Loc) (ls : Array Slot), K2 x1 uE -> va_P (dC, dI) classes (aBr cI cC cZ cB cJ a_m nY sJ eG iY lY jR jW jZ jO oQ bR aY jQ gY iJ mQ lJ jA bG mK jB mW mJ eJ dG bT aG jC bL bY jD mLn oF rP dQ aJ aB bW bZ aR aE bI aW bU fJ dO bM bQ bO jY oX nG pJ uE) H -> va_D A (aBr cI cC cZ cB cJ a_m nY sJ eG iY lY jR jW jZ jO oQ bR aY jQ gY iJ mQ lJ jA bG mK jB mW mJ eJ dG bT aG jC bL bY jD mLn oF rP dQ aJ aB bW bZ aR aE bI aW bU fJ dO bM bQ bO jY oX nG pJ uE) -> va_S A s.heap H locs -> lv_has ls 5 [(0, .ref a_m), (1, .int x1)] -> W p l e aE2 s m args below meth c H locs 0 0 (MQ below (aFQ dC dI cI cC cZ cB cJ A a_m nY sJ eG iY lY jR jW jZ jO oQ bR aY jQ gY iJ mQ lJ jA bG mK jB mW mJ eJ dG bT aG jC bL bY jD mLn oF rP dQ aJ aB bW bZ aR aE bI aW bU fJ dO bM bQ bO jY oX nG pJ post) args s 0 0 A) (F0 m 2 ls [])) (hK12 : ∀ (x1 : Int32) (x2 : Int32) (uE : Nat -> Int32) (H : Heap) (locs : List Loc) (ls : Array Slot), K12 x1 x2 uE -> va_P (dC, dI) classes (aBr cI cC cZ cB cJ a_m nY sJ eG iY lY jR jW jZ jO oQ bR aY jQ gY iJ mQ lJ jA bG mK jB mW mJ eJ dG bT aG jC bL bY jD mLn oF rP dQ aJ aB bW bZ aR aE bI aW bU fJ dO bM bQ bO jY oX nG pJ uE) H -> va_D A (aBr cI cC cZ cB cJ a_m nY sJ eG iY lY jR jW jZ jO oQ bR aY jQ gY iJ mQ lJ jA bG mK jB mW mJ eJ dG bT aG jC bL bY jD mLn oF rP dQ aJ aB bW bZ aR aE bI aW bU fJ dO bM bQ bO jY oX nG pJ uE) -> va_S A s.heap H locs -> lv_has ls 5 [(0, .ref a_m), (1, .int x1), (2, .int x2)] -> W p l e aE2 s m args below meth c H locs 0 0 (MQ below (aFQ dC dI cI cC cZ cB cJ A a_m nY sJ eG iY lY jR jW jZ jO oQ bR aY jQ gY iJ mQ lJ jA bG mK jB mW mJ eJ dG bT aG jC bL bY jD mLn oF rP dQ aJ aB bW bZ aR aE bI aW bU fJ dO bM bQ bO jY oX nG pJ post) args s 0 0 A) (F0 m 12 ls [])) : ∀ (x1 x2 : Int32) (uE : Nat -> Int32) (H : Heap) (locs : List Loc) (ls : Array Slot), (ws_X10_layMoves_131 post K2 K12 aG nG pJ) x1 x2 uE -> va_P (dC, dI) classes (aBr cI cC cZ cB cJ a_m nY sJ eG iY lY jR jW jZ jO oQ bR aY jQ gY iJ mQ lJ jA bG mK jB mW mJ eJ dG bT aG jC bL bY jD mLn oF rP dQ aJ aB bW bZ aR aE bI aW bU fJ dO bM bQ bO jY oX nG pJ uE) H -> va_D A (aBr cI cC cZ cB cJ a_m nY sJ eG iY lY jR jW jZ jO oQ bR aY jQ gY iJ mQ lJ jA bG mK jB mW mJ eJ dG bT aG jC bL bY jD mLn oF rP dQ aJ aB bW bZ aR aE bI aW bU fJ dO bM bQ bO jY oX nG pJ uE) -> va_S A s.heap H locs -> lv_has ls 5 [(0, .ref a_m), (1, .int x1), (2, .int x2)] -> W p l e aE2 s m args below meth c H locs 0 0 (MQ below (aFQ dC dI cI cC cZ cB cJ A a_m nY sJ eG iY lY jR jW jZ jO oQ bR aY jQ gY iJ mQ lJ jA bG mK jB mW mJ eJ dG bT aG jC bL bY jD mLn oF rP dQ aJ aB bW bZ aR aE bI aW bU fJ dO bM bQ bO jY oX nG pJ post) args s 0 0 A) (F0 m 131 ls []) := by
  obtain ⟨hx, hb, hr, hml, hown, hts, hlocks, hA, hK, hN, tL, tM, hZL, hTL, hZM, hTM, hZX⟩ := id C0
  intro x1 x2 uE H locs ls hp hP hD hS hl
  unfold ws_X10_layMoves_131 at hp
  obtain ⟨v_5, aJD⟩ : ∃ y : Int32, y = x2 + 1 := ⟨_, rfl⟩
  refine lv_iinc (v := v_5) (lv' := [(2, .int v_5), (0, .ref a_m), (1, .int x1)]) hx hb aNJ.2.2.2.2.2.2.2.2.2.1 hl (k := 2) rfl (by rw [aJD]; rfl) (by decide) rfl (fun ls hl => ?_)
  have hp := hp v_5 aJD
  refine lv_goto (tgt := 12) hx hb aNJ.2.2.2.2.2.2.2.2.2.2.1 (by decide) ?_
  exact hK12 x1 v_5 uE H locs ls hp hP hD hS (lv_sub hl [1, 2, 0] rfl)
def ws_X10_layMoves_113 (post : (Nat -> Int32) -> Prop) (K2 : Int32 -> (Nat -> Int32) -> Prop) (K12 : Int32 -> Int32 -> (Nat -> Int32) -> Prop) (K58 : Int32 -> Int32 -> Int32 -> Int32 -> (Nat -> Int32) -> Prop) (aG : Int32) (nG pJ : Nat -> Int32) (x1 x2 x3 x4 : Int32) (uE : Nat -> Int32) : Prop := ∀ v_7 : Int32, v_7 = x4 + 1 -> K58 x1 x2 x3 v_7 uE
set_option maxHeartbeats 4000000 in
set_option maxRecDepth 100000 in
theorem ks_X10_layMoves_113 (C0 : gc aBu none 5 zX (dC, dI) (tyl cI cC cZ cB cJ) A p s m args meth c) {K2 : Int32 -> (Nat -> Int32) -> Prop} {K12 : Int32 -> Int32 -> (Nat -> Int32) -> Prop} {K58 : Int32 -> Int32 -> Int32 -> Int32 -> (Nat -> Int32) -> Prop} (hK2 : ∀ (x1 : Int32) (uE : Nat -> Int32) (H : Heap) (locs : List Loc) (ls : Array Slot), K2 x1 uE -> va_P (dC, dI) classes (aBr cI cC cZ cB cJ a_m nY sJ eG iY lY jR jW jZ jO oQ bR aY jQ gY iJ mQ lJ jA bG mK jB mW mJ eJ dG bT aG jC bL bY jD mLn oF rP dQ aJ aB bW bZ aR aE bI aW bU fJ dO bM bQ bO jY oX nG pJ uE) H -> va_D A (aBr cI cC cZ cB cJ a_m nY sJ eG iY lY jR jW jZ jO oQ bR aY jQ gY iJ mQ lJ jA bG mK jB mW mJ eJ dG bT aG jC bL bY jD mLn oF rP dQ aJ aB bW bZ aR aE bI aW bU fJ dO bM bQ bO jY oX nG pJ uE) -> va_S A s.heap H locs -> lv_has ls 5 [(0, .ref a_m), (1, .int x1)] -> W p l e aE2 s m args below meth c H locs 0 0 (MQ below (aFQ dC dI cI cC cZ cB cJ A a_m nY sJ eG iY lY jR jW jZ jO oQ bR aY jQ gY iJ mQ lJ jA bG mK jB mW mJ eJ dG bT aG jC bL bY jD mLn oF rP dQ aJ aB bW bZ aR aE bI aW bU fJ dO bM bQ bO jY oX nG pJ post) args s 0 0 A) (F0 m 2 ls [])) (hK12 : ∀ (x1 : Int32) (x2 : Int32) (uE : Nat -> Int32) (H : Heap) (locs : List Loc) (ls : Array Slot), K12 x1 x2 uE -> va_P (dC, dI) classes (aBr cI cC cZ cB cJ a_m nY sJ eG iY lY jR jW jZ jO oQ bR aY jQ gY iJ mQ lJ jA bG mK jB mW mJ eJ dG bT aG jC bL bY jD mLn oF rP dQ aJ aB bW bZ aR aE bI aW bU fJ dO bM bQ bO jY oX nG pJ uE) H -> va_D A (aBr cI cC cZ cB cJ a_m nY sJ eG iY lY jR jW jZ jO oQ bR aY jQ gY iJ mQ lJ jA bG mK jB mW mJ eJ dG bT aG jC bL bY jD mLn oF rP dQ aJ aB bW bZ aR aE bI aW bU fJ dO bM bQ bO jY oX nG pJ uE) -> va_S A s.heap H locs -> lv_has ls 5 [(0, .ref a_m), (1, .int x1), (2, .int x2)] -> W p l e aE2 s m args below meth c H locs 0 0 (MQ below (aFQ dC dI cI cC cZ cB cJ A a_m nY sJ eG iY lY jR jW jZ jO oQ bR aY jQ gY iJ mQ lJ jA bG mK jB mW mJ eJ dG bT aG jC bL bY jD mLn oF rP dQ aJ aB bW bZ aR aE bI aW bU fJ dO bM bQ bO jY oX nG pJ post) args s 0 0 A) (F0 m 12 ls [])) (hK58 : ∀ (x1 : Int32) (x2 : Int32) (x3 : Int32) (x4 : Int32) (uE : Nat -> Int32) (H : Heap) (locs : List Loc) (ls : Array Slot), K58 x1 x2 x3 x4 uE -> va_P (dC, dI) classes (aBr cI cC cZ cB cJ a_m nY sJ eG iY lY jR jW jZ jO oQ bR aY jQ gY iJ mQ lJ jA bG mK jB mW mJ eJ dG bT aG jC bL bY jD mLn oF rP dQ aJ aB bW bZ aR aE bI aW bU fJ dO bM bQ bO jY oX nG pJ uE) H -> va_D A (aBr cI cC cZ cB cJ a_m nY sJ eG iY lY jR jW jZ jO oQ bR aY jQ gY iJ mQ lJ jA bG mK jB mW mJ eJ dG bT aG jC bL bY jD mLn oF rP dQ aJ aB bW bZ aR aE bI aW bU fJ dO bM bQ bO jY oX nG pJ uE) -> va_S A s.heap H locs -> lv_has ls 5 [(0, .ref a_m), (1, .int x1), (2, .int x2), (3, .int x3), (4, .int x4)] -> W p l e aE2 s m args below meth c H locs 0 0 (MQ below (aFQ dC dI cI cC cZ cB cJ A a_m nY sJ eG iY lY jR jW jZ jO oQ bR aY jQ gY iJ mQ lJ jA bG mK jB mW mJ eJ dG bT aG jC bL bY jD mLn oF rP dQ aJ aB bW bZ aR aE bI aW bU fJ dO bM bQ bO jY oX nG pJ post) args s 0 0 A) (F0 m 58 ls [])) : ∀ (x1 x2 x3 x4 : Int32) (uE : Nat -> Int32) (H : Heap) (locs : List Loc) (ls : Array Slot), (ws_X10_layMoves_113 post K2 K12 K58 aG nG pJ) x1 x2 x3 x4 uE -> va_P (dC, dI) classes (aBr cI cC cZ cB cJ a_m nY sJ eG iY lY jR jW jZ jO oQ bR aY jQ gY iJ mQ lJ jA bG mK jB mW mJ eJ dG bT aG jC bL bY jD mLn oF rP dQ aJ aB bW bZ aR aE bI aW bU fJ dO bM bQ bO jY oX nG pJ uE) H -> va_D A (aBr cI cC cZ cB cJ a_m nY sJ eG iY lY jR jW jZ jO oQ bR aY jQ gY iJ mQ lJ jA bG mK jB mW mJ eJ dG bT aG jC bL bY jD mLn oF rP dQ aJ aB bW bZ aR aE bI aW bU fJ dO bM bQ bO jY oX nG pJ uE) -> va_S A s.heap H locs -> lv_has ls 5 [(0, .ref a_m), (1, .int x1), (2, .int x2), (3, .int x3), (4, .int x4)] -> W p l e aE2 s m args below meth c H locs 0 0 (MQ below (aFQ dC dI cI cC cZ cB cJ A a_m nY sJ eG iY lY jR jW jZ jO oQ bR aY jQ gY iJ mQ lJ jA bG mK jB mW mJ eJ dG bT aG jC bL bY jD mLn oF rP dQ aJ aB bW bZ aR aE bI aW bU fJ dO bM bQ bO jY oX nG pJ post) args s 0 0 A) (F0 m 113 ls []) := by
  obtain ⟨hx, hb, hr, hml, hown, hts, hlocks, hA, hK, hN, tL, tM, hZL, hTL, hZM, hTM, hZX⟩ := id C0
  intro x1 x2 x3 x4 uE H locs ls hp hP hD hS hl
  unfold ws_X10_layMoves_113 at hp
  obtain ⟨v_7, ev_7⟩ : ∃ y : Int32, y = x4 + 1 := ⟨_, rfl⟩
  refine lv_iinc (v := v_7) (lv' := [(4, .int v_7), (0, .ref a_m), (1, .int x1), (2, .int x2), (3, .int x3)]) hx hb aMD.2.2.2.2.2.2.2.2.2.2.2.2.2.2.1 hl (k := 4) rfl (by rw [ev_7]; rfl) (by decide) rfl (fun ls hl => ?_)
  have hp := hp v_7 ev_7
  refine lv_goto (tgt := 58) hx hb aMD.2.2.2.2.2.2.2.2.2.2.2.2.2.2.2 (by decide) ?_
  exact hK58 x1 x2 x3 v_7 uE H locs ls hp hP hD hS (lv_sub hl [1, 2, 3, 4, 0] rfl)
def ws_X10_layMoves_89 (post : (Nat -> Int32) -> Prop) (K2 : Int32 -> (Nat -> Int32) -> Prop) (K12 : Int32 -> Int32 -> (Nat -> Int32) -> Prop) (K58 : Int32 -> Int32 -> Int32 -> Int32 -> (Nat -> Int32) -> Prop) (aG : Int32) (nG pJ : Nat -> Int32) (x1 x2 x4 k0 k2 : Int32) (uE : Nat -> Int32) : Prop := bCI (fun r_8 => ∀ v_9 : Int32, v_9 = 1 <<< (x4 &&& 31) -> ∀ aEr : Int32, aEr = x1 &&& (v_9 ^^^ (-1)) -> wp_X10_leastMoves (fun r_11 => ∀ aEp : Int32, aEp = r_8 + r_11 -> ∀ aIQ : Int32, aIQ = (if aEp < k0 then aEp else k0) -> ws_X10_layMoves_113 post K2 K12 K58 aG nG pJ x1 x2 aIQ x4 uE) x4 aEr uE) k2 x4 nG pJ
set_option maxHeartbeats 4000000 in
set_option maxRecDepth 100000 in
theorem ks_X10_layMoves_89 (C0 : gc aBu none 5 zX (dC, dI) (tyl cI cC cZ cB cJ) A p s m args meth c) {K2 : Int32 -> (Nat -> Int32) -> Prop} {K12 : Int32 -> Int32 -> (Nat -> Int32) -> Prop} {K58 : Int32 -> Int32 -> Int32 -> Int32 -> (Nat -> Int32) -> Prop} (hK2 : ∀ (x1 : Int32) (uE : Nat -> Int32) (H : Heap) (locs : List Loc) (ls : Array Slot), K2 x1 uE -> va_P (dC, dI) classes (aBr cI cC cZ cB cJ a_m nY sJ eG iY lY jR jW jZ jO oQ bR aY jQ gY iJ mQ lJ jA bG mK jB mW mJ eJ dG bT aG jC bL bY jD mLn oF rP dQ aJ aB bW bZ aR aE bI aW bU fJ dO bM bQ bO jY oX nG pJ uE) H -> va_D A (aBr cI cC cZ cB cJ a_m nY sJ eG iY lY jR jW jZ jO oQ bR aY jQ gY iJ mQ lJ jA bG mK jB mW mJ eJ dG bT aG jC bL bY jD mLn oF rP dQ aJ aB bW bZ aR aE bI aW bU fJ dO bM bQ bO jY oX nG pJ uE) -> va_S A s.heap H locs -> lv_has ls 5 [(0, .ref a_m), (1, .int x1)] -> W p l e aE2 s m args below meth c H locs 0 0 (MQ below (aFQ dC dI cI cC cZ cB cJ A a_m nY sJ eG iY lY jR jW jZ jO oQ bR aY jQ gY iJ mQ lJ jA bG mK jB mW mJ eJ dG bT aG jC bL bY jD mLn oF rP dQ aJ aB bW bZ aR aE bI aW bU fJ dO bM bQ bO jY oX nG pJ post) args s 0 0 A) (F0 m 2 ls [])) (hK12 : ∀ (x1 : Int32) (x2 : Int32) (uE : Nat -> Int32) (H : Heap) (locs : List Loc) (ls : Array Slot), K12 x1 x2 uE -> va_P (dC, dI) classes (aBr cI cC cZ cB cJ a_m nY sJ eG iY lY jR jW jZ jO oQ bR aY jQ gY iJ mQ lJ jA bG mK jB mW mJ eJ dG bT aG jC bL bY jD mLn oF rP dQ aJ aB bW bZ aR aE bI aW bU fJ dO bM bQ bO jY oX nG pJ uE) H -> va_D A (aBr cI cC cZ cB cJ a_m nY sJ eG iY lY jR jW jZ jO oQ bR aY jQ gY iJ mQ lJ jA bG mK jB mW mJ eJ dG bT aG jC bL bY jD mLn oF rP dQ aJ aB bW bZ aR aE bI aW bU fJ dO bM bQ bO jY oX nG pJ uE) -> va_S A s.heap H locs -> lv_has ls 5 [(0, .ref a_m), (1, .int x1), (2, .int x2)] -> W p l e aE2 s m args below meth c H locs 0 0 (MQ below (aFQ dC dI cI cC cZ cB cJ A a_m nY sJ eG iY lY jR jW jZ jO oQ bR aY jQ gY iJ mQ lJ jA bG mK jB mW mJ eJ dG bT aG jC bL bY jD mLn oF rP dQ aJ aB bW bZ aR aE bI aW bU fJ dO bM bQ bO jY oX nG pJ post) args s 0 0 A) (F0 m 12 ls [])) (hK58 : ∀ (x1 : Int32) (x2 : Int32) (x3 : Int32) (x4 : Int32) (uE : Nat -> Int32) (H : Heap) (locs : List Loc) (ls : Array Slot), K58 x1 x2 x3 x4 uE -> va_P (dC, dI) classes (aBr cI cC cZ cB cJ a_m nY sJ eG iY lY jR jW jZ jO oQ bR aY jQ gY iJ mQ lJ jA bG mK jB mW mJ eJ dG bT aG jC bL bY jD mLn oF rP dQ aJ aB bW bZ aR aE bI aW bU fJ dO bM bQ bO jY oX nG pJ uE) H -> va_D A (aBr cI cC cZ cB cJ a_m nY sJ eG iY lY jR jW jZ jO oQ bR aY jQ gY iJ mQ lJ jA bG mK jB mW mJ eJ dG bT aG jC bL bY jD mLn oF rP dQ aJ aB bW bZ aR aE bI aW bU fJ dO bM bQ bO jY oX nG pJ uE) -> va_S A s.heap H locs -> lv_has ls 5 [(0, .ref a_m), (1, .int x1), (2, .int x2), (3, .int x3), (4, .int x4)] -> W p l e aE2 s m args below meth c H locs 0 0 (MQ below (aFQ dC dI cI cC cZ cB cJ A a_m nY sJ eG iY lY jR jW jZ jO oQ bR aY jQ gY iJ mQ lJ jA bG mK jB mW mJ eJ dG bT aG jC bL bY jD mLn oF rP dQ aJ aB bW bZ aR aE bI aW bU fJ dO bM bQ bO jY oX nG pJ post) args s 0 0 A) (F0 m 58 ls [])) : ∀ (x1 x2 x4 k0 k2 : Int32) (uE : Nat -> Int32) (H : Heap) (locs : List Loc) (ls : Array Slot), (ws_X10_layMoves_89 post K2 K12 K58 aG nG pJ) x1 x2 x4 k0 k2 uE -> va_P (dC, dI) classes (aBr cI cC cZ cB cJ a_m nY sJ eG iY lY jR jW jZ jO oQ bR aY jQ gY iJ mQ lJ jA bG mK jB mW mJ eJ dG bT aG jC bL bY jD mLn oF rP dQ aJ aB bW bZ aR aE bI aW bU fJ dO bM bQ bO jY oX nG pJ uE) H -> va_D A (aBr cI cC cZ cB cJ a_m nY sJ eG iY lY jR jW jZ jO oQ bR aY jQ gY iJ mQ lJ jA bG mK jB mW mJ eJ dG bT aG jC bL bY jD mLn oF rP dQ aJ aB bW bZ aR aE bI aW bU fJ dO bM bQ bO jY oX nG pJ uE) -> va_S A s.heap H locs -> lv_has ls 5 [(0, .ref a_m), (1, .int x1), (2, .int x2), (4, .int x4)] -> W p l e aE2 s m args below meth c H locs 0 0 (MQ below (aFQ dC dI cI cC cZ cB cJ A a_m nY sJ eG iY lY jR jW jZ jO oQ bR aY jQ gY iJ mQ lJ jA bG mK jB mW mJ eJ dG bT aG jC bL bY jD mLn oF rP dQ aJ aB bW bZ aR aE bI aW bU fJ dO bM bQ bO jY oX nG pJ post) args s 0 0 A) (F0 m 89 ls [.int k2, .ref a_m, .int k0]) := by
  obtain ⟨hx, hb, hr, hml, hown, hts, hlocks, hA, hK, hN, tL, tM, hZL, hTL, hZM, hTM, hZX⟩ := id C0
  intro x1 x2 x4 k0 k2 uE H locs ls hp hP hD hS hl
  unfold ws_X10_layMoves_89 at hp
  refine lv_iload hx hb aMC.2.2.2.2.2.2.2.2.2.2.2.2.2.2.2 (lv_at hl 3 rfl) ?_
  have hm := mgk (wc := (wd_X10_moveOf cI cC cZ cB cJ a_m nY sJ eG iY lY jR jW jZ jO oQ bR aY jQ gY iJ mQ lJ jA bG mK jB mW mJ eJ dG bT aG jC bL bY jD mLn oF rP dQ aJ aB bW bZ aR aE bI aW bU fJ dO bM bQ bO jY oX nG pJ)) hP mk_221 4 rfl rfl rfl
  refine yW hP hD hS hA (yS mk_221) (aAi mk_221) hm.1 hm.2 (aAk _) (zW _) (zF (As := [.int k2, .int x4]) (rest := [.int k0]) C0 hP hD hS (yS mk_221) hm.1 (aAl _) 0 10 rfl rfl (c_X10_moveOf l dC dI cI cC cZ cB cJ a_m nY sJ eG iY lY jR jW jZ jO oQ bR aY jQ gY iJ mQ lJ jA bG mK jB mW mJ eJ dG H.size k2 x4 bT aG jC bL bY jD mLn oF rP dQ aJ aB bW bZ aR aE bI aW bU fJ dO bM bQ bO jY oX nG pJ _ hp) q_771 q_774 q_772 q_773 aBL h_X10_moveOf rfl rfl ⟨lbz rfl, lbz rfl⟩ rfl rfl hl.1 rfl (lv_room (lbz rfl)) aMD.1 ⟨Nat.zero_le _, Nat.zero_le _⟩) (fun r_8 u H locs hp hP hD hS => ?_)
  have hPD := PDm (ws' := (aBr cI cC cZ cB cJ a_m nY sJ eG iY lY jR jW jZ jO oQ bR aY jQ gY iJ mQ lJ jA bG mK jB mW mJ eJ dG bT aG jC bL bY jD mLn oF rP dQ aJ aB bW bZ aR aE bI aW bU fJ dO bM bQ bO jY oX nG pJ uE)) hP hD 4 rfl rfl rfl
  have hP := hPD.1
  have hD := hPD.2
  refine lv_aload_n hx hb aMD.2.1 rfl (lv_at hl 0 rfl) ?_
  refine lv_iload hx hb aMD.2.2.1 (lv_at hl 3 rfl) ?_
  refine lv_iload_n hx hb aMD.2.2.2.1 rfl (lv_at hl 1 rfl) ?_
  refine lv_iconst (v := 1) hx hb aMD.2.2.2.2.1 aDx ?_
  refine lv_iload hx hb aMD.2.2.2.2.2.1 (lv_at hl 3 rfl) ?_
  refine lv_ishl hx hb aMD.2.2.2.2.2.2.1 ?_
  refine lv_topi (fun v_9 ev_9 => ?_)
  have hp := hp v_9 ev_9
  refine lv_iconst (v := (-1)) hx hb aMD.2.2.2.2.2.2.2.1 aEJ ?_
  refine lv_ixor hx hb aMD.2.2.2.2.2.2.2.2.1 ?_
  refine lv_iand hx hb aMD.2.2.2.2.2.2.2.2.2.1 ?_
  refine lv_topi (fun aEr aNB => ?_)
  have hp := hp aEr aNB
  have hm := mgk (wc := (aYC cI cC cZ cB cJ a_m nY sJ eG iY lY jR jW jZ jO oQ bR aY jQ gY iJ mQ lJ jA bG mK jB mW mJ eJ dG bT aG jC bL bY jD mLn oF rP dQ aJ aB bW bZ aR aE bI aW bU fJ dO bM bQ bO jY oX uE)) hP mk_256 4 rfl rfl rfl
  refine yW hP hD hS hA (yS mk_256) (aAi mk_256) hm.1 hm.2 (aAk _) (zW _) (zF (As := [.int x4, .int aEr]) (rest := [.int r_8, .int k0]) C0 hP hD hS (yS mk_256) hm.1 (aAl _) 0 10 rfl rfl (c_X10_leastMoves l dC dI cI cC cZ cB cJ a_m nY sJ eG iY lY jR jW jZ jO oQ bR aY jQ gY iJ mQ lJ jA bG mK jB mW mJ eJ dG H.size x4 aEr bT aG jC bL bY jD mLn oF rP dQ aJ aB bW bZ aR aE bI aW bU fJ dO bM bQ bO jY oX uE _ hp) q_912 q_915 q_913 q_914 aBL h_X10_leastMoves rfl rfl ⟨lbz rfl, lbz rfl⟩ rfl rfl hl.1 rfl (lv_room (lbz rfl)) aMD.2.2.2.2.2.2.2.2.2.2.1 ⟨Nat.zero_le _, Nat.zero_le _⟩) (fun r_11 u H locs hp hP hD hS => ?_)
  have hPD := PDm (ws' := (aBr cI cC cZ cB cJ a_m nY sJ eG iY lY jR jW jZ jO oQ bR aY jQ gY iJ mQ lJ jA bG mK jB mW mJ eJ dG bT aG jC bL bY jD mLn oF rP dQ aJ aB bW bZ aR aE bI aW bU fJ dO bM bQ bO jY oX nG pJ uE)) hP hD 4 rfl rfl rfl
  have hP := hPD.1
  have hD := hPD.2
  refine lv_iadd hx hb aMD.2.2.2.2.2.2.2.2.2.2.2.1 ?_
  refine lv_topi (fun aEp ev_12 => ?_)
  have hp := hp aEp ev_12
  refine va_mmin hx hb (by rw [hml]; exact hl.1.symm) hown (hts _ q_766) (hts _ q_15) (hts _ q_16) (hts _ q_17) (lbz rfl) (lbz rfl) (Nat.zero_le _) (Nat.zero_le _) aMD.2.2.2.2.2.2.2.2.2.2.2.2.1 ?_
  refine lv_topi (fun aIQ ev_13 => ?_)
  have hp := hp aIQ ev_13
  refine lv_istore_n (lv' := [(3, .int aIQ), (0, .ref a_m), (1, .int x1), (2, .int x2), (4, .int x4)]) hx hb aMD.2.2.2.2.2.2.2.2.2.2.2.2.2.1 rfl hl (by decide) rfl (fun ls hl => ?_)
  exact ks_X10_layMoves_113 C0 hK2 hK12 hK58 x1 x2 aIQ x4 uE H locs ls hp hP hD hS (lv_sub hl [1, 2, 3, 0, 4] rfl)
def ws_X10_layMoves_58 (post : (Nat -> Int32) -> Prop) (K2 : Int32 -> (Nat -> Int32) -> Prop) (K12 : Int32 -> Int32 -> (Nat -> Int32) -> Prop) (next : Int32 -> Int32 -> Int32 -> Int32 -> (Nat -> Int32) -> Prop) (aG : Int32) (nG pJ : Nat -> Int32) (x1 x2 x3 x4 : Int32) (uE : Nat -> Int32) : Prop := (aG <= x4 -> ∀ v_3 : Int32, v_3 = x2 <<< (8 &&& 31) -> ∀ v_4 : Int32, v_4 = v_3 + x1 -> vp_in v_4 2304 /\ (ws_X10_layMoves_131 post K2 K12 aG nG pJ x1 x2 (upd uE v_4.toNatClampNeg x3))) /\ (¬ aG <= x4 -> aKc (fun r_6 => (r_6 = 0 -> ws_X10_layMoves_113 post K2 K12 next aG nG pJ x1 x2 x3 x4 uE) /\ (¬ r_6 = 0 -> (¬ x2 = 8 -> ws_X10_layMoves_89 post K2 K12 next aG nG pJ x1 x2 x4 x3 x2 uE) /\ (x2 = 8 -> ws_X10_layMoves_89 post K2 K12 next aG nG pJ x1 x2 x4 x3 (-1) uE))) x1 x4)
noncomputable def wb_X10_layMoves_58 (post : (Nat -> Int32) -> Prop) (K2 : Int32 -> (Nat -> Int32) -> Prop) (K12 : Int32 -> Int32 -> (Nat -> Int32) -> Prop) (aG : Int32) (nG pJ : Nat -> Int32) : Nat -> Int32 -> Int32 -> Int32 -> Int32 -> (Nat -> Int32) -> Prop := fun n => Nat.rec (motive := fun _ => Int32 -> Int32 -> Int32 -> Int32 -> (Nat -> Int32) -> Prop) (fun _ _ _ _ _ => False) (fun _ ih => ws_X10_layMoves_58 post K2 K12 ih aG nG pJ) n
set_option maxHeartbeats 4000000 in
set_option maxRecDepth 100000 in
theorem ks_X10_layMoves_58 (C0 : gc aBu none 5 zX (dC, dI) (tyl cI cC cZ cB cJ) A p s m args meth c) {K2 : Int32 -> (Nat -> Int32) -> Prop} {K12 : Int32 -> Int32 -> (Nat -> Int32) -> Prop} {next : Int32 -> Int32 -> Int32 -> Int32 -> (Nat -> Int32) -> Prop} (hK2 : ∀ (x1 : Int32) (uE : Nat -> Int32) (H : Heap) (locs : List Loc) (ls : Array Slot), K2 x1 uE -> va_P (dC, dI) classes (aBr cI cC cZ cB cJ a_m nY sJ eG iY lY jR jW jZ jO oQ bR aY jQ gY iJ mQ lJ jA bG mK jB mW mJ eJ dG bT aG jC bL bY jD mLn oF rP dQ aJ aB bW bZ aR aE bI aW bU fJ dO bM bQ bO jY oX nG pJ uE) H -> va_D A (aBr cI cC cZ cB cJ a_m nY sJ eG iY lY jR jW jZ jO oQ bR aY jQ gY iJ mQ lJ jA bG mK jB mW mJ eJ dG bT aG jC bL bY jD mLn oF rP dQ aJ aB bW bZ aR aE bI aW bU fJ dO bM bQ bO jY oX nG pJ uE) -> va_S A s.heap H locs -> lv_has ls 5 [(0, .ref a_m), (1, .int x1)] -> W p l e aE2 s m args below meth c H locs 0 0 (MQ below (aFQ dC dI cI cC cZ cB cJ A a_m nY sJ eG iY lY jR jW jZ jO oQ bR aY jQ gY iJ mQ lJ jA bG mK jB mW mJ eJ dG bT aG jC bL bY jD mLn oF rP dQ aJ aB bW bZ aR aE bI aW bU fJ dO bM bQ bO jY oX nG pJ post) args s 0 0 A) (F0 m 2 ls [])) (hK12 : ∀ (x1 : Int32) (x2 : Int32) (uE : Nat -> Int32) (H : Heap) (locs : List Loc) (ls : Array Slot), K12 x1 x2 uE -> va_P (dC, dI) classes (aBr cI cC cZ cB cJ a_m nY sJ eG iY lY jR jW jZ jO oQ bR aY jQ gY iJ mQ lJ jA bG mK jB mW mJ eJ dG bT aG jC bL bY jD mLn oF rP dQ aJ aB bW bZ aR aE bI aW bU fJ dO bM bQ bO jY oX nG pJ uE) H -> va_D A (aBr cI cC cZ cB cJ a_m nY sJ eG iY lY jR jW jZ jO oQ bR aY jQ gY iJ mQ lJ jA bG mK jB mW mJ eJ dG bT aG jC bL bY jD mLn oF rP dQ aJ aB bW bZ aR aE bI aW bU fJ dO bM bQ bO jY oX nG pJ uE) -> va_S A s.heap H locs -> lv_has ls 5 [(0, .ref a_m), (1, .int x1), (2, .int x2)] -> W p l e aE2 s m args below meth c H locs 0 0 (MQ below (aFQ dC dI cI cC cZ cB cJ A a_m nY sJ eG iY lY jR jW jZ jO oQ bR aY jQ gY iJ mQ lJ jA bG mK jB mW mJ eJ dG bT aG jC bL bY jD mLn oF rP dQ aJ aB bW bZ aR aE bI aW bU fJ dO bM bQ bO jY oX nG pJ post) args s 0 0 A) (F0 m 12 ls [])) (hKn : ∀ (x1 : Int32) (x2 : Int32) (x3 : Int32) (x4 : Int32) (uE : Nat -> Int32) (H : Heap) (locs : List Loc) (ls : Array Slot), next x1 x2 x3 x4 uE -> va_P (dC, dI) classes (aBr cI cC cZ cB cJ a_m nY sJ eG iY lY jR jW jZ jO oQ bR aY jQ gY iJ mQ lJ jA bG mK jB mW mJ eJ dG bT aG jC bL bY jD mLn oF rP dQ aJ aB bW bZ aR aE bI aW bU fJ dO bM bQ bO jY oX nG pJ uE) H -> va_D A (aBr cI cC cZ cB cJ a_m nY sJ eG iY lY jR jW jZ jO oQ bR aY jQ gY iJ mQ lJ jA bG mK jB mW mJ eJ dG bT aG jC bL bY jD mLn oF rP dQ aJ aB bW bZ aR aE bI aW bU fJ dO bM bQ bO jY oX nG pJ uE) -> va_S A s.heap H locs -> lv_has ls 5 [(0, .ref a_m), (1, .int x1), (2, .int x2), (3, .int x3), (4, .int x4)] -> W p l e aE2 s m args below meth c H locs 0 0 (MQ below (aFQ dC dI cI cC cZ cB cJ A a_m nY sJ eG iY lY jR jW jZ jO oQ bR aY jQ gY iJ mQ lJ jA bG mK jB mW mJ eJ dG bT aG jC bL bY jD mLn oF rP dQ aJ aB bW bZ aR aE bI aW bU fJ dO bM bQ bO jY oX nG pJ post) args s 0 0 A) (F0 m 58 ls [])) : ∀ (x1 x2 x3 x4 : Int32) (uE : Nat -> Int32) (H : Heap) (locs : List Loc) (ls : Array Slot), (ws_X10_layMoves_58 post K2 K12 next aG nG pJ) x1 x2 x3 x4 uE -> va_P (dC, dI) classes (aBr cI cC cZ cB cJ a_m nY sJ eG iY lY jR jW jZ jO oQ bR aY jQ gY iJ mQ lJ jA bG mK jB mW mJ eJ dG bT aG jC bL bY jD mLn oF rP dQ aJ aB bW bZ aR aE bI aW bU fJ dO bM bQ bO jY oX nG pJ uE) H -> va_D A (aBr cI cC cZ cB cJ a_m nY sJ eG iY lY jR jW jZ jO oQ bR aY jQ gY iJ mQ lJ jA bG mK jB mW mJ eJ dG bT aG jC bL bY jD mLn oF rP dQ aJ aB bW bZ aR aE bI aW bU fJ dO bM bQ bO jY oX nG pJ uE) -> va_S A s.heap H locs -> lv_has ls 5 [(0, .ref a_m), (1, .int x1), (2, .int x2), (3, .int x3), (4, .int x4)] -> W p l e aE2 s m args below meth c H locs 0 0 (MQ below (aFQ dC dI cI cC cZ cB cJ A a_m nY sJ eG iY lY jR jW jZ jO oQ bR aY jQ gY iJ mQ lJ jA bG mK jB mW mJ eJ dG bT aG jC bL bY jD mLn oF rP dQ aJ aB bW bZ aR aE bI aW bU fJ dO bM bQ bO jY oX nG pJ post) args s 0 0 A) (F0 m 58 ls []) := by
  obtain ⟨hx, hb, hr, hml, hown, hts, hlocks, hA, hK, hN, tL, tM, hZL, hTL, hZM, hTM, hZX⟩ := id C0
  intro x1 x2 x3 x4 uE H locs ls hp hP hD hS hl
  unfold ws_X10_layMoves_58 at hp
  refine lv_iload hx hb aMB.2.2.2.2.2.2.2.2.2.2.2.2.2.2.2 (lv_at hl 4 rfl) ?_
  refine lv_aload_n hx hb aMC.1 rfl (lv_at hl 0 rfl) ?_
  refine va_get (D := (dC, dI)) (ci := 10) (v := .int aG) (C := zX) (T := aBe) (N := 51) hx hb hts aAt hown hK hP 0 rfl rfl 6 (lbz rfl) (hts _ q_666) (fun _ h9 => h9) rfl aMC.2.1 ?_
  refine lv_icmp_ge (tgt := 119) hx hb aMC.2.2.1 (by decide) (fun hc => ?_) (fun hc => ?_)
  · have hp := hp.1 hc
    refine lv_aload_n hx hb aNJ.1 rfl (lv_at hl 0 rfl) ?_
    refine va_get (D := (dC, dI)) (ci := 10) (v := .ref jA) (C := zX) (T := aBe) (N := 51) hx hb hts aAt hown hK hP 0 rfl rfl 38 (lbz rfl) (hts _ q_910) (fun _ h9 => h9) rfl aNJ.2.1 ?_
    refine lv_iload_n hx hb aNJ.2.2.1 rfl (lv_at hl 2 rfl) ?_
    refine lv_bipush (v := 8) hx hb aNJ.2.2.2.1 bp_8 ?_
    refine lv_ishl hx hb aNJ.2.2.2.2.1 ?_
    refine lv_topi (fun v_3 aGW => ?_)
    have hp := hp v_3 aGW
    refine lv_iload_n hx hb aNJ.2.2.2.2.2.1 rfl (lv_at hl 1 rfl) ?_
    refine lv_iadd hx hb aNJ.2.2.2.2.2.2.1 ?_
    refine lv_topi (fun v_4 aHM => ?_)
    have hp := hp v_4 aHM
    refine lv_iload_n hx hb aNJ.2.2.2.2.2.2.2.1 rfl (lv_at hl 3 rfl) ?_
    have hin := hp.1
    have hp := hp.2
    refine va_iast hx hb hK hP hD hS 3 0 rfl rfl hin aNJ.2.2.2.2.2.2.2.2.1 (fun H locs hP hD hS => ?_)
    have hPD := PDw (ws' := (aBr cI cC cZ cB cJ a_m nY sJ eG iY lY jR jW jZ jO oQ bR aY jQ gY iJ mQ lJ jA bG mK jB mW mJ eJ dG bT aG jC bL bY jD mLn oF rP dQ aJ aB bW bZ aR aE bI aW bU fJ dO bM bQ bO jY oX nG pJ (upd uE v_4.toNatClampNeg x3))) hP hD rfl
    have hP := hPD.1
    have hD := hPD.2
    exact ks_X10_layMoves_131 C0 hK2 hK12 x1 x2 (upd uE v_4.toNatClampNeg x3) H locs ls hp hP hD hS (lv_sub hl [0, 1, 2] rfl)
  · have hp := hp.2 hc
    refine lv_iload_n hx hb aMC.2.2.2.1 rfl (lv_at hl 1 rfl) ?_
    refine lv_iload hx hb aMC.2.2.2.2.1 (lv_at hl 4 rfl) ?_
    have hm := mgk (wc := (aLW cI cC cZ cB cJ)) hP mk_50 4 rfl rfl rfl
    refine yW hP hD hS hA (yS mk_50) (aAi mk_50) hm.1 hm.2 (aAk _) (zW _) (aDn (As := [.int x1, .int x4]) (rest := []) C0 hP hD hS (yS mk_50) hm.1 (aAl _) (aUP l dC dI cI cC cZ cB cJ H.size x1 x4 _ hp) q_734 q_736 q_735 aBL aUT rfl rfl ⟨lbz rfl, lbz rfl⟩ rfl rfl hl.1 rfl (lv_room (lbz rfl)) aMC.2.2.2.2.2.1 ⟨Nat.zero_le _, Nat.zero_le _⟩) (fun r_6 u H locs hp hP hD hS => ?_)
    have hPD := PDm (ws' := (aBr cI cC cZ cB cJ a_m nY sJ eG iY lY jR jW jZ jO oQ bR aY jQ gY iJ mQ lJ jA bG mK jB mW mJ eJ dG bT aG jC bL bY jD mLn oF rP dQ aJ aB bW bZ aR aE bI aW bU fJ dO bM bQ bO jY oX nG pJ uE)) hP hD 4 rfl rfl rfl
    have hP := hPD.1
    have hD := hPD.2
    refine lv_if_eq (tgt := 113) hx hb aMC.2.2.2.2.2.2.1 (by decide) (fun hc => ?_) (fun hc => ?_)
    · have hp := hp.1 hc
      exact ks_X10_layMoves_113 C0 hK2 hK12 hKn x1 x2 x3 x4 uE H locs ls hp hP hD hS (lv_sub hl [0, 1, 2, 3, 4] rfl)
    · have hp := hp.2 hc
      refine lv_iload_n hx hb aMC.2.2.2.2.2.2.2.1 rfl (lv_at hl 3 rfl) ?_
      refine lv_aload_n hx hb aMC.2.2.2.2.2.2.2.2.1 rfl (lv_at hl 0 rfl) ?_
      refine lv_iload_n hx hb aMC.2.2.2.2.2.2.2.2.2.1 rfl (lv_at hl 2 rfl) ?_
      refine lv_bipush (v := 8) hx hb aMC.2.2.2.2.2.2.2.2.2.2.1 bp_8 ?_
      refine lv_icmp_ne (tgt := 88) hx hb aMC.2.2.2.2.2.2.2.2.2.2.2.1 (by decide) (fun hc => ?_) (fun hc => ?_)
      · have hp := hp.1 hc
        refine lv_iload_n hx hb aMC.2.2.2.2.2.2.2.2.2.2.2.2.2.2.1 rfl (lv_at hl 2 rfl) ?_
        exact ks_X10_layMoves_89 C0 hK2 hK12 hKn x1 x2 x4 x3 x2 uE H locs ls hp hP hD hS (lv_sub hl [0, 1, 2, 4] rfl)
      · have hp := hp.2 hc
        refine lv_iconst (v := (-1)) hx hb aMC.2.2.2.2.2.2.2.2.2.2.2.2.1 aEJ ?_
        refine lv_goto (tgt := 89) hx hb aMC.2.2.2.2.2.2.2.2.2.2.2.2.2.1 (by decide) ?_
        exact ks_X10_layMoves_89 C0 hK2 hK12 hKn x1 x2 x4 x3 (-1) uE H locs ls hp hP hD hS (lv_sub hl [0, 1, 2, 4] rfl)
set_option maxHeartbeats 4000000 in
set_option maxRecDepth 100000 in
theorem kb_X10_layMoves_58 (C0 : gc aBu none 5 zX (dC, dI) (tyl cI cC cZ cB cJ) A p s m args meth c) {K2 : Int32 -> (Nat -> Int32) -> Prop} {K12 : Int32 -> Int32 -> (Nat -> Int32) -> Prop} (hK2 : ∀ (x1 : Int32) (uE : Nat -> Int32) (H : Heap) (locs : List Loc) (ls : Array Slot), K2 x1 uE -> va_P (dC, dI) classes (aBr cI cC cZ cB cJ a_m nY sJ eG iY lY jR jW jZ jO oQ bR aY jQ gY iJ mQ lJ jA bG mK jB mW mJ eJ dG bT aG jC bL bY jD mLn oF rP dQ aJ aB bW bZ aR aE bI aW bU fJ dO bM bQ bO jY oX nG pJ uE) H -> va_D A (aBr cI cC cZ cB cJ a_m nY sJ eG iY lY jR jW jZ jO oQ bR aY jQ gY iJ mQ lJ jA bG mK jB mW mJ eJ dG bT aG jC bL bY jD mLn oF rP dQ aJ aB bW bZ aR aE bI aW bU fJ dO bM bQ bO jY oX nG pJ uE) -> va_S A s.heap H locs -> lv_has ls 5 [(0, .ref a_m), (1, .int x1)] -> W p l e aE2 s m args below meth c H locs 0 0 (MQ below (aFQ dC dI cI cC cZ cB cJ A a_m nY sJ eG iY lY jR jW jZ jO oQ bR aY jQ gY iJ mQ lJ jA bG mK jB mW mJ eJ dG bT aG jC bL bY jD mLn oF rP dQ aJ aB bW bZ aR aE bI aW bU fJ dO bM bQ bO jY oX nG pJ post) args s 0 0 A) (F0 m 2 ls [])) (hK12 : ∀ (x1 : Int32) (x2 : Int32) (uE : Nat -> Int32) (H : Heap) (locs : List Loc) (ls : Array Slot), K12 x1 x2 uE -> va_P (dC, dI) classes (aBr cI cC cZ cB cJ a_m nY sJ eG iY lY jR jW jZ jO oQ bR aY jQ gY iJ mQ lJ jA bG mK jB mW mJ eJ dG bT aG jC bL bY jD mLn oF rP dQ aJ aB bW bZ aR aE bI aW bU fJ dO bM bQ bO jY oX nG pJ uE) H -> va_D A (aBr cI cC cZ cB cJ a_m nY sJ eG iY lY jR jW jZ jO oQ bR aY jQ gY iJ mQ lJ jA bG mK jB mW mJ eJ dG bT aG jC bL bY jD mLn oF rP dQ aJ aB bW bZ aR aE bI aW bU fJ dO bM bQ bO jY oX nG pJ uE) -> va_S A s.heap H locs -> lv_has ls 5 [(0, .ref a_m), (1, .int x1), (2, .int x2)] -> W p l e aE2 s m args below meth c H locs 0 0 (MQ below (aFQ dC dI cI cC cZ cB cJ A a_m nY sJ eG iY lY jR jW jZ jO oQ bR aY jQ gY iJ mQ lJ jA bG mK jB mW mJ eJ dG bT aG jC bL bY jD mLn oF rP dQ aJ aB bW bZ aR aE bI aW bU fJ dO bM bQ bO jY oX nG pJ post) args s 0 0 A) (F0 m 12 ls [])) : ∀ (n : Nat), ∀ (x1 x2 x3 x4 : Int32) (uE : Nat -> Int32) (H : Heap) (locs : List Loc) (ls : Array Slot), (wb_X10_layMoves_58 post K2 K12 aG nG pJ n) x1 x2 x3 x4 uE -> va_P (dC, dI) classes (aBr cI cC cZ cB cJ a_m nY sJ eG iY lY jR jW jZ jO oQ bR aY jQ gY iJ mQ lJ jA bG mK jB mW mJ eJ dG bT aG jC bL bY jD mLn oF rP dQ aJ aB bW bZ aR aE bI aW bU fJ dO bM bQ bO jY oX nG pJ uE) H -> va_D A (aBr cI cC cZ cB cJ a_m nY sJ eG iY lY jR jW jZ jO oQ bR aY jQ gY iJ mQ lJ jA bG mK jB mW mJ eJ dG bT aG jC bL bY jD mLn oF rP dQ aJ aB bW bZ aR aE bI aW bU fJ dO bM bQ bO jY oX nG pJ uE) -> va_S A s.heap H locs -> lv_has ls 5 [(0, .ref a_m), (1, .int x1), (2, .int x2), (3, .int x3), (4, .int x4)] -> W p l e aE2 s m args below meth c H locs 0 0 (MQ below (aFQ dC dI cI cC cZ cB cJ A a_m nY sJ eG iY lY jR jW jZ jO oQ bR aY jQ gY iJ mQ lJ jA bG mK jB mW mJ eJ dG bT aG jC bL bY jD mLn oF rP dQ aJ aB bW bZ aR aE bI aW bU fJ dO bM bQ bO jY oX nG pJ post) args s 0 0 A) (F0 m 58 ls []) := by
  intro n
  induction n with
  | zero =>
    intro x1 x2 x3 x4 uE H locs ls hp
    exact False.elim hp
  | succ n ih =>
    intro x1 x2 x3 x4 uE H locs ls hp
    exact ks_X10_layMoves_58 C0 hK2 hK12 ih x1 x2 x3 x4 uE H locs ls hp
def ws_X10_layMoves_54 (post : (Nat -> Int32) -> Prop) (K2 : Int32 -> (Nat -> Int32) -> Prop) (K12 : Int32 -> Int32 -> (Nat -> Int32) -> Prop) (aG : Int32) (nG pJ : Nat -> Int32) (x1 x2 k0 : Int32) (uE : Nat -> Int32) : Prop := ∃ n : Nat, wb_X10_layMoves_58 post K2 K12 aG nG pJ n x1 x2 k0 0 uE
set_option maxHeartbeats 4000000 in
set_option maxRecDepth 100000 in
theorem ks_X10_layMoves_54 (C0 : gc aBu none 5 zX (dC, dI) (tyl cI cC cZ cB cJ) A p s m args meth c) {K2 : Int32 -> (Nat -> Int32) -> Prop} {K12 : Int32 -> Int32 -> (Nat -> Int32) -> Prop} (hK2 : ∀ (x1 : Int32) (uE : Nat -> Int32) (H : Heap) (locs : List Loc) (ls : Array Slot), K2 x1 uE -> va_P (dC, dI) classes (aBr cI cC cZ cB cJ a_m nY sJ eG iY lY jR jW jZ jO oQ bR aY jQ gY iJ mQ lJ jA bG mK jB mW mJ eJ dG bT aG jC bL bY jD mLn oF rP dQ aJ aB bW bZ aR aE bI aW bU fJ dO bM bQ bO jY oX nG pJ uE) H -> va_D A (aBr cI cC cZ cB cJ a_m nY sJ eG iY lY jR jW jZ jO oQ bR aY jQ gY iJ mQ lJ jA bG mK jB mW mJ eJ dG bT aG jC bL bY jD mLn oF rP dQ aJ aB bW bZ aR aE bI aW bU fJ dO bM bQ bO jY oX nG pJ uE) -> va_S A s.heap H locs -> lv_has ls 5 [(0, .ref a_m), (1, .int x1)] -> W p l e aE2 s m args below meth c H locs 0 0 (MQ below (aFQ dC dI cI cC cZ cB cJ A a_m nY sJ eG iY lY jR jW jZ jO oQ bR aY jQ gY iJ mQ lJ jA bG mK jB mW mJ eJ dG bT aG jC bL bY jD mLn oF rP dQ aJ aB bW bZ aR aE bI aW bU fJ dO bM bQ bO jY oX nG pJ post) args s 0 0 A) (F0 m 2 ls [])) (hK12 : ∀ (x1 : Int32) (x2 : Int32) (uE : Nat -> Int32) (H : Heap) (locs : List Loc) (ls : Array Slot), K12 x1 x2 uE -> va_P (dC, dI) classes (aBr cI cC cZ cB cJ a_m nY sJ eG iY lY jR jW jZ jO oQ bR aY jQ gY iJ mQ lJ jA bG mK jB mW mJ eJ dG bT aG jC bL bY jD mLn oF rP dQ aJ aB bW bZ aR aE bI aW bU fJ dO bM bQ bO jY oX nG pJ uE) H -> va_D A (aBr cI cC cZ cB cJ a_m nY sJ eG iY lY jR jW jZ jO oQ bR aY jQ gY iJ mQ lJ jA bG mK jB mW mJ eJ dG bT aG jC bL bY jD mLn oF rP dQ aJ aB bW bZ aR aE bI aW bU fJ dO bM bQ bO jY oX nG pJ uE) -> va_S A s.heap H locs -> lv_has ls 5 [(0, .ref a_m), (1, .int x1), (2, .int x2)] -> W p l e aE2 s m args below meth c H locs 0 0 (MQ below (aFQ dC dI cI cC cZ cB cJ A a_m nY sJ eG iY lY jR jW jZ jO oQ bR aY jQ gY iJ mQ lJ jA bG mK jB mW mJ eJ dG bT aG jC bL bY jD mLn oF rP dQ aJ aB bW bZ aR aE bI aW bU fJ dO bM bQ bO jY oX nG pJ post) args s 0 0 A) (F0 m 12 ls [])) : ∀ (x1 x2 k0 : Int32) (uE : Nat -> Int32) (H : Heap) (locs : List Loc) (ls : Array Slot), (ws_X10_layMoves_54 post K2 K12 aG nG pJ) x1 x2 k0 uE -> va_P (dC, dI) classes (aBr cI cC cZ cB cJ a_m nY sJ eG iY lY jR jW jZ jO oQ bR aY jQ gY iJ mQ lJ jA bG mK jB mW mJ eJ dG bT aG jC bL bY jD mLn oF rP dQ aJ aB bW bZ aR aE bI aW bU fJ dO bM bQ bO jY oX nG pJ uE) H -> va_D A (aBr cI cC cZ cB cJ a_m nY sJ eG iY lY jR jW jZ jO oQ bR aY jQ gY iJ mQ lJ jA bG mK jB mW mJ eJ dG bT aG jC bL bY jD mLn oF rP dQ aJ aB bW bZ aR aE bI aW bU fJ dO bM bQ bO jY oX nG pJ uE) -> va_S A s.heap H locs -> lv_has ls 5 [(0, .ref a_m), (1, .int x1), (2, .int x2)] -> W p l e aE2 s m args below meth c H locs 0 0 (MQ below (aFQ dC dI cI cC cZ cB cJ A a_m nY sJ eG iY lY jR jW jZ jO oQ bR aY jQ gY iJ mQ lJ jA bG mK jB mW mJ eJ dG bT aG jC bL bY jD mLn oF rP dQ aJ aB bW bZ aR aE bI aW bU fJ dO bM bQ bO jY oX nG pJ post) args s 0 0 A) (F0 m 54 ls [.int k0]) := by
  obtain ⟨hx, hb, hr, hml, hown, hts, hlocks, hA, hK, hN, tL, tM, hZL, hTL, hZM, hTM, hZX⟩ := id C0
  intro x1 x2 k0 uE H locs ls hp hP hD hS hl
  unfold ws_X10_layMoves_54 at hp
  refine lv_istore_n (lv' := [(3, .int k0), (0, .ref a_m), (1, .int x1), (2, .int x2)]) hx hb aMB.2.2.2.2.2.2.2.2.2.2.2.2.1 rfl hl (by decide) rfl (fun ls hl => ?_)
  refine lv_iconst (v := 0) hx hb aMB.2.2.2.2.2.2.2.2.2.2.2.2.2.1 aCi ?_
  refine lv_istore (lv' := [(4, .int 0), (3, .int k0), (0, .ref a_m), (1, .int x1), (2, .int x2)]) hx hb aMB.2.2.2.2.2.2.2.2.2.2.2.2.2.2.1 hl (by decide) rfl (fun ls hl => ?_)
  obtain ⟨n9, hp⟩ := hp
  exact kb_X10_layMoves_58 C0 hK2 hK12 n9 x1 x2 k0 0 uE H locs ls hp hP hD hS (lv_sub hl [2, 3, 4, 1, 0] rfl)
def ws_X10_layMoves_43 (post : (Nat -> Int32) -> Prop) (K2 : Int32 -> (Nat -> Int32) -> Prop) (K12 : Int32 -> Int32 -> (Nat -> Int32) -> Prop) (aG : Int32) (nG pJ : Nat -> Int32) (x1 x2 : Int32) (uE : Nat -> Int32) : Prop := (¬ x1 = 0 -> ws_X10_layMoves_54 post K2 K12 aG nG pJ x1 x2 1000000 uE) /\ (x1 = 0 -> ws_X10_layMoves_54 post K2 K12 aG nG pJ x1 x2 0 uE)
set_option maxHeartbeats 4000000 in
set_option maxRecDepth 100000 in
theorem ks_X10_layMoves_43 (C0 : gc aBu none 5 zX (dC, dI) (tyl cI cC cZ cB cJ) A p s m args meth c) {K2 : Int32 -> (Nat -> Int32) -> Prop} {K12 : Int32 -> Int32 -> (Nat -> Int32) -> Prop} (hK2 : ∀ (x1 : Int32) (uE : Nat -> Int32) (H : Heap) (locs : List Loc) (ls : Array Slot), K2 x1 uE -> va_P (dC, dI) classes (aBr cI cC cZ cB cJ a_m nY sJ eG iY lY jR jW jZ jO oQ bR aY jQ gY iJ mQ lJ jA bG mK jB mW mJ eJ dG bT aG jC bL bY jD mLn oF rP dQ aJ aB bW bZ aR aE bI aW bU fJ dO bM bQ bO jY oX nG pJ uE) H -> va_D A (aBr cI cC cZ cB cJ a_m nY sJ eG iY lY jR jW jZ jO oQ bR aY jQ gY iJ mQ lJ jA bG mK jB mW mJ eJ dG bT aG jC bL bY jD mLn oF rP dQ aJ aB bW bZ aR aE bI aW bU fJ dO bM bQ bO jY oX nG pJ uE) -> va_S A s.heap H locs -> lv_has ls 5 [(0, .ref a_m), (1, .int x1)] -> W p l e aE2 s m args below meth c H locs 0 0 (MQ below (aFQ dC dI cI cC cZ cB cJ A a_m nY sJ eG iY lY jR jW jZ jO oQ bR aY jQ gY iJ mQ lJ jA bG mK jB mW mJ eJ dG bT aG jC bL bY jD mLn oF rP dQ aJ aB bW bZ aR aE bI aW bU fJ dO bM bQ bO jY oX nG pJ post) args s 0 0 A) (F0 m 2 ls [])) (hK12 : ∀ (x1 : Int32) (x2 : Int32) (uE : Nat -> Int32) (H : Heap) (locs : List Loc) (ls : Array Slot), K12 x1 x2 uE -> va_P (dC, dI) classes (aBr cI cC cZ cB cJ a_m nY sJ eG iY lY jR jW jZ jO oQ bR aY jQ gY iJ mQ lJ jA bG mK jB mW mJ eJ dG bT aG jC bL bY jD mLn oF rP dQ aJ aB bW bZ aR aE bI aW bU fJ dO bM bQ bO jY oX nG pJ uE) H -> va_D A (aBr cI cC cZ cB cJ a_m nY sJ eG iY lY jR jW jZ jO oQ bR aY jQ gY iJ mQ lJ jA bG mK jB mW mJ eJ dG bT aG jC bL bY jD mLn oF rP dQ aJ aB bW bZ aR aE bI aW bU fJ dO bM bQ bO jY oX nG pJ uE) -> va_S A s.heap H locs -> lv_has ls 5 [(0, .ref a_m), (1, .int x1), (2, .int x2)] -> W p l e aE2 s m args below meth c H locs 0 0 (MQ below (aFQ dC dI cI cC cZ cB cJ A a_m nY sJ eG iY lY jR jW jZ jO oQ bR aY jQ gY iJ mQ lJ jA bG mK jB mW mJ eJ dG bT aG jC bL bY jD mLn oF rP dQ aJ aB bW bZ aR aE bI aW bU fJ dO bM bQ bO jY oX nG pJ post) args s 0 0 A) (F0 m 12 ls [])) : ∀ (x1 x2 : Int32) (uE : Nat -> Int32) (H : Heap) (locs : List Loc) (ls : Array Slot), (ws_X10_layMoves_43 post K2 K12 aG nG pJ) x1 x2 uE -> va_P (dC, dI) classes (aBr cI cC cZ cB cJ a_m nY sJ eG iY lY jR jW jZ jO oQ bR aY jQ gY iJ mQ lJ jA bG mK jB mW mJ eJ dG bT aG jC bL bY jD mLn oF rP dQ aJ aB bW bZ aR aE bI aW bU fJ dO bM bQ bO jY oX nG pJ uE) H -> va_D A (aBr cI cC cZ cB cJ a_m nY sJ eG iY lY jR jW jZ jO oQ bR aY jQ gY iJ mQ lJ jA bG mK jB mW mJ eJ dG bT aG jC bL bY jD mLn oF rP dQ aJ aB bW bZ aR aE bI aW bU fJ dO bM bQ bO jY oX nG pJ uE) -> va_S A s.heap H locs -> lv_has ls 5 [(0, .ref a_m), (1, .int x1), (2, .int x2)] -> W p l e aE2 s m args below meth c H locs 0 0 (MQ below (aFQ dC dI cI cC cZ cB cJ A a_m nY sJ eG iY lY jR jW jZ jO oQ bR aY jQ gY iJ mQ lJ jA bG mK jB mW mJ eJ dG bT aG jC bL bY jD mLn oF rP dQ aJ aB bW bZ aR aE bI aW bU fJ dO bM bQ bO jY oX nG pJ post) args s 0 0 A) (F0 m 43 ls []) := by
  obtain ⟨hx, hb, hr, hml, hown, hts, hlocks, hA, hK, hN, tL, tM, hZL, hTL, hZM, hTM, hZX⟩ := id C0
  intro x1 x2 uE H locs ls hp hP hD hS hl
  unfold ws_X10_layMoves_43 at hp
  refine lv_iload_n hx hb aMB.2.2.2.2.2.2.2.1 rfl (lv_at hl 1 rfl) ?_
  refine lv_if_ne (tgt := 51) hx hb aMB.2.2.2.2.2.2.2.2.1 (by decide) (fun hc => ?_) (fun hc => ?_)
  · have hp := hp.1 hc
    refine lv_ldcw (v := 1000000) hx hb hown (hts _ q_911) aMB.2.2.2.2.2.2.2.2.2.2.2.1 ?_
    exact ks_X10_layMoves_54 C0 hK2 hK12 x1 x2 1000000 uE H locs ls hp hP hD hS (lv_sub hl [0, 1, 2] rfl)
  · have hp := hp.2 hc
    refine lv_iconst (v := 0) hx hb aMB.2.2.2.2.2.2.2.2.2.1 aCi ?_
    refine lv_goto (tgt := 54) hx hb aMB.2.2.2.2.2.2.2.2.2.2.1 (by decide) ?_
    exact ks_X10_layMoves_54 C0 hK2 hK12 x1 x2 0 uE H locs ls hp hP hD hS (lv_sub hl [0, 1, 2] rfl)
def ws_X10_layMoves_12 (post : (Nat -> Int32) -> Prop) (K2 : Int32 -> (Nat -> Int32) -> Prop) (next : Int32 -> Int32 -> (Nat -> Int32) -> Prop) (aG : Int32) (nG pJ : Nat -> Int32) (x1 x2 : Int32) (uE : Nat -> Int32) : Prop := (8 < x2 -> ∀ v_2 : Int32, v_2 = x1 + 1 -> K2 v_2 uE) /\ (¬ 8 < x2 -> (8 <= x2 -> ws_X10_layMoves_43 post K2 next aG nG pJ x1 x2 uE) /\ (¬ 8 <= x2 -> (aG <= x2 -> ws_X10_layMoves_131 post K2 next aG nG pJ x1 x2 uE) /\ (¬ aG <= x2 -> aKc (fun r_14 => (r_14 = 0 -> ws_X10_layMoves_43 post K2 next aG nG pJ x1 x2 uE) /\ (¬ r_14 = 0 -> ws_X10_layMoves_131 post K2 next aG nG pJ x1 x2 uE)) x1 x2)))
noncomputable def wb_X10_layMoves_12 (post : (Nat -> Int32) -> Prop) (K2 : Int32 -> (Nat -> Int32) -> Prop) (aG : Int32) (nG pJ : Nat -> Int32) : Nat -> Int32 -> Int32 -> (Nat -> Int32) -> Prop := fun n => Nat.rec (motive := fun _ => Int32 -> Int32 -> (Nat -> Int32) -> Prop) (fun _ _ _ => False) (fun _ ih => ws_X10_layMoves_12 post K2 ih aG nG pJ) n
set_option maxHeartbeats 4000000 in
set_option maxRecDepth 100000 in
theorem ks_X10_layMoves_12 (C0 : gc aBu none 5 zX (dC, dI) (tyl cI cC cZ cB cJ) A p s m args meth c) {K2 : Int32 -> (Nat -> Int32) -> Prop} {next : Int32 -> Int32 -> (Nat -> Int32) -> Prop} (hK2 : ∀ (x1 : Int32) (uE : Nat -> Int32) (H : Heap) (locs : List Loc) (ls : Array Slot), K2 x1 uE -> va_P (dC, dI) classes (aBr cI cC cZ cB cJ a_m nY sJ eG iY lY jR jW jZ jO oQ bR aY jQ gY iJ mQ lJ jA bG mK jB mW mJ eJ dG bT aG jC bL bY jD mLn oF rP dQ aJ aB bW bZ aR aE bI aW bU fJ dO bM bQ bO jY oX nG pJ uE) H -> va_D A (aBr cI cC cZ cB cJ a_m nY sJ eG iY lY jR jW jZ jO oQ bR aY jQ gY iJ mQ lJ jA bG mK jB mW mJ eJ dG bT aG jC bL bY jD mLn oF rP dQ aJ aB bW bZ aR aE bI aW bU fJ dO bM bQ bO jY oX nG pJ uE) -> va_S A s.heap H locs -> lv_has ls 5 [(0, .ref a_m), (1, .int x1)] -> W p l e aE2 s m args below meth c H locs 0 0 (MQ below (aFQ dC dI cI cC cZ cB cJ A a_m nY sJ eG iY lY jR jW jZ jO oQ bR aY jQ gY iJ mQ lJ jA bG mK jB mW mJ eJ dG bT aG jC bL bY jD mLn oF rP dQ aJ aB bW bZ aR aE bI aW bU fJ dO bM bQ bO jY oX nG pJ post) args s 0 0 A) (F0 m 2 ls [])) (hKn : ∀ (x1 : Int32) (x2 : Int32) (uE : Nat -> Int32) (H : Heap) (locs : List Loc) (ls : Array Slot), next x1 x2 uE -> va_P (dC, dI) classes (aBr cI cC cZ cB cJ a_m nY sJ eG iY lY jR jW jZ jO oQ bR aY jQ gY iJ mQ lJ jA bG mK jB mW mJ eJ dG bT aG jC bL bY jD mLn oF rP dQ aJ aB bW bZ aR aE bI aW bU fJ dO bM bQ bO jY oX nG pJ uE) H -> va_D A (aBr cI cC cZ cB cJ a_m nY sJ eG iY lY jR jW jZ jO oQ bR aY jQ gY iJ mQ lJ jA bG mK jB mW mJ eJ dG bT aG jC bL bY jD mLn oF rP dQ aJ aB bW bZ aR aE bI aW bU fJ dO bM bQ bO jY oX nG pJ uE) -> va_S A s.heap H locs -> lv_has ls 5 [(0, .ref a_m), (1, .int x1), (2, .int x2)] -> W p l e aE2 s m args below meth c H locs 0 0 (MQ below (aFQ dC dI cI cC cZ cB cJ A a_m nY sJ eG iY lY jR jW jZ jO oQ bR aY jQ gY iJ mQ lJ jA bG mK jB mW mJ eJ dG bT aG jC bL bY jD mLn oF rP dQ aJ aB bW bZ aR aE bI aW bU fJ dO bM bQ bO jY oX nG pJ post) args s 0 0 A) (F0 m 12 ls [])) : ∀ (x1 x2 : Int32) (uE : Nat -> Int32) (H : Heap) (locs : List Loc) (ls : Array Slot), (ws_X10_layMoves_12 post K2 next aG nG pJ) x1 x2 uE -> va_P (dC, dI) classes (aBr cI cC cZ cB cJ a_m nY sJ eG iY lY jR jW jZ jO oQ bR aY jQ gY iJ mQ lJ jA bG mK jB mW mJ eJ dG bT aG jC bL bY jD mLn oF rP dQ aJ aB bW bZ aR aE bI aW bU fJ dO bM bQ bO jY oX nG pJ uE) H -> va_D A (aBr cI cC cZ cB cJ a_m nY sJ eG iY lY jR jW jZ jO oQ bR aY jQ gY iJ mQ lJ jA bG mK jB mW mJ eJ dG bT aG jC bL bY jD mLn oF rP dQ aJ aB bW bZ aR aE bI aW bU fJ dO bM bQ bO jY oX nG pJ uE) -> va_S A s.heap H locs -> lv_has ls 5 [(0, .ref a_m), (1, .int x1), (2, .int x2)] -> W p l e aE2 s m args below meth c H locs 0 0 (MQ below (aFQ dC dI cI cC cZ cB cJ A a_m nY sJ eG iY lY jR jW jZ jO oQ bR aY jQ gY iJ mQ lJ jA bG mK jB mW mJ eJ dG bT aG jC bL bY jD mLn oF rP dQ aJ aB bW bZ aR aE bI aW bU fJ dO bM bQ bO jY oX nG pJ post) args s 0 0 A) (F0 m 12 ls []) := by
  obtain ⟨hx, hb, hr, hml, hown, hts, hlocks, hA, hK, hN, tL, tM, hZL, hTL, hZM, hTM, hZX⟩ := id C0
  intro x1 x2 uE H locs ls hp hP hD hS hl
  unfold ws_X10_layMoves_12 at hp
  refine lv_iload_n hx hb aNo.2.2.2.2.2.2.2.2.1 rfl (lv_at hl 2 rfl) ?_
  refine lv_bipush (v := 8) hx hb aNo.2.2.2.2.2.2.2.2.2.1 bp_8 ?_
  refine lv_icmp_gt (tgt := 137) hx hb aNo.2.2.2.2.2.2.2.2.2.2.1 (by decide) (fun hc => ?_) (fun hc => ?_)
  · have hp := hp.1 hc
    obtain ⟨v_2, aGO⟩ : ∃ y : Int32, y = x1 + 1 := ⟨_, rfl⟩
    refine lv_iinc (v := v_2) (lv' := [(1, .int v_2), (0, .ref a_m), (2, .int x2)]) hx hb aNJ.2.2.2.2.2.2.2.2.2.2.2.1 hl (k := 1) rfl (by rw [aGO]; rfl) (by decide) rfl (fun ls hl => ?_)
    have hp := hp v_2 aGO
    refine lv_goto (tgt := 2) hx hb aNJ.2.2.2.2.2.2.2.2.2.2.2.2.1 (by decide) ?_
    exact hK2 v_2 uE H locs ls hp hP hD hS (lv_sub hl [1, 0] rfl)
  · have hp := hp.2 hc
    refine lv_iload_n hx hb aNo.2.2.2.2.2.2.2.2.2.2.2.1 rfl (lv_at hl 2 rfl) ?_
    refine lv_bipush (v := 8) hx hb aNo.2.2.2.2.2.2.2.2.2.2.2.2.1 bp_8 ?_
    refine lv_icmp_ge (tgt := 43) hx hb aNo.2.2.2.2.2.2.2.2.2.2.2.2.2.1 (by decide) (fun hc => ?_) (fun hc => ?_)
    · have hp := hp.1 hc
      exact ks_X10_layMoves_43 C0 hK2 hKn x1 x2 uE H locs ls hp hP hD hS (lv_sub hl [0, 1, 2] rfl)
    · have hp := hp.2 hc
      refine lv_iload_n hx hb aNo.2.2.2.2.2.2.2.2.2.2.2.2.2.2.1 rfl (lv_at hl 2 rfl) ?_
      refine lv_aload_n hx hb aNo.2.2.2.2.2.2.2.2.2.2.2.2.2.2.2 rfl (lv_at hl 0 rfl) ?_
      refine va_get (D := (dC, dI)) (ci := 10) (v := .int aG) (C := zX) (T := aBe) (N := 51) hx hb hts aAt hown hK hP 0 rfl rfl 6 (lbz rfl) (hts _ q_666) (fun _ h9 => h9) rfl aMB.1 ?_
      refine lv_icmp_ge (tgt := 131) hx hb aMB.2.1 (by decide) (fun hc => ?_) (fun hc => ?_)
      · have hp := hp.1 hc
        exact ks_X10_layMoves_131 C0 hK2 hKn x1 x2 uE H locs ls hp hP hD hS (lv_sub hl [0, 1, 2] rfl)
      · have hp := hp.2 hc
        refine lv_iload_n hx hb aMB.2.2.1 rfl (lv_at hl 1 rfl) ?_
        refine lv_iload_n hx hb aMB.2.2.2.1 rfl (lv_at hl 2 rfl) ?_
        have hm := mgk (wc := (aLW cI cC cZ cB cJ)) hP mk_50 4 rfl rfl rfl
        refine yW hP hD hS hA (yS mk_50) (aAi mk_50) hm.1 hm.2 (aAk _) (zW _) (aDn (As := [.int x1, .int x2]) (rest := []) C0 hP hD hS (yS mk_50) hm.1 (aAl _) (aUP l dC dI cI cC cZ cB cJ H.size x1 x2 _ hp) q_734 q_736 q_735 aBL aUT rfl rfl ⟨lbz rfl, lbz rfl⟩ rfl rfl hl.1 rfl (lv_room (lbz rfl)) aMB.2.2.2.2.1 ⟨Nat.zero_le _, Nat.zero_le _⟩) (fun r_14 u H locs hp hP hD hS => ?_)
        have hPD := PDm (ws' := (aBr cI cC cZ cB cJ a_m nY sJ eG iY lY jR jW jZ jO oQ bR aY jQ gY iJ mQ lJ jA bG mK jB mW mJ eJ dG bT aG jC bL bY jD mLn oF rP dQ aJ aB bW bZ aR aE bI aW bU fJ dO bM bQ bO jY oX nG pJ uE)) hP hD 4 rfl rfl rfl
        have hP := hPD.1
        have hD := hPD.2
        refine lv_if_eq (tgt := 43) hx hb aMB.2.2.2.2.2.1 (by decide) (fun hc => ?_) (fun hc => ?_)
        · have hp := hp.1 hc
          exact ks_X10_layMoves_43 C0 hK2 hKn x1 x2 uE H locs ls hp hP hD hS (lv_sub hl [0, 1, 2] rfl)
        · have hp := hp.2 hc
          refine lv_goto (tgt := 131) hx hb aMB.2.2.2.2.2.2.1 (by decide) ?_
          exact ks_X10_layMoves_131 C0 hK2 hKn x1 x2 uE H locs ls hp hP hD hS (lv_sub hl [0, 1, 2] rfl)
set_option maxHeartbeats 4000000 in
set_option maxRecDepth 100000 in
theorem kb_X10_layMoves_12 (C0 : gc aBu none 5 zX (dC, dI) (tyl cI cC cZ cB cJ) A p s m args meth c) {K2 : Int32 -> (Nat -> Int32) -> Prop} (hK2 : ∀ (x1 : Int32) (uE : Nat -> Int32) (H : Heap) (locs : List Loc) (ls : Array Slot), K2 x1 uE -> va_P (dC, dI) classes (aBr cI cC cZ cB cJ a_m nY sJ eG iY lY jR jW jZ jO oQ bR aY jQ gY iJ mQ lJ jA bG mK jB mW mJ eJ dG bT aG jC bL bY jD mLn oF rP dQ aJ aB bW bZ aR aE bI aW bU fJ dO bM bQ bO jY oX nG pJ uE) H -> va_D A (aBr cI cC cZ cB cJ a_m nY sJ eG iY lY jR jW jZ jO oQ bR aY jQ gY iJ mQ lJ jA bG mK jB mW mJ eJ dG bT aG jC bL bY jD mLn oF rP dQ aJ aB bW bZ aR aE bI aW bU fJ dO bM bQ bO jY oX nG pJ uE) -> va_S A s.heap H locs -> lv_has ls 5 [(0, .ref a_m), (1, .int x1)] -> W p l e aE2 s m args below meth c H locs 0 0 (MQ below (aFQ dC dI cI cC cZ cB cJ A a_m nY sJ eG iY lY jR jW jZ jO oQ bR aY jQ gY iJ mQ lJ jA bG mK jB mW mJ eJ dG bT aG jC bL bY jD mLn oF rP dQ aJ aB bW bZ aR aE bI aW bU fJ dO bM bQ bO jY oX nG pJ post) args s 0 0 A) (F0 m 2 ls [])) : ∀ (n : Nat), ∀ (x1 x2 : Int32) (uE : Nat -> Int32) (H : Heap) (locs : List Loc) (ls : Array Slot), (wb_X10_layMoves_12 post K2 aG nG pJ n) x1 x2 uE -> va_P (dC, dI) classes (aBr cI cC cZ cB cJ a_m nY sJ eG iY lY jR jW jZ jO oQ bR aY jQ gY iJ mQ lJ jA bG mK jB mW mJ eJ dG bT aG jC bL bY jD mLn oF rP dQ aJ aB bW bZ aR aE bI aW bU fJ dO bM bQ bO jY oX nG pJ uE) H -> va_D A (aBr cI cC cZ cB cJ a_m nY sJ eG iY lY jR jW jZ jO oQ bR aY jQ gY iJ mQ lJ jA bG mK jB mW mJ eJ dG bT aG jC bL bY jD mLn oF rP dQ aJ aB bW bZ aR aE bI aW bU fJ dO bM bQ bO jY oX nG pJ uE) -> va_S A s.heap H locs -> lv_has ls 5 [(0, .ref a_m), (1, .int x1), (2, .int x2)] -> W p l e aE2 s m args below meth c H locs 0 0 (MQ below (aFQ dC dI cI cC cZ cB cJ A a_m nY sJ eG iY lY jR jW jZ jO oQ bR aY jQ gY iJ mQ lJ jA bG mK jB mW mJ eJ dG bT aG jC bL bY jD mLn oF rP dQ aJ aB bW bZ aR aE bI aW bU fJ dO bM bQ bO jY oX nG pJ post) args s 0 0 A) (F0 m 12 ls []) := by
  intro n
  induction n with
  | zero =>
    intro x1 x2 uE H locs ls hp
    exact False.elim hp
  | succ n ih =>
    intro x1 x2 uE H locs ls hp
    exact ks_X10_layMoves_12 C0 hK2 ih x1 x2 uE H locs ls hp
def ws_X10_layMoves_2 (post : (Nat -> Int32) -> Prop) (next : Int32 -> (Nat -> Int32) -> Prop) (aG : Int32) (nG pJ : Nat -> Int32) (x1 : Int32) (uE : Nat -> Int32) : Prop := aGu (fun r_1 => (r_1 < x1 -> post uE) /\ (¬ r_1 < x1 -> ∃ n : Nat, wb_X10_layMoves_12 post next aG nG pJ n x1 0 uE)) aG
noncomputable def wb_X10_layMoves_2 (post : (Nat -> Int32) -> Prop) (aG : Int32) (nG pJ : Nat -> Int32) : Nat -> Int32 -> (Nat -> Int32) -> Prop := fun n => Nat.rec (motive := fun _ => Int32 -> (Nat -> Int32) -> Prop) (fun _ _ => False) (fun _ ih => ws_X10_layMoves_2 post ih aG nG pJ) n
set_option maxHeartbeats 4000000 in
set_option maxRecDepth 100000 in
theorem ks_X10_layMoves_2 (C0 : gc aBu none 5 zX (dC, dI) (tyl cI cC cZ cB cJ) A p s m args meth c) {next : Int32 -> (Nat -> Int32) -> Prop} (hKn : ∀ (x1 : Int32) (uE : Nat -> Int32) (H : Heap) (locs : List Loc) (ls : Array Slot), next x1 uE -> va_P (dC, dI) classes (aBr cI cC cZ cB cJ a_m nY sJ eG iY lY jR jW jZ jO oQ bR aY jQ gY iJ mQ lJ jA bG mK jB mW mJ eJ dG bT aG jC bL bY jD mLn oF rP dQ aJ aB bW bZ aR aE bI aW bU fJ dO bM bQ bO jY oX nG pJ uE) H -> va_D A (aBr cI cC cZ cB cJ a_m nY sJ eG iY lY jR jW jZ jO oQ bR aY jQ gY iJ mQ lJ jA bG mK jB mW mJ eJ dG bT aG jC bL bY jD mLn oF rP dQ aJ aB bW bZ aR aE bI aW bU fJ dO bM bQ bO jY oX nG pJ uE) -> va_S A s.heap H locs -> lv_has ls 5 [(0, .ref a_m), (1, .int x1)] -> W p l e aE2 s m args below meth c H locs 0 0 (MQ below (aFQ dC dI cI cC cZ cB cJ A a_m nY sJ eG iY lY jR jW jZ jO oQ bR aY jQ gY iJ mQ lJ jA bG mK jB mW mJ eJ dG bT aG jC bL bY jD mLn oF rP dQ aJ aB bW bZ aR aE bI aW bU fJ dO bM bQ bO jY oX nG pJ post) args s 0 0 A) (F0 m 2 ls [])) : ∀ (x1 : Int32) (uE : Nat -> Int32) (H : Heap) (locs : List Loc) (ls : Array Slot), (ws_X10_layMoves_2 post next aG nG pJ) x1 uE -> va_P (dC, dI) classes (aBr cI cC cZ cB cJ a_m nY sJ eG iY lY jR jW jZ jO oQ bR aY jQ gY iJ mQ lJ jA bG mK jB mW mJ eJ dG bT aG jC bL bY jD mLn oF rP dQ aJ aB bW bZ aR aE bI aW bU fJ dO bM bQ bO jY oX nG pJ uE) H -> va_D A (aBr cI cC cZ cB cJ a_m nY sJ eG iY lY jR jW jZ jO oQ bR aY jQ gY iJ mQ lJ jA bG mK jB mW mJ eJ dG bT aG jC bL bY jD mLn oF rP dQ aJ aB bW bZ aR aE bI aW bU fJ dO bM bQ bO jY oX nG pJ uE) -> va_S A s.heap H locs -> lv_has ls 5 [(0, .ref a_m), (1, .int x1)] -> W p l e aE2 s m args below meth c H locs 0 0 (MQ below (aFQ dC dI cI cC cZ cB cJ A a_m nY sJ eG iY lY jR jW jZ jO oQ bR aY jQ gY iJ mQ lJ jA bG mK jB mW mJ eJ dG bT aG jC bL bY jD mLn oF rP dQ aJ aB bW bZ aR aE bI aW bU fJ dO bM bQ bO jY oX nG pJ post) args s 0 0 A) (F0 m 2 ls []) := by
  obtain ⟨hx, hb, hr, hml, hown, hts, hlocks, hA, hK, hN, tL, tM, hZL, hTL, hZM, hTM, hZX⟩ := id C0
  intro x1 uE H locs ls hp hP hD hS hl
  unfold ws_X10_layMoves_2 at hp
  refine lv_iload_n hx hb aNo.2.2.1 rfl (lv_at hl 1 rfl) ?_
  refine lv_aload_n hx hb aNo.2.2.2.1 rfl (lv_at hl 0 rfl) ?_
  have hm := mgk (wc := (aGj cI cC cZ cB cJ a_m nY sJ eG iY lY jR jW jZ jO oQ bR aY jQ gY iJ mQ lJ jA bG mK jB mW mJ eJ dG bT aG jC bL bY jD mLn oF rP dQ aJ aB bW bZ aR aE bI aW bU fJ dO bM bQ bO jY oX)) hP mk_15 4 rfl rfl rfl
  refine yW hP hD hS hA (yS mk_15) (aAi mk_15) hm.1 hm.2 (aAk _) (zW _) (zF (As := []) (rest := [.int x1]) C0 hP hD hS (yS mk_15) hm.1 (aAl _) 0 10 rfl rfl (aKY l dC dI cI cC cZ cB cJ a_m nY sJ eG iY lY jR jW jZ jO oQ bR aY jQ gY iJ mQ lJ jA bG mK jB mW mJ eJ dG H.size bT aG jC bL bY jD mLn oF rP dQ aJ aB bW bZ aR aE bI aW bU fJ dO bM bQ bO jY oX _ hp) q_870 q_873 q_871 q_872 aBL aKa rfl rfl ⟨lbz rfl, lbz rfl⟩ rfl rfl hl.1 rfl (lv_room (lbz rfl)) aNo.2.2.2.2.1 ⟨Nat.zero_le _, Nat.zero_le _⟩) (fun r_1 u H locs hp hP hD hS => ?_)
  have hPD := PDm (ws' := (aBr cI cC cZ cB cJ a_m nY sJ eG iY lY jR jW jZ jO oQ bR aY jQ gY iJ mQ lJ jA bG mK jB mW mJ eJ dG bT aG jC bL bY jD mLn oF rP dQ aJ aB bW bZ aR aE bI aW bU fJ dO bM bQ bO jY oX nG pJ uE)) hP hD 4 rfl rfl rfl
  have hP := hPD.1
  have hD := hPD.2
  refine lv_icmp_gt (tgt := 143) hx hb aNo.2.2.2.2.2.1 (by decide) (fun hc => ?_) (fun hc => ?_)
  · have hp := hp.1 hc
    exact W.vret hx hb hr (fun t ht hW => ⟨⟨uE, rfl, hp, by rw [ht]; exact hP, va_K.moved hW.alike hK, hD⟩, hS.F ht⟩) hS.2.2 aNJ.2.2.2.2.2.2.2.2.2.2.2.2.2
  · have hp := hp.2 hc
    refine lv_iconst (v := 0) hx hb aNo.2.2.2.2.2.2.1 aCi ?_
    refine lv_istore_n (lv' := [(2, .int 0), (0, .ref a_m), (1, .int x1)]) hx hb aNo.2.2.2.2.2.2.2.1 rfl hl (by decide) rfl (fun ls hl => ?_)
    obtain ⟨n9, hp⟩ := hp
    exact kb_X10_layMoves_12 C0 hKn n9 x1 0 uE H locs ls hp hP hD hS (lv_sub hl [1, 2, 0] rfl)
set_option maxHeartbeats 4000000 in
set_option maxRecDepth 100000 in
theorem kb_X10_layMoves_2 (C0 : gc aBu none 5 zX (dC, dI) (tyl cI cC cZ cB cJ) A p s m args meth c) : ∀ (n : Nat), ∀ (x1 : Int32) (uE : Nat -> Int32) (H : Heap) (locs : List Loc) (ls : Array Slot), (wb_X10_layMoves_2 post aG nG pJ n) x1 uE -> va_P (dC, dI) classes (aBr cI cC cZ cB cJ a_m nY sJ eG iY lY jR jW jZ jO oQ bR aY jQ gY iJ mQ lJ jA bG mK jB mW mJ eJ dG bT aG jC bL bY jD mLn oF rP dQ aJ aB bW bZ aR aE bI aW bU fJ dO bM bQ bO jY oX nG pJ uE) H -> va_D A (aBr cI cC cZ cB cJ a_m nY sJ eG iY lY jR jW jZ jO oQ bR aY jQ gY iJ mQ lJ jA bG mK jB mW mJ eJ dG bT aG jC bL bY jD mLn oF rP dQ aJ aB bW bZ aR aE bI aW bU fJ dO bM bQ bO jY oX nG pJ uE) -> va_S A s.heap H locs -> lv_has ls 5 [(0, .ref a_m), (1, .int x1)] -> W p l e aE2 s m args below meth c H locs 0 0 (MQ below (aFQ dC dI cI cC cZ cB cJ A a_m nY sJ eG iY lY jR jW jZ jO oQ bR aY jQ gY iJ mQ lJ jA bG mK jB mW mJ eJ dG bT aG jC bL bY jD mLn oF rP dQ aJ aB bW bZ aR aE bI aW bU fJ dO bM bQ bO jY oX nG pJ post) args s 0 0 A) (F0 m 2 ls []) := by
  intro n
  induction n with
  | zero =>
    intro x1 uE H locs ls hp
    exact False.elim hp
  | succ n ih =>
    intro x1 uE H locs ls hp
    exact ks_X10_layMoves_2 C0 ih x1 uE H locs ls hp
end S_X10_layMoves
def wp_X10_layMoves (post : (Nat -> Int32) -> Prop) (aG : Int32) (nG pJ uE : Nat -> Int32) : Prop := ∃ n : Nat, wb_X10_layMoves_2 post aG nG pJ n 0 uE
set_option maxHeartbeats 4000000 in
set_option maxRecDepth 100000 in
theorem c_X10_layMoves (l : Launch) (dC : Nat -> ClassId) (dI : Nat -> Nat -> Nat) (cI cC cZ cB cJ : ClassId) (a_m nY sJ eG iY lY jR jW jZ jO oQ bR aY jQ gY iJ mQ lJ jA bG mK jB mW mJ eJ dG sz : Nat) (bT aG jC bL bY : Int32) (jD : Nat) (mLn oF rP dQ aJ aB bW bZ aR aE bI aW bU fJ dO bM bQ bO jY oX : Int32) (nG pJ uE : Nat -> Int32) (post : (Nat -> Int32) -> Prop) (hw : wp_X10_layMoves post aG nG pJ uE) : Met l yX10_layMoves (gw yX10_layMoves aBu 5 none) aE2 (va_Pc [.ref a_m] (gPre (dC, dI) (tyl cI cC cZ cB cJ) (aBr cI cC cZ cB cJ a_m nY sJ eG iY lY jR jW jZ jO oQ bR aY jQ gY iJ mQ lJ jA bG mK jB mW mJ eJ dG bT aG jC bL bY jD mLn oF rP dQ aJ aB bW bZ aR aE bI aW bU fJ dO bM bQ bO jY oX nG pJ uE) sz)) (aFQ dC dI cI cC cZ cB cJ (va_A (aBr cI cC cZ cB cJ a_m nY sJ eG iY lY jR jW jZ jO oQ bR aY jQ gY iJ mQ lJ jA bG mK jB mW mJ eJ dG bT aG jC bL bY jD mLn oF rP dQ aJ aB bW bZ aR aE bI aW bU fJ dO bM bQ bO jY oX nG pJ uE) sz) a_m nY sJ eG iY lY jR jW jZ jO oQ bR aY jQ gY iJ mQ lJ jA bG mK jB mW mJ eJ dG bT aG jC bL bY jD mLn oF rP dQ aJ aB bW bZ aR aE bI aW bU fJ dO bM bQ bO jY oX nG pJ post) 0 0 (va_A (aBr cI cC cZ cB cJ a_m nY sJ eG iY lY jR jW jZ jO oQ bR aY jQ gY iJ mQ lJ jA bG mK jB mW mJ eJ dG bT aG jC bL bY jD mLn oF rP dQ aJ aB bW bZ aR aE bI aW bU fJ dO bM bQ bO jY oX nG pJ uE) sz) := by
  refine aBJ (own := zX) (dC, dI) (tyl cI cC cZ cB cJ) (aBr cI cC cZ cB cJ a_m nY sJ eG iY lY jR jW jZ jO oQ bR aY jQ gY iJ mQ lJ jA bG mK jB mW mJ eJ dG bT aG jC bL bY jD mLn oF rP dQ aJ aB bW bZ aR aE bI aW bU fJ dO bM bQ bO jY oX nG pJ uE) sz [.ref a_m] (fun A => aFQ dC dI cI cC cZ cB cJ A a_m nY sJ eG iY lY jR jW jZ jO oQ bR aY jQ gY iJ mQ lJ jA bG mK jB mW mJ eJ dG bT aG jC bL bY jD mLn oF rP dQ aJ aB bW bZ aR aE bI aW bU fJ dO bM bQ bO jY oX nG pJ post) aFY rfl (lbz rfl) ?_
  intro p e s m args below meth c A H locs ls C0 hP hD hS hl
  have hl : lv_has ls 5 [(0, .ref a_m)] := hl
  obtain ⟨hx, hb, hr, hml, hown, hts, hlocks, hA, hK, hN, tL, tM, hZL, hTL, hZM, hTM, hZX⟩ := id C0
  have hp := hw
  unfold wp_X10_layMoves at hp
  refine lv_iconst (v := 0) hx hb aNo.1 aCi ?_
  refine lv_istore_n (lv' := [(1, .int 0), (0, .ref a_m)]) hx hb aNo.2.1 rfl hl (by decide) rfl (fun ls hl => ?_)
  obtain ⟨n9, hp⟩ := hp
  exact kb_X10_layMoves_2 C0 n9 0 uE H locs ls hp hP hD hS (lv_sub hl [1, 0] rfl)
abbrev wd_X10_besides (cI cC cZ cB cJ : ClassId) (a_m nY sJ eG iY lY jR jW jZ jO oQ bR aY jQ gY iJ mQ lJ jA bG mK jB mW mJ eJ dG : Nat) (bT aG jC bL bY : Int32) (jD : Nat) (mLn oF rP dQ aJ aB bW bZ aR aE bI aW bU fJ dO bM bQ bO jY oX : Int32) (qG : Nat -> Int32) : va_W := [(a_m, .inr (10, [.ref nY, .int bT, .ref sJ, .ref eG, .ref iY, .ref lY, .int aG, .ref jR, .ref jW, .ref jZ, .ref jO, .int jC, .ref oQ, .int bL, .int bY, rdv jO jQ jD, .int mLn, .int oF, .int rP, .int dQ, .ref bR, .ref aY, .int aJ, .int aB, .ref jQ, .int bW, .int bZ, .int aR, .int aE, .int bI, .int aW, .ref gY, .int bU, .ref iJ, .ref mQ, .int fJ, .ref lJ, .int dO, .ref jA, .ref bG, .int bM, .int bQ, .int bO, .ref mK, .ref jB, .ref mW, .int jY, .int oX, .ref mJ, .ref eJ, .ref dG])), (nY, .inl (cI, 21, .inl qG))]
abbrev q_X10_besides (dC : Nat -> ClassId) (dI : Nat -> Nat -> Nat) (cI cC cZ cB cJ : ClassId) (A : Nat -> Prop) (a_m nY sJ eG iY lY jR jW jZ jO oQ bR aY jQ gY iJ mQ lJ jA bG mK jB mW mJ eJ dG : Nat) (bT aG jC bL bY : Int32) (jD : Nat) (mLn oF rP dQ aJ aB bW bZ aR aE bI aW bU fJ dO bM bQ bO jY oX : Int32) (qG : Nat -> Int32) (post : Int32 -> Prop) : Array Value -> State -> Outcome -> State -> Prop := va_Qi (fun (r : Int32) (u : Unit) => post r) (fun u t => gB (dC, dI) (tyl cI cC cZ cB cJ) A (wd_X10_besides cI cC cZ cB cJ a_m nY sJ eG iY lY jR jW jZ jO oQ bR aY jQ gY iJ mQ lJ jA bG mK jB mW mJ eJ dG bT aG jC bL bY jD mLn oF rP dQ aJ aB bW bZ aR aE bI aW bU fJ dO bM bQ bO jY oX qG) t) A
abbrev rm_X10_besides : Room := { frames := 0, cells := 0, slots := 0, locals := 0 }
def wp_X10_besides (post : Int32 -> Prop) (p0 : Int32) (qG : Nat -> Int32) : Prop := ∀ v_1 : Int32, v_1 = qG (17 : Int32).toNatClampNeg -> (¬ v_1 = (-1) -> ∀ v_2 : Int32, v_2 = 1 <<< ((qG (17 : Int32).toNatClampNeg) &&& 31) -> post (p0 &&& (v_2 ^^^ (-1)))) /\ (v_1 = (-1) -> post p0)
set_option maxHeartbeats 4000000 in
set_option maxRecDepth 100000 in
theorem c_X10_besides (l : Launch) (dC : Nat -> ClassId) (dI : Nat -> Nat -> Nat) (cI cC cZ cB cJ : ClassId) (a_m nY sJ eG iY lY jR jW jZ jO oQ bR aY jQ gY iJ mQ lJ jA bG mK jB mW mJ eJ dG sz : Nat) (p0 bT aG jC bL bY : Int32) (jD : Nat) (mLn oF rP dQ aJ aB bW bZ aR aE bI aW bU fJ dO bM bQ bO jY oX : Int32) (qG : Nat -> Int32) (post : Int32 -> Prop) (hw : wp_X10_besides post p0 qG) : Met l yX10_besides (gw yX10_besides aOa 2 (some .int)) rm_X10_besides (va_Pc [.ref a_m, .int p0] (gPre (dC, dI) (tyl cI cC cZ cB cJ) (wd_X10_besides cI cC cZ cB cJ a_m nY sJ eG iY lY jR jW jZ jO oQ bR aY jQ gY iJ mQ lJ jA bG mK jB mW mJ eJ dG bT aG jC bL bY jD mLn oF rP dQ aJ aB bW bZ aR aE bI aW bU fJ dO bM bQ bO jY oX qG) sz)) (q_X10_besides dC dI cI cC cZ cB cJ (va_A (wd_X10_besides cI cC cZ cB cJ a_m nY sJ eG iY lY jR jW jZ jO oQ bR aY jQ gY iJ mQ lJ jA bG mK jB mW mJ eJ dG bT aG jC bL bY jD mLn oF rP dQ aJ aB bW bZ aR aE bI aW bU fJ dO bM bQ bO jY oX qG) sz) a_m nY sJ eG iY lY jR jW jZ jO oQ bR aY jQ gY iJ mQ lJ jA bG mK jB mW mJ eJ dG bT aG jC bL bY jD mLn oF rP dQ aJ aB bW bZ aR aE bI aW bU fJ dO bM bQ bO jY oX qG post) 0 0 (va_A (wd_X10_besides cI cC cZ cB cJ a_m nY sJ eG iY lY jR jW jZ jO oQ bR aY jQ gY iJ mQ lJ jA bG mK jB mW mJ eJ dG bT aG jC bL bY jD mLn oF rP dQ aJ aB bW bZ aR aE bI aW bU fJ dO bM bQ bO jY oX qG) sz) := by
  refine aBJ (own := zX) (dC, dI) (tyl cI cC cZ cB cJ) (wd_X10_besides cI cC cZ cB cJ a_m nY sJ eG iY lY jR jW jZ jO oQ bR aY jQ gY iJ mQ lJ jA bG mK jB mW mJ eJ dG bT aG jC bL bY jD mLn oF rP dQ aJ aB bW bZ aR aE bI aW bU fJ dO bM bQ bO jY oX qG) sz [.ref a_m, .int p0] (fun A => q_X10_besides dC dI cI cC cZ cB cJ A a_m nY sJ eG iY lY jR jW jZ jO oQ bR aY jQ gY iJ mQ lJ jA bG mK jB mW mJ eJ dG bT aG jC bL bY jD mLn oF rP dQ aJ aB bW bZ aR aE bI aW bU fJ dO bM bQ bO jY oX qG post) aFY rfl (lbz rfl) ?_
  intro p e s m args below meth c A H locs ls C0 hP hD hS hl
  have hl : lv_has ls 2 [(0, .ref a_m), (1, .int p0)] := hl
  obtain ⟨hx, hb, hr, hml, hown, hts, hlocks, hA, hK, hN, tL, tM, hZL, hTL, hZM, hTM, hZX⟩ := id C0
  have hp := hw
  unfold wp_X10_besides at hp
  refine lv_aload_n hx hb aPx.1 rfl (lv_at hl 0 rfl) ?_
  refine va_get (D := (dC, dI)) (ci := 10) (v := .ref nY) (C := zX) (T := aBe) (N := 51) hx hb hts aAt hown hK hP 0 rfl rfl 0 (lbz rfl) (hts _ aHO) (fun _ h9 => h9) rfl aPx.2.1 ?_
  refine lv_bipush (v := 17) hx hb aPx.2.2.1 bp_17 ?_
  refine va_iald hx hb hK hP 1 0 rfl rfl (g_in rfl) aPx.2.2.2.1 ?_
  refine lv_topi (fun v_1 aFJ => ?_)
  have hp := hp v_1 aFJ
  refine lv_iconst (v := (-1)) hx hb aPx.2.2.2.2.1 aEJ ?_
  refine lv_icmp_ne (tgt := 15) hx hb aPx.2.2.2.2.2.1 (by decide) (fun hc => ?_) (fun hc => ?_)
  · have hp := hp.1 hc
    refine lv_iload_n hx hb aPx.2.2.2.2.2.2.2.2.1 rfl (lv_at hl 1 rfl) ?_
    refine lv_iconst (v := 1) hx hb aPx.2.2.2.2.2.2.2.2.2.1 aDx ?_
    refine lv_aload_n hx hb aPx.2.2.2.2.2.2.2.2.2.2.1 rfl (lv_at hl 0 rfl) ?_
    refine va_get (D := (dC, dI)) (ci := 10) (v := .ref nY) (C := zX) (T := aBe) (N := 51) hx hb hts aAt hown hK hP 0 rfl rfl 0 (lbz rfl) (hts _ aHO) (fun _ h9 => h9) rfl aPx.2.2.2.2.2.2.2.2.2.2.2.1 ?_
    refine lv_bipush (v := 17) hx hb aPx.2.2.2.2.2.2.2.2.2.2.2.2.1 bp_17 ?_
    refine va_iald hx hb hK hP 1 0 rfl rfl (g_in rfl) aPx.2.2.2.2.2.2.2.2.2.2.2.2.2.1 ?_
    refine lv_ishl hx hb aPx.2.2.2.2.2.2.2.2.2.2.2.2.2.2.1 ?_
    refine lv_topi (fun v_2 aGO => ?_)
    have hp := hp v_2 aGO
    refine lv_iconst (v := (-1)) hx hb aPx.2.2.2.2.2.2.2.2.2.2.2.2.2.2.2 aEJ ?_
    refine lv_ixor hx hb eX10_besides_26.1 ?_
    refine lv_iand hx hb eX10_besides_26.2.1 ?_
    exact W.iret (v := p0 &&& (v_2 ^^^ (-1))) hx hb hr (fun t ht hW => ⟨⟨p0 &&& (v_2 ^^^ (-1)), (), rfl, hp, by rw [ht]; exact hP, va_K.moved hW.alike hK, hD⟩, hS.F ht⟩) hS.2.2 eX10_besides_26.2.2
  · have hp := hp.2 hc
    refine lv_iload_n hx hb aPx.2.2.2.2.2.2.1 rfl (lv_at hl 1 rfl) ?_
    refine lv_goto (tgt := 28) hx hb aPx.2.2.2.2.2.2.2.1 (by decide) ?_
    exact W.iret (v := p0) hx hb hr (fun t ht hW => ⟨⟨p0, (), rfl, hp, by rw [ht]; exact hP, va_K.moved hW.alike hK, hD⟩, hS.F ht⟩) hS.2.2 eX10_besides_26.2.2
abbrev wd_X10_placeOf (cI cC cZ cB cJ : ClassId) (a_m : Nat) : va_W := []
abbrev q_X10_placeOf (dC : Nat -> ClassId) (dI : Nat -> Nat -> Nat) (cI cC cZ cB cJ : ClassId) (A : Nat -> Prop) (a_m : Nat) (post : Int32 -> Prop) : Array Value -> State -> Outcome -> State -> Prop := va_Qi (fun (r : Int32) (u : Unit) => post r) (fun u t => gB (dC, dI) (tyl cI cC cZ cB cJ) A (wd_X10_placeOf cI cC cZ cB cJ a_m) t) A
abbrev rm_X10_placeOf : Room := { frames := 0, cells := 0, slots := 0, locals := 0 }
def wp_X10_placeOf (post : Int32 -> Prop) (p0 : Int32) : Prop := (¬ p0 = (-1) -> post p0) /\ (p0 = (-1) -> post 8)
set_option maxHeartbeats 4000000 in
set_option maxRecDepth 100000 in
theorem c_X10_placeOf (l : Launch) (dC : Nat -> ClassId) (dI : Nat -> Nat -> Nat) (cI cC cZ cB cJ : ClassId) (a_m sz : Nat) (p0 : Int32) (post : Int32 -> Prop) (hw : wp_X10_placeOf post p0) : Met l yX10_placeOf (gw yX10_placeOf cX10_placeOf 2 (some .int)) rm_X10_placeOf (va_Pc [.ref a_m, .int p0] (gPre (dC, dI) (tyl cI cC cZ cB cJ) (wd_X10_placeOf cI cC cZ cB cJ a_m) sz)) (q_X10_placeOf dC dI cI cC cZ cB cJ (va_A (wd_X10_placeOf cI cC cZ cB cJ a_m) sz) a_m post) 0 0 (va_A (wd_X10_placeOf cI cC cZ cB cJ a_m) sz) := by
  refine aBJ (own := zX) (dC, dI) (tyl cI cC cZ cB cJ) (wd_X10_placeOf cI cC cZ cB cJ a_m) sz [.ref a_m, .int p0] (fun A => q_X10_placeOf dC dI cI cC cZ cB cJ A a_m post) aFY rfl (lbz rfl) ?_
  intro p e s m args below meth c A H locs ls C0 hP hD hS hl
  have hl : lv_has ls 2 [(0, .ref a_m), (1, .int p0)] := hl
  obtain ⟨hx, hb, hr, hml, hown, hts, hlocks, hA, hK, hN, tL, tM, hZL, hTL, hZM, hTM, hZX⟩ := id C0
  have hp := hw
  unfold wp_X10_placeOf at hp
  refine lv_iload_n hx hb eX10_placeOf_0.1 rfl (lv_at hl 1 rfl) ?_
  refine lv_iconst (v := (-1)) hx hb eX10_placeOf_0.2.1 aEJ ?_
  refine lv_icmp_ne (tgt := 10) hx hb eX10_placeOf_0.2.2.1 (by decide) (fun hc => ?_) (fun hc => ?_)
  · have hp := hp.1 hc
    refine lv_iload_n hx hb eX10_placeOf_0.2.2.2.2.2.1 rfl (lv_at hl 1 rfl) ?_
    exact W.iret (v := p0) hx hb hr (fun t ht hW => ⟨⟨p0, (), rfl, hp, by rw [ht]; exact hP, va_K.moved hW.alike hK, hD⟩, hS.F ht⟩) hS.2.2 eX10_placeOf_0.2.2.2.2.2.2
  · have hp := hp.2 hc
    refine lv_bipush (v := 8) hx hb eX10_placeOf_0.2.2.2.1 bp_8 ?_
    refine lv_goto (tgt := 11) hx hb eX10_placeOf_0.2.2.2.2.1 (by decide) ?_
    exact W.iret (v := 8) hx hb hr (fun t ht hW => ⟨⟨8, (), rfl, hp, by rw [ht]; exact hP, va_K.moved hW.alike hK, hD⟩, hS.F ht⟩) hS.2.2 eX10_placeOf_0.2.2.2.2.2.2
abbrev aEy (cI cC cZ cB cJ : ClassId) (a_m nY sJ eG iY lY jR jW jZ jO oQ bR aY jQ gY iJ mQ lJ jA bG mK jB mW mJ eJ dG : Nat) (bT aG jC bL bY : Int32) (jD : Nat) (mLn oF rP dQ aJ aB bW bZ aR aE bI aW bU fJ dO bM bQ bO jY oX : Int32) (qG nG pJ sW uE : Nat -> Int32) : va_W := [(a_m, .inr (10, [.ref nY, .int bT, .ref sJ, .ref eG, .ref iY, .ref lY, .int aG, .ref jR, .ref jW, .ref jZ, .ref jO, .int jC, .ref oQ, .int bL, .int bY, rdv jO jQ jD, .int mLn, .int oF, .int rP, .int dQ, .ref bR, .ref aY, .int aJ, .int aB, .ref jQ, .int bW, .int bZ, .int aR, .int aE, .int bI, .int aW, .ref gY, .int bU, .ref iJ, .ref mQ, .int fJ, .ref lJ, .int dO, .ref jA, .ref bG, .int bM, .int bQ, .int bO, .ref mK, .ref jB, .ref mW, .int jY, .int oX, .ref mJ, .ref eJ, .ref dG])), (nY, .inl (cI, 21, .inl qG)), (jR, .inl (cI, 8, .inl nG)), (jZ, .inl (cI, 5, .inl pJ)), (oQ, .inl (cI, 32, .inl sW)), (jA, .inl (cI, 2304, .inl uE))]
abbrev q_X10_route (dC : Nat -> ClassId) (dI : Nat -> Nat -> Nat) (cI cC cZ cB cJ : ClassId) (A : Nat -> Prop) (a_m nY sJ eG iY lY jR jW jZ jO oQ bR aY jQ gY iJ mQ lJ jA bG mK jB mW mJ eJ dG : Nat) (bT aG jC : Int32) (jD : Nat) (mLn oF rP dQ aJ aB bW bZ aR aE bI aW bU fJ dO bM bQ bO jY oX : Int32) (qG nG pJ : Nat -> Int32) (post : Int32 -> Int32 -> Int32 -> (Nat -> Int32) -> (Nat -> Int32) -> Prop) : Array Value -> State -> Outcome -> State -> Prop := va_Qi (fun (r : Int32) (u : Int32 × Int32 × (Nat -> Int32) × (Nat -> Int32)) => post r u.1 u.2.1 u.2.2.1 u.2.2.2) (fun u t => gB (dC, dI) (tyl cI cC cZ cB cJ) A (aEy cI cC cZ cB cJ a_m nY sJ eG iY lY jR jW jZ jO oQ bR aY jQ gY iJ mQ lJ jA bG mK jB mW mJ eJ dG bT aG jC u.1 u.2.1 jD mLn oF rP dQ aJ aB bW bZ aR aE bI aW bU fJ dO bM bQ bO jY oX qG nG pJ u.2.2.1 u.2.2.2) t) A
abbrev rm_X10_route : Room := { frames := 3, cells := 0, slots := 0, locals := 67 }
section S_X10_route
variable {p : Program} {l : Launch} {e : Env} {s : State} {m : MethodId} {args : Array Value} {below : List Frame} {meth : Method} {c : Code} {dC : Nat -> ClassId} {dI : Nat -> Nat -> Nat} {cI cC cZ cB cJ : ClassId} {A : Nat -> Prop} {a_m nY sJ eG iY lY jR jW jZ jO oQ bR aY jQ gY iJ mQ lJ jA bG mK jB mW mJ eJ dG : Nat} {bT aG jC : Int32} {jD : Nat} {mLn oF rP dQ aJ aB bW bZ aR aE bI aW bU fJ dO bM bQ bO jY oX : Int32} {qG nG pJ : Nat -> Int32} {post : Int32 -> Int32 -> Int32 -> (Nat -> Int32) -> (Nat -> Int32) -> Prop}
def ws_X10_route_105 (post : Int32 -> Int32 -> Int32 -> (Nat -> Int32) -> (Nat -> Int32) -> Prop) (K54 : Int32 -> Int32 -> Int32 -> Int32 -> Int32 -> (Nat -> Int32) -> (Nat -> Int32) -> Prop) (K61 : Int32 -> Int32 -> Int32 -> Int32 -> Int32 -> Int32 -> (Nat -> Int32) -> (Nat -> Int32) -> Prop) (aG : Int32) (qG nG pJ : Nat -> Int32) (x2 x3 x4 x5 bL bY : Int32) (sW uE : Nat -> Int32) : Prop := ∀ v_9 : Int32, v_9 = x5 + 1 -> K61 x2 x3 x4 v_9 bL bY sW uE
set_option maxHeartbeats 4000000 in
set_option maxRecDepth 100000 in
theorem ks_X10_route_105 (C0 : gc aCt (some .int) 6 zX (dC, dI) (tyl cI cC cZ cB cJ) A p s m args meth c) {K54 : Int32 -> Int32 -> Int32 -> Int32 -> Int32 -> (Nat -> Int32) -> (Nat -> Int32) -> Prop} {K61 : Int32 -> Int32 -> Int32 -> Int32 -> Int32 -> Int32 -> (Nat -> Int32) -> (Nat -> Int32) -> Prop} (hK54 : ∀ (x2 : Int32) (x3 : Int32) (x4 : Int32) (bL : Int32) (bY : Int32) (sW : Nat -> Int32) (uE : Nat -> Int32) (H : Heap) (locs : List Loc) (ls : Array Slot), K54 x2 x3 x4 bL bY sW uE -> va_P (dC, dI) classes (aEy cI cC cZ cB cJ a_m nY sJ eG iY lY jR jW jZ jO oQ bR aY jQ gY iJ mQ lJ jA bG mK jB mW mJ eJ dG bT aG jC bL bY jD mLn oF rP dQ aJ aB bW bZ aR aE bI aW bU fJ dO bM bQ bO jY oX qG nG pJ sW uE) H -> va_D A (aEy cI cC cZ cB cJ a_m nY sJ eG iY lY jR jW jZ jO oQ bR aY jQ gY iJ mQ lJ jA bG mK jB mW mJ eJ dG bT aG jC bL bY jD mLn oF rP dQ aJ aB bW bZ aR aE bI aW bU fJ dO bM bQ bO jY oX qG nG pJ sW uE) -> va_S A s.heap H locs -> lv_has ls 6 [(0, .ref a_m), (2, .int x2), (3, .int x3), (4, .int x4)] -> W p l e rm_X10_route s m args below meth c H locs 0 0 (MQ below (q_X10_route dC dI cI cC cZ cB cJ A a_m nY sJ eG iY lY jR jW jZ jO oQ bR aY jQ gY iJ mQ lJ jA bG mK jB mW mJ eJ dG bT aG jC jD mLn oF rP dQ aJ aB bW bZ aR aE bI aW bU fJ dO bM bQ bO jY oX qG nG pJ post) args s 0 0 A) (F0 m 54 ls [])) (hK61 : ∀ (x2 : Int32) (x3 : Int32) (x4 : Int32) (x5 : Int32) (bL : Int32) (bY : Int32) (sW : Nat -> Int32) (uE : Nat -> Int32) (H : Heap) (locs : List Loc) (ls : Array Slot), K61 x2 x3 x4 x5 bL bY sW uE -> va_P (dC, dI) classes (aEy cI cC cZ cB cJ a_m nY sJ eG iY lY jR jW jZ jO oQ bR aY jQ gY iJ mQ lJ jA bG mK jB mW mJ eJ dG bT aG jC bL bY jD mLn oF rP dQ aJ aB bW bZ aR aE bI aW bU fJ dO bM bQ bO jY oX qG nG pJ sW uE) H -> va_D A (aEy cI cC cZ cB cJ a_m nY sJ eG iY lY jR jW jZ jO oQ bR aY jQ gY iJ mQ lJ jA bG mK jB mW mJ eJ dG bT aG jC bL bY jD mLn oF rP dQ aJ aB bW bZ aR aE bI aW bU fJ dO bM bQ bO jY oX qG nG pJ sW uE) -> va_S A s.heap H locs -> lv_has ls 6 [(0, .ref a_m), (2, .int x2), (3, .int x3), (4, .int x4), (5, .int x5)] -> W p l e rm_X10_route s m args below meth c H locs 0 0 (MQ below (q_X10_route dC dI cI cC cZ cB cJ A a_m nY sJ eG iY lY jR jW jZ jO oQ bR aY jQ gY iJ mQ lJ jA bG mK jB mW mJ eJ dG bT aG jC jD mLn oF rP dQ aJ aB bW bZ aR aE bI aW bU fJ dO bM bQ bO jY oX qG nG pJ post) args s 0 0 A) (F0 m 61 ls [])) : ∀ (x2 x3 x4 x5 bL bY : Int32) (sW uE : Nat -> Int32) (H : Heap) (locs : List Loc) (ls : Array Slot), (ws_X10_route_105 post K54 K61 aG qG nG pJ) x2 x3 x4 x5 bL bY sW uE -> va_P (dC, dI) classes (aEy cI cC cZ cB cJ a_m nY sJ eG iY lY jR jW jZ jO oQ bR aY jQ gY iJ mQ lJ jA bG mK jB mW mJ eJ dG bT aG jC bL bY jD mLn oF rP dQ aJ aB bW bZ aR aE bI aW bU fJ dO bM bQ bO jY oX qG nG pJ sW uE) H -> va_D A (aEy cI cC cZ cB cJ a_m nY sJ eG iY lY jR jW jZ jO oQ bR aY jQ gY iJ mQ lJ jA bG mK jB mW mJ eJ dG bT aG jC bL bY jD mLn oF rP dQ aJ aB bW bZ aR aE bI aW bU fJ dO bM bQ bO jY oX qG nG pJ sW uE) -> va_S A s.heap H locs -> lv_has ls 6 [(0, .ref a_m), (2, .int x2), (3, .int x3), (4, .int x4), (5, .int x5)] -> W p l e rm_X10_route s m args below meth c H locs 0 0 (MQ below (q_X10_route dC dI cI cC cZ cB cJ A a_m nY sJ eG iY lY jR jW jZ jO oQ bR aY jQ gY iJ mQ lJ jA bG mK jB mW mJ eJ dG bT aG jC jD mLn oF rP dQ aJ aB bW bZ aR aE bI aW bU fJ dO bM bQ bO jY oX qG nG pJ post) args s 0 0 A) (F0 m 105 ls []) := by
  obtain ⟨hx, hb, hr, hml, hown, hts, hlocks, hA, hK, hN, tL, tM, hZL, hTL, hZM, hTM, hZX⟩ := id C0
  intro x2 x3 x4 x5 bL bY sW uE H locs ls hp hP hD hS hl
  unfold ws_X10_route_105 at hp
  obtain ⟨v_9, ev_9⟩ : ∃ y : Int32, y = x5 + 1 := ⟨_, rfl⟩
  refine lv_iinc (v := v_9) (lv' := [(5, .int v_9), (0, .ref a_m), (2, .int x2), (3, .int x3), (4, .int x4)]) hx hb aTH.2.2.2.2.2.2.2.2.2.2.2.2.2.2.1 hl (k := 4) rfl (by rw [ev_9]; rfl) (by decide) rfl (fun ls hl => ?_)
  have hp := hp v_9 ev_9
  refine lv_goto (tgt := 61) hx hb aTH.2.2.2.2.2.2.2.2.2.2.2.2.2.2.2 (by decide) ?_
  exact hK61 x2 x3 x4 v_9 bL bY sW uE H locs ls hp hP hD hS (lv_sub hl [1, 2, 3, 4, 0] rfl)
def ws_X10_route_61 (post : Int32 -> Int32 -> Int32 -> (Nat -> Int32) -> (Nat -> Int32) -> Prop) (K54 : Int32 -> Int32 -> Int32 -> Int32 -> Int32 -> (Nat -> Int32) -> (Nat -> Int32) -> Prop) (next : Int32 -> Int32 -> Int32 -> Int32 -> Int32 -> Int32 -> (Nat -> Int32) -> (Nat -> Int32) -> Prop) (aG : Int32) (qG nG pJ : Nat -> Int32) (x2 x3 x4 x5 bL bY : Int32) (sW uE : Nat -> Int32) : Prop := aKc (fun r_8 => (r_8 = 0 -> ws_X10_route_105 post K54 next aG qG nG pJ x2 x3 x4 x5 bL bY sW uE) /\ (¬ r_8 = 0 -> bCI (fun r_10 => ∀ aGH : Int32, aGH = 1 <<< (x5 &&& 31) -> ∀ aEp : Int32, aEp = x2 &&& (aGH ^^^ (-1)) -> wp_X10_leastMoves (fun r_13 => ∀ aGC : Int32, aGC = r_10 + r_13 -> wp_X10_placeOf (fun r_15 => wp_X10_leastMoves (fun r_16 => (aGC = r_16 -> aDs (fun m_rowMany_17 m_row_18 => ∀ v_19 : Int32, v_19 = 1 <<< (x5 &&& 31) -> ∀ v_20 : Int32, v_20 = x2 &&& (v_19 ^^^ (-1)) -> K54 v_20 x5 x4 m_rowMany_17 bY m_row_18 uE) x5 bL sW) /\ (¬ aGC = r_16 -> ws_X10_route_105 post K54 next aG qG nG pJ x2 x3 x4 x5 bL bY sW uE)) r_15 x2 uE) x3) x5 aEp uE) x3 x5 nG pJ)) x2 x5
noncomputable def wb_X10_route_61 (post : Int32 -> Int32 -> Int32 -> (Nat -> Int32) -> (Nat -> Int32) -> Prop) (K54 : Int32 -> Int32 -> Int32 -> Int32 -> Int32 -> (Nat -> Int32) -> (Nat -> Int32) -> Prop) (aG : Int32) (qG nG pJ : Nat -> Int32) : Nat -> Int32 -> Int32 -> Int32 -> Int32 -> Int32 -> Int32 -> (Nat -> Int32) -> (Nat -> Int32) -> Prop := fun n => Nat.rec (motive := fun _ => Int32 -> Int32 -> Int32 -> Int32 -> Int32 -> Int32 -> (Nat -> Int32) -> (Nat -> Int32) -> Prop) (fun _ _ _ _ _ _ _ _ => False) (fun _ ih => ws_X10_route_61 post K54 ih aG qG nG pJ) n
set_option maxHeartbeats 4000000 in
set_option maxRecDepth 100000 in
theorem ks_X10_route_61 (C0 : gc aCt (some .int) 6 zX (dC, dI) (tyl cI cC cZ cB cJ) A p s m args meth c) {K54 : Int32 -> Int32 -> Int32 -> Int32 -> Int32 -> (Nat -> Int32) -> (Nat -> Int32) -> Prop} {next : Int32 -> Int32 -> Int32 -> Int32 -> Int32 -> Int32 -> (Nat -> Int32) -> (Nat -> Int32) -> Prop} (hK54 : ∀ (x2 : Int32) (x3 : Int32) (x4 : Int32) (bL : Int32) (bY : Int32) (sW : Nat -> Int32) (uE : Nat -> Int32) (H : Heap) (locs : List Loc) (ls : Array Slot), K54 x2 x3 x4 bL bY sW uE -> va_P (dC, dI) classes (aEy cI cC cZ cB cJ a_m nY sJ eG iY lY jR jW jZ jO oQ bR aY jQ gY iJ mQ lJ jA bG mK jB mW mJ eJ dG bT aG jC bL bY jD mLn oF rP dQ aJ aB bW bZ aR aE bI aW bU fJ dO bM bQ bO jY oX qG nG pJ sW uE) H -> va_D A (aEy cI cC cZ cB cJ a_m nY sJ eG iY lY jR jW jZ jO oQ bR aY jQ gY iJ mQ lJ jA bG mK jB mW mJ eJ dG bT aG jC bL bY jD mLn oF rP dQ aJ aB bW bZ aR aE bI aW bU fJ dO bM bQ bO jY oX qG nG pJ sW uE) -> va_S A s.heap H locs -> lv_has ls 6 [(0, .ref a_m), (2, .int x2), (3, .int x3), (4, .int x4)] -> W p l e rm_X10_route s m args below meth c H locs 0 0 (MQ below (q_X10_route dC dI cI cC cZ cB cJ A a_m nY sJ eG iY lY jR jW jZ jO oQ bR aY jQ gY iJ mQ lJ jA bG mK jB mW mJ eJ dG bT aG jC jD mLn oF rP dQ aJ aB bW bZ aR aE bI aW bU fJ dO bM bQ bO jY oX qG nG pJ post) args s 0 0 A) (F0 m 54 ls [])) (hKn : ∀ (x2 : Int32) (x3 : Int32) (x4 : Int32) (x5 : Int32) (bL : Int32) (bY : Int32) (sW : Nat -> Int32) (uE : Nat -> Int32) (H : Heap) (locs : List Loc) (ls : Array Slot), next x2 x3 x4 x5 bL bY sW uE -> va_P (dC, dI) classes (aEy cI cC cZ cB cJ a_m nY sJ eG iY lY jR jW jZ jO oQ bR aY jQ gY iJ mQ lJ jA bG mK jB mW mJ eJ dG bT aG jC bL bY jD mLn oF rP dQ aJ aB bW bZ aR aE bI aW bU fJ dO bM bQ bO jY oX qG nG pJ sW uE) H -> va_D A (aEy cI cC cZ cB cJ a_m nY sJ eG iY lY jR jW jZ jO oQ bR aY jQ gY iJ mQ lJ jA bG mK jB mW mJ eJ dG bT aG jC bL bY jD mLn oF rP dQ aJ aB bW bZ aR aE bI aW bU fJ dO bM bQ bO jY oX qG nG pJ sW uE) -> va_S A s.heap H locs -> lv_has ls 6 [(0, .ref a_m), (2, .int x2), (3, .int x3), (4, .int x4), (5, .int x5)] -> W p l e rm_X10_route s m args below meth c H locs 0 0 (MQ below (q_X10_route dC dI cI cC cZ cB cJ A a_m nY sJ eG iY lY jR jW jZ jO oQ bR aY jQ gY iJ mQ lJ jA bG mK jB mW mJ eJ dG bT aG jC jD mLn oF rP dQ aJ aB bW bZ aR aE bI aW bU fJ dO bM bQ bO jY oX qG nG pJ post) args s 0 0 A) (F0 m 61 ls [])) : ∀ (x2 x3 x4 x5 bL bY : Int32) (sW uE : Nat -> Int32) (H : Heap) (locs : List Loc) (ls : Array Slot), (ws_X10_route_61 post K54 next aG qG nG pJ) x2 x3 x4 x5 bL bY sW uE -> va_P (dC, dI) classes (aEy cI cC cZ cB cJ a_m nY sJ eG iY lY jR jW jZ jO oQ bR aY jQ gY iJ mQ lJ jA bG mK jB mW mJ eJ dG bT aG jC bL bY jD mLn oF rP dQ aJ aB bW bZ aR aE bI aW bU fJ dO bM bQ bO jY oX qG nG pJ sW uE) H -> va_D A (aEy cI cC cZ cB cJ a_m nY sJ eG iY lY jR jW jZ jO oQ bR aY jQ gY iJ mQ lJ jA bG mK jB mW mJ eJ dG bT aG jC bL bY jD mLn oF rP dQ aJ aB bW bZ aR aE bI aW bU fJ dO bM bQ bO jY oX qG nG pJ sW uE) -> va_S A s.heap H locs -> lv_has ls 6 [(0, .ref a_m), (2, .int x2), (3, .int x3), (4, .int x4), (5, .int x5)] -> W p l e rm_X10_route s m args below meth c H locs 0 0 (MQ below (q_X10_route dC dI cI cC cZ cB cJ A a_m nY sJ eG iY lY jR jW jZ jO oQ bR aY jQ gY iJ mQ lJ jA bG mK jB mW mJ eJ dG bT aG jC jD mLn oF rP dQ aJ aB bW bZ aR aE bI aW bU fJ dO bM bQ bO jY oX qG nG pJ post) args s 0 0 A) (F0 m 61 ls []) := by
  obtain ⟨hx, hb, hr, hml, hown, hts, hlocks, hA, hK, hN, tL, tM, hZL, hTL, hZM, hTM, hZX⟩ := id C0
  intro x2 x3 x4 x5 bL bY sW uE H locs ls hp hP hD hS hl
  unfold ws_X10_route_61 at hp
  refine lv_iload_n hx hb aTG.2.2.2.2.1 rfl (lv_at hl 1 rfl) ?_
  refine lv_iload hx hb aTG.2.2.2.2.2.1 (lv_at hl 4 rfl) ?_
  have hm := mgk (wc := (aLW cI cC cZ cB cJ)) hP mk_208 6 rfl rfl rfl
  refine yW hP hD hS hA (yS mk_208) (aAi mk_208) hm.1 hm.2 (aAk _) (zW _) (aDn (As := [.int x2, .int x5]) (rest := []) C0 hP hD hS (yS mk_208) hm.1 (aAl _) (aUP l dC dI cI cC cZ cB cJ H.size x2 x5 _ hp) q_734 q_736 q_735 aBL aUT rfl rfl ⟨lbz rfl, lbz rfl⟩ rfl rfl hl.1 rfl (lv_room (lbz rfl)) aTG.2.2.2.2.2.2.1 ⟨Nat.zero_le _, Nat.zero_le _⟩) (fun r_8 u H locs hp hP hD hS => ?_)
  have hPD := PDm (ws' := (aEy cI cC cZ cB cJ a_m nY sJ eG iY lY jR jW jZ jO oQ bR aY jQ gY iJ mQ lJ jA bG mK jB mW mJ eJ dG bT aG jC bL bY jD mLn oF rP dQ aJ aB bW bZ aR aE bI aW bU fJ dO bM bQ bO jY oX qG nG pJ sW uE)) hP hD 6 rfl rfl rfl
  have hP := hPD.1
  have hD := hPD.2
  refine lv_if_eq (tgt := 105) hx hb aTG.2.2.2.2.2.2.2.1 (by decide) (fun hc => ?_) (fun hc => ?_)
  · have hp := hp.1 hc
    exact ks_X10_route_105 C0 hK54 hKn x2 x3 x4 x5 bL bY sW uE H locs ls hp hP hD hS (lv_sub hl [0, 1, 2, 3, 4] rfl)
  · have hp := hp.2 hc
    refine lv_aload_n hx hb aTG.2.2.2.2.2.2.2.2.1 rfl (lv_at hl 0 rfl) ?_
    refine lv_iload_n hx hb aTG.2.2.2.2.2.2.2.2.2.1 rfl (lv_at hl 2 rfl) ?_
    refine lv_iload hx hb aTG.2.2.2.2.2.2.2.2.2.2.1 (lv_at hl 4 rfl) ?_
    have hm := mgk (wc := (wd_X10_moveOf cI cC cZ cB cJ a_m nY sJ eG iY lY jR jW jZ jO oQ bR aY jQ gY iJ mQ lJ jA bG mK jB mW mJ eJ dG bT aG jC bL bY jD mLn oF rP dQ aJ aB bW bZ aR aE bI aW bU fJ dO bM bQ bO jY oX nG pJ)) hP mk_209 6 rfl rfl rfl
    refine yW hP hD hS hA (yS mk_209) (aAi mk_209) hm.1 hm.2 (aAk _) (zW _) (zF (As := [.int x3, .int x5]) (rest := []) C0 hP hD hS (yS mk_209) hm.1 (aAl _) 0 10 rfl rfl (c_X10_moveOf l dC dI cI cC cZ cB cJ a_m nY sJ eG iY lY jR jW jZ jO oQ bR aY jQ gY iJ mQ lJ jA bG mK jB mW mJ eJ dG H.size x3 x5 bT aG jC bL bY jD mLn oF rP dQ aJ aB bW bZ aR aE bI aW bU fJ dO bM bQ bO jY oX nG pJ _ hp) q_771 q_774 q_772 q_773 aBL h_X10_moveOf rfl rfl ⟨lbz rfl, lbz rfl⟩ rfl rfl hl.1 rfl (lv_room (lbz rfl)) aTG.2.2.2.2.2.2.2.2.2.2.2.1 ⟨Nat.zero_le _, Nat.zero_le _⟩) (fun r_10 u H locs hp hP hD hS => ?_)
    have hPD := PDm (ws' := (aEy cI cC cZ cB cJ a_m nY sJ eG iY lY jR jW jZ jO oQ bR aY jQ gY iJ mQ lJ jA bG mK jB mW mJ eJ dG bT aG jC bL bY jD mLn oF rP dQ aJ aB bW bZ aR aE bI aW bU fJ dO bM bQ bO jY oX qG nG pJ sW uE)) hP hD 6 rfl rfl rfl
    have hP := hPD.1
    have hD := hPD.2
    refine lv_aload_n hx hb aTG.2.2.2.2.2.2.2.2.2.2.2.2.1 rfl (lv_at hl 0 rfl) ?_
    refine lv_iload hx hb aTG.2.2.2.2.2.2.2.2.2.2.2.2.2.1 (lv_at hl 4 rfl) ?_
    refine lv_iload_n hx hb aTG.2.2.2.2.2.2.2.2.2.2.2.2.2.2.1 rfl (lv_at hl 1 rfl) ?_
    refine lv_iconst (v := 1) hx hb aTG.2.2.2.2.2.2.2.2.2.2.2.2.2.2.2 aDx ?_
    refine lv_iload hx hb aTH.1 (lv_at hl 4 rfl) ?_
    refine lv_ishl hx hb aTH.2.1 ?_
    refine lv_topi (fun aGH ev_11 => ?_)
    have hp := hp aGH ev_11
    refine lv_iconst (v := (-1)) hx hb aTH.2.2.1 aEJ ?_
    refine lv_ixor hx hb aTH.2.2.2.1 ?_
    refine lv_iand hx hb aTH.2.2.2.2.1 ?_
    refine lv_topi (fun aEp ev_12 => ?_)
    have hp := hp aEp ev_12
    have hm := mgk (wc := (aYC cI cC cZ cB cJ a_m nY sJ eG iY lY jR jW jZ jO oQ bR aY jQ gY iJ mQ lJ jA bG mK jB mW mJ eJ dG bT aG jC bL bY jD mLn oF rP dQ aJ aB bW bZ aR aE bI aW bU fJ dO bM bQ bO jY oX uE)) hP mk_222 6 rfl rfl rfl
    refine yW hP hD hS hA (yS mk_222) (aAi mk_222) hm.1 hm.2 (aAk _) (zW _) (zF (As := [.int x5, .int aEp]) (rest := [.int r_10]) C0 hP hD hS (yS mk_222) hm.1 (aAl _) 0 10 rfl rfl (c_X10_leastMoves l dC dI cI cC cZ cB cJ a_m nY sJ eG iY lY jR jW jZ jO oQ bR aY jQ gY iJ mQ lJ jA bG mK jB mW mJ eJ dG H.size x5 aEp bT aG jC bL bY jD mLn oF rP dQ aJ aB bW bZ aR aE bI aW bU fJ dO bM bQ bO jY oX uE _ hp) q_912 q_915 q_913 q_914 aBL h_X10_leastMoves rfl rfl ⟨lbz rfl, lbz rfl⟩ rfl rfl hl.1 rfl (lv_room (lbz rfl)) aTH.2.2.2.2.2.1 ⟨Nat.zero_le _, Nat.zero_le _⟩) (fun r_13 u H locs hp hP hD hS => ?_)
    have hPD := PDm (ws' := (aEy cI cC cZ cB cJ a_m nY sJ eG iY lY jR jW jZ jO oQ bR aY jQ gY iJ mQ lJ jA bG mK jB mW mJ eJ dG bT aG jC bL bY jD mLn oF rP dQ aJ aB bW bZ aR aE bI aW bU fJ dO bM bQ bO jY oX qG nG pJ sW uE)) hP hD 6 rfl rfl rfl
    have hP := hPD.1
    have hD := hPD.2
    refine lv_iadd hx hb aTH.2.2.2.2.2.2.1 ?_
    refine lv_topi (fun aGC ev_14 => ?_)
    have hp := hp aGC ev_14
    refine lv_aload_n hx hb aTH.2.2.2.2.2.2.2.1 rfl (lv_at hl 0 rfl) ?_
    refine lv_aload_n hx hb aTH.2.2.2.2.2.2.2.2.1 rfl (lv_at hl 0 rfl) ?_
    refine lv_iload_n hx hb aTH.2.2.2.2.2.2.2.2.2.1 rfl (lv_at hl 2 rfl) ?_
    have hm := mgk (wc := (wd_X10_placeOf cI cC cZ cB cJ a_m)) hP mk_208 6 rfl rfl rfl
    refine yW hP hD hS hA (yS mk_208) (aAi mk_208) hm.1 hm.2 (aAk _) (zW _) (zF (As := [.int x3]) (rest := [.ref a_m, .int aGC]) C0 hP hD hS (yS mk_208) hm.1 (aAl _) 0 10 rfl rfl (c_X10_placeOf l dC dI cI cC cZ cB cJ a_m H.size x3 _ hp) q_924 q_927 q_925 q_926 aBL h_X10_placeOf rfl rfl ⟨lbz rfl, lbz rfl⟩ rfl rfl hl.1 rfl (lv_room (lbz rfl)) aTH.2.2.2.2.2.2.2.2.2.2.1 ⟨Nat.zero_le _, Nat.zero_le _⟩) (fun r_15 u H locs hp hP hD hS => ?_)
    have hPD := PDm (ws' := (aEy cI cC cZ cB cJ a_m nY sJ eG iY lY jR jW jZ jO oQ bR aY jQ gY iJ mQ lJ jA bG mK jB mW mJ eJ dG bT aG jC bL bY jD mLn oF rP dQ aJ aB bW bZ aR aE bI aW bU fJ dO bM bQ bO jY oX qG nG pJ sW uE)) hP hD 6 rfl rfl rfl
    have hP := hPD.1
    have hD := hPD.2
    refine lv_iload_n hx hb aTH.2.2.2.2.2.2.2.2.2.2.2.1 rfl (lv_at hl 1 rfl) ?_
    have hm := mgk (wc := (aYC cI cC cZ cB cJ a_m nY sJ eG iY lY jR jW jZ jO oQ bR aY jQ gY iJ mQ lJ jA bG mK jB mW mJ eJ dG bT aG jC bL bY jD mLn oF rP dQ aJ aB bW bZ aR aE bI aW bU fJ dO bM bQ bO jY oX uE)) hP mk_222 6 rfl rfl rfl
    refine yW hP hD hS hA (yS mk_222) (aAi mk_222) hm.1 hm.2 (aAk _) (zW _) (zF (As := [.int r_15, .int x2]) (rest := [.int aGC]) C0 hP hD hS (yS mk_222) hm.1 (aAl _) 0 10 rfl rfl (c_X10_leastMoves l dC dI cI cC cZ cB cJ a_m nY sJ eG iY lY jR jW jZ jO oQ bR aY jQ gY iJ mQ lJ jA bG mK jB mW mJ eJ dG H.size r_15 x2 bT aG jC bL bY jD mLn oF rP dQ aJ aB bW bZ aR aE bI aW bU fJ dO bM bQ bO jY oX uE _ hp) q_912 q_915 q_913 q_914 aBL h_X10_leastMoves rfl rfl ⟨lbz rfl, lbz rfl⟩ rfl rfl hl.1 rfl (lv_room (lbz rfl)) aTH.2.2.2.2.2.2.2.2.2.2.2.2.1 ⟨Nat.zero_le _, Nat.zero_le _⟩) (fun r_16 u H locs hp hP hD hS => ?_)
    have hPD := PDm (ws' := (aEy cI cC cZ cB cJ a_m nY sJ eG iY lY jR jW jZ jO oQ bR aY jQ gY iJ mQ lJ jA bG mK jB mW mJ eJ dG bT aG jC bL bY jD mLn oF rP dQ aJ aB bW bZ aR aE bI aW bU fJ dO bM bQ bO jY oX qG nG pJ sW uE)) hP hD 6 rfl rfl rfl
    have hP := hPD.1
    have hD := hPD.2
    refine lv_icmp_eq (tgt := 111) hx hb aTH.2.2.2.2.2.2.2.2.2.2.2.2.2.1 (by decide) (fun hc => ?_) (fun hc => ?_)
    · have hp := hp.1 hc
      refine lv_aload_n hx hb aQW.1 rfl (lv_at hl 0 rfl) ?_
      refine lv_iload hx hb aQW.2.1 (lv_at hl 4 rfl) ?_
      have hm := mgk (wc := (aD0 cI cC cZ cB cJ a_m nY sJ eG iY lY jR jW jZ jO oQ bR aY jQ gY iJ mQ lJ jA bG mK jB mW mJ eJ dG bT aG jC bL bY jD mLn oF rP dQ aJ aB bW bZ aR aE bI aW bU fJ dO bM bQ bO jY oX sW)) hP mk_263 6 rfl rfl rfl
      refine aBn hP hD hS hA (yS mk_263) (aAi mk_263) hm.1 hm.2 (aAk _) (zW _) (zF (As := [.int x5]) (rest := []) C0 hP hD hS (yS mk_263) hm.1 (aAl _) 0 10 rfl rfl (aGE l dC dI cI cC cZ cB cJ a_m nY sJ eG iY lY jR jW jZ jO oQ bR aY jQ gY iJ mQ lJ jA bG mK jB mW mJ eJ dG H.size x5 bT aG jC bL bY jD mLn oF rP dQ aJ aB bW bZ aR aE bI aW bU fJ dO bM bQ bO jY oX sW _ hp) q_849 q_852 q_850 q_851 aBL aGF rfl rfl ⟨lbz rfl, lbz rfl⟩ rfl rfl hl.1 rfl (lv_room (lbz rfl)) aQW.2.2.1 ⟨Nat.zero_le _, Nat.zero_le _⟩) (fun u H locs hp hP hD hS => ?_)
      obtain ⟨m_rowMany_17, m_row_18⟩ := u
      have hPD := PDm (ws' := (aEy cI cC cZ cB cJ a_m nY sJ eG iY lY jR jW jZ jO oQ bR aY jQ gY iJ mQ lJ jA bG mK jB mW mJ eJ dG bT aG jC m_rowMany_17 bY jD mLn oF rP dQ aJ aB bW bZ aR aE bI aW bU fJ dO bM bQ bO jY oX qG nG pJ m_row_18 uE)) hP hD 6 rfl rfl rfl
      have hP := hPD.1
      have hD := hPD.2
      refine lv_iload hx hb aQW.2.2.2.1 (lv_at hl 4 rfl) ?_
      refine lv_istore_n (lv' := [(3, .int x5), (0, .ref a_m), (2, .int x2), (4, .int x4), (5, .int x5)]) hx hb aQW.2.2.2.2.1 rfl hl (by decide) rfl (fun ls hl => ?_)
      refine lv_iload_n hx hb aQW.2.2.2.2.2.1 rfl (lv_at hl 2 rfl) ?_
      refine lv_iconst (v := 1) hx hb aQW.2.2.2.2.2.2.1 aDx ?_
      refine lv_iload hx hb aQW.2.2.2.2.2.2.2.1 (lv_at hl 4 rfl) ?_
      refine lv_ishl hx hb aQW.2.2.2.2.2.2.2.2.1 ?_
      refine lv_topi (fun v_19 ev_19 => ?_)
      have hp := hp v_19 ev_19
      refine lv_iconst (v := (-1)) hx hb aQW.2.2.2.2.2.2.2.2.2.1 aEJ ?_
      refine lv_ixor hx hb aQW.2.2.2.2.2.2.2.2.2.2.1 ?_
      refine lv_iand hx hb aQW.2.2.2.2.2.2.2.2.2.2.2.1 ?_
      refine lv_topi (fun v_20 ev_20 => ?_)
      have hp := hp v_20 ev_20
      refine lv_istore_n (lv' := [(2, .int v_20), (3, .int x5), (0, .ref a_m), (4, .int x4), (5, .int x5)]) hx hb aQW.2.2.2.2.2.2.2.2.2.2.2.2.1 rfl hl (by decide) rfl (fun ls hl => ?_)
      refine lv_goto (tgt := 54) hx hb aQW.2.2.2.2.2.2.2.2.2.2.2.2.2.1 (by decide) ?_
      exact hK54 v_20 x5 x4 m_rowMany_17 bY m_row_18 uE H locs ls hp hP hD hS (lv_sub hl [2, 0, 1, 3] rfl)
    · have hp := hp.2 hc
      exact ks_X10_route_105 C0 hK54 hKn x2 x3 x4 x5 bL bY sW uE H locs ls hp hP hD hS (lv_sub hl [0, 1, 2, 3, 4] rfl)
set_option maxHeartbeats 4000000 in
set_option maxRecDepth 100000 in
theorem kb_X10_route_61 (C0 : gc aCt (some .int) 6 zX (dC, dI) (tyl cI cC cZ cB cJ) A p s m args meth c) {K54 : Int32 -> Int32 -> Int32 -> Int32 -> Int32 -> (Nat -> Int32) -> (Nat -> Int32) -> Prop} (hK54 : ∀ (x2 : Int32) (x3 : Int32) (x4 : Int32) (bL : Int32) (bY : Int32) (sW : Nat -> Int32) (uE : Nat -> Int32) (H : Heap) (locs : List Loc) (ls : Array Slot), K54 x2 x3 x4 bL bY sW uE -> va_P (dC, dI) classes (aEy cI cC cZ cB cJ a_m nY sJ eG iY lY jR jW jZ jO oQ bR aY jQ gY iJ mQ lJ jA bG mK jB mW mJ eJ dG bT aG jC bL bY jD mLn oF rP dQ aJ aB bW bZ aR aE bI aW bU fJ dO bM bQ bO jY oX qG nG pJ sW uE) H -> va_D A (aEy cI cC cZ cB cJ a_m nY sJ eG iY lY jR jW jZ jO oQ bR aY jQ gY iJ mQ lJ jA bG mK jB mW mJ eJ dG bT aG jC bL bY jD mLn oF rP dQ aJ aB bW bZ aR aE bI aW bU fJ dO bM bQ bO jY oX qG nG pJ sW uE) -> va_S A s.heap H locs -> lv_has ls 6 [(0, .ref a_m), (2, .int x2), (3, .int x3), (4, .int x4)] -> W p l e rm_X10_route s m args below meth c H locs 0 0 (MQ below (q_X10_route dC dI cI cC cZ cB cJ A a_m nY sJ eG iY lY jR jW jZ jO oQ bR aY jQ gY iJ mQ lJ jA bG mK jB mW mJ eJ dG bT aG jC jD mLn oF rP dQ aJ aB bW bZ aR aE bI aW bU fJ dO bM bQ bO jY oX qG nG pJ post) args s 0 0 A) (F0 m 54 ls [])) : ∀ (n : Nat), ∀ (x2 x3 x4 x5 bL bY : Int32) (sW uE : Nat -> Int32) (H : Heap) (locs : List Loc) (ls : Array Slot), (wb_X10_route_61 post K54 aG qG nG pJ n) x2 x3 x4 x5 bL bY sW uE -> va_P (dC, dI) classes (aEy cI cC cZ cB cJ a_m nY sJ eG iY lY jR jW jZ jO oQ bR aY jQ gY iJ mQ lJ jA bG mK jB mW mJ eJ dG bT aG jC bL bY jD mLn oF rP dQ aJ aB bW bZ aR aE bI aW bU fJ dO bM bQ bO jY oX qG nG pJ sW uE) H -> va_D A (aEy cI cC cZ cB cJ a_m nY sJ eG iY lY jR jW jZ jO oQ bR aY jQ gY iJ mQ lJ jA bG mK jB mW mJ eJ dG bT aG jC bL bY jD mLn oF rP dQ aJ aB bW bZ aR aE bI aW bU fJ dO bM bQ bO jY oX qG nG pJ sW uE) -> va_S A s.heap H locs -> lv_has ls 6 [(0, .ref a_m), (2, .int x2), (3, .int x3), (4, .int x4), (5, .int x5)] -> W p l e rm_X10_route s m args below meth c H locs 0 0 (MQ below (q_X10_route dC dI cI cC cZ cB cJ A a_m nY sJ eG iY lY jR jW jZ jO oQ bR aY jQ gY iJ mQ lJ jA bG mK jB mW mJ eJ dG bT aG jC jD mLn oF rP dQ aJ aB bW bZ aR aE bI aW bU fJ dO bM bQ bO jY oX qG nG pJ post) args s 0 0 A) (F0 m 61 ls []) := by
  intro n
  induction n with
  | zero =>
    intro x2 x3 x4 x5 bL bY sW uE H locs ls hp
    exact False.elim hp
  | succ n ih =>
    intro x2 x3 x4 x5 bL bY sW uE H locs ls hp
    exact ks_X10_route_61 C0 hK54 ih x2 x3 x4 x5 bL bY sW uE H locs ls hp
def ws_X10_route_54 (post : Int32 -> Int32 -> Int32 -> (Nat -> Int32) -> (Nat -> Int32) -> Prop) (next : Int32 -> Int32 -> Int32 -> Int32 -> Int32 -> (Nat -> Int32) -> (Nat -> Int32) -> Prop) (aG : Int32) (qG nG pJ : Nat -> Int32) (x2 x3 x4 bL bY : Int32) (sW uE : Nat -> Int32) : Prop := (x2 = 0 -> post x4 bL bY sW uE) /\ (¬ x2 = 0 -> ∃ n : Nat, wb_X10_route_61 post next aG qG nG pJ n x2 x3 x4 0 bL bY sW uE)
noncomputable def wb_X10_route_54 (post : Int32 -> Int32 -> Int32 -> (Nat -> Int32) -> (Nat -> Int32) -> Prop) (aG : Int32) (qG nG pJ : Nat -> Int32) : Nat -> Int32 -> Int32 -> Int32 -> Int32 -> Int32 -> (Nat -> Int32) -> (Nat -> Int32) -> Prop := fun n => Nat.rec (motive := fun _ => Int32 -> Int32 -> Int32 -> Int32 -> Int32 -> (Nat -> Int32) -> (Nat -> Int32) -> Prop) (fun _ _ _ _ _ _ _ => False) (fun _ ih => ws_X10_route_54 post ih aG qG nG pJ) n
set_option maxHeartbeats 4000000 in
set_option maxRecDepth 100000 in
theorem ks_X10_route_54 (C0 : gc aCt (some .int) 6 zX (dC, dI) (tyl cI cC cZ cB cJ) A p s m args meth c) {next : Int32 -> Int32 -> Int32 -> Int32 -> Int32 -> (Nat -> Int32) -> (Nat -> Int32) -> Prop} (hKn : ∀ (x2 : Int32) (x3 : Int32) (x4 : Int32) (bL : Int32) (bY : Int32) (sW : Nat -> Int32) (uE : Nat -> Int32) (H : Heap) (locs : List Loc) (ls : Array Slot), next x2 x3 x4 bL bY sW uE -> va_P (dC, dI) classes (aEy cI cC cZ cB cJ a_m nY sJ eG iY lY jR jW jZ jO oQ bR aY jQ gY iJ mQ lJ jA bG mK jB mW mJ eJ dG bT aG jC bL bY jD mLn oF rP dQ aJ aB bW bZ aR aE bI aW bU fJ dO bM bQ bO jY oX qG nG pJ sW uE) H -> va_D A (aEy cI cC cZ cB cJ a_m nY sJ eG iY lY jR jW jZ jO oQ bR aY jQ gY iJ mQ lJ jA bG mK jB mW mJ eJ dG bT aG jC bL bY jD mLn oF rP dQ aJ aB bW bZ aR aE bI aW bU fJ dO bM bQ bO jY oX qG nG pJ sW uE) -> va_S A s.heap H locs -> lv_has ls 6 [(0, .ref a_m), (2, .int x2), (3, .int x3), (4, .int x4)] -> W p l e rm_X10_route s m args below meth c H locs 0 0 (MQ below (q_X10_route dC dI cI cC cZ cB cJ A a_m nY sJ eG iY lY jR jW jZ jO oQ bR aY jQ gY iJ mQ lJ jA bG mK jB mW mJ eJ dG bT aG jC jD mLn oF rP dQ aJ aB bW bZ aR aE bI aW bU fJ dO bM bQ bO jY oX qG nG pJ post) args s 0 0 A) (F0 m 54 ls [])) : ∀ (x2 x3 x4 bL bY : Int32) (sW uE : Nat -> Int32) (H : Heap) (locs : List Loc) (ls : Array Slot), (ws_X10_route_54 post next aG qG nG pJ) x2 x3 x4 bL bY sW uE -> va_P (dC, dI) classes (aEy cI cC cZ cB cJ a_m nY sJ eG iY lY jR jW jZ jO oQ bR aY jQ gY iJ mQ lJ jA bG mK jB mW mJ eJ dG bT aG jC bL bY jD mLn oF rP dQ aJ aB bW bZ aR aE bI aW bU fJ dO bM bQ bO jY oX qG nG pJ sW uE) H -> va_D A (aEy cI cC cZ cB cJ a_m nY sJ eG iY lY jR jW jZ jO oQ bR aY jQ gY iJ mQ lJ jA bG mK jB mW mJ eJ dG bT aG jC bL bY jD mLn oF rP dQ aJ aB bW bZ aR aE bI aW bU fJ dO bM bQ bO jY oX qG nG pJ sW uE) -> va_S A s.heap H locs -> lv_has ls 6 [(0, .ref a_m), (2, .int x2), (3, .int x3), (4, .int x4)] -> W p l e rm_X10_route s m args below meth c H locs 0 0 (MQ below (q_X10_route dC dI cI cC cZ cB cJ A a_m nY sJ eG iY lY jR jW jZ jO oQ bR aY jQ gY iJ mQ lJ jA bG mK jB mW mJ eJ dG bT aG jC jD mLn oF rP dQ aJ aB bW bZ aR aE bI aW bU fJ dO bM bQ bO jY oX qG nG pJ post) args s 0 0 A) (F0 m 54 ls []) := by
  obtain ⟨hx, hb, hr, hml, hown, hts, hlocks, hA, hK, hN, tL, tM, hZL, hTL, hZM, hTM, hZX⟩ := id C0
  intro x2 x3 x4 bL bY sW uE H locs ls hp hP hD hS hl
  unfold ws_X10_route_54 at hp
  refine lv_iload_n hx hb aTG.1 rfl (lv_at hl 1 rfl) ?_
  refine lv_if_eq (tgt := 132) hx hb aTG.2.1 (by decide) (fun hc => ?_) (fun hc => ?_)
  · have hp := hp.1 hc
    refine lv_iload hx hb aQW.2.2.2.2.2.2.2.2.2.2.2.2.2.2.1 (lv_at hl 3 rfl) ?_
    exact W.iret (v := x4) hx hb hr (fun t ht hW => ⟨⟨x4, (bL, bY, sW, uE), rfl, hp, by rw [ht]; exact hP, va_K.moved hW.alike hK, hD⟩, hS.F ht⟩) hS.2.2 aQW.2.2.2.2.2.2.2.2.2.2.2.2.2.2.2
  · have hp := hp.2 hc
    refine lv_iconst (v := 0) hx hb aTG.2.2.1 aCi ?_
    refine lv_istore (lv' := [(5, .int 0), (0, .ref a_m), (2, .int x2), (3, .int x3), (4, .int x4)]) hx hb aTG.2.2.2.1 hl (by decide) rfl (fun ls hl => ?_)
    obtain ⟨n9, hp⟩ := hp
    exact kb_X10_route_61 C0 hKn n9 x2 x3 x4 0 bL bY sW uE H locs ls hp hP hD hS (lv_sub hl [1, 2, 3, 4, 0] rfl)
set_option maxHeartbeats 4000000 in
set_option maxRecDepth 100000 in
theorem kb_X10_route_54 (C0 : gc aCt (some .int) 6 zX (dC, dI) (tyl cI cC cZ cB cJ) A p s m args meth c) : ∀ (n : Nat), ∀ (x2 x3 x4 bL bY : Int32) (sW uE : Nat -> Int32) (H : Heap) (locs : List Loc) (ls : Array Slot), (wb_X10_route_54 post aG qG nG pJ n) x2 x3 x4 bL bY sW uE -> va_P (dC, dI) classes (aEy cI cC cZ cB cJ a_m nY sJ eG iY lY jR jW jZ jO oQ bR aY jQ gY iJ mQ lJ jA bG mK jB mW mJ eJ dG bT aG jC bL bY jD mLn oF rP dQ aJ aB bW bZ aR aE bI aW bU fJ dO bM bQ bO jY oX qG nG pJ sW uE) H -> va_D A (aEy cI cC cZ cB cJ a_m nY sJ eG iY lY jR jW jZ jO oQ bR aY jQ gY iJ mQ lJ jA bG mK jB mW mJ eJ dG bT aG jC bL bY jD mLn oF rP dQ aJ aB bW bZ aR aE bI aW bU fJ dO bM bQ bO jY oX qG nG pJ sW uE) -> va_S A s.heap H locs -> lv_has ls 6 [(0, .ref a_m), (2, .int x2), (3, .int x3), (4, .int x4)] -> W p l e rm_X10_route s m args below meth c H locs 0 0 (MQ below (q_X10_route dC dI cI cC cZ cB cJ A a_m nY sJ eG iY lY jR jW jZ jO oQ bR aY jQ gY iJ mQ lJ jA bG mK jB mW mJ eJ dG bT aG jC jD mLn oF rP dQ aJ aB bW bZ aR aE bI aW bU fJ dO bM bQ bO jY oX qG nG pJ post) args s 0 0 A) (F0 m 54 ls []) := by
  intro n
  induction n with
  | zero =>
    intro x2 x3 x4 bL bY sW uE H locs ls hp
    exact False.elim hp
  | succ n ih =>
    intro x2 x3 x4 bL bY sW uE H locs ls hp
    exact ks_X10_route_54 C0 ih x2 x3 x4 bL bY sW uE H locs ls hp
end S_X10_route
def wp_X10_route (post : Int32 -> Int32 -> Int32 -> (Nat -> Int32) -> (Nat -> Int32) -> Prop) (p0 aG bL bY : Int32) (qG nG pJ sW uE : Nat -> Int32) : Prop := aGu (fun r_1 => aJY (fun r_2 => (¬ r_2 = 0 -> wp_X10_layMoves (fun m_moves_3 => wp_X10_besides (fun r_4 => ∀ v_5 : Int32, v_5 = qG (17 : Int32).toNatClampNeg -> wp_X10_placeOf (fun r_6 => wp_X10_leastMoves (fun r_7 => ∃ n : Nat, wb_X10_route_54 post aG qG nG pJ n r_4 v_5 r_7 0 0 sW m_moves_3) r_6 r_4 m_moves_3) v_5) p0 qG) aG nG pJ uE) /\ (r_2 = 0 -> post (-1) bL 0 sW uE)) p0 0 r_1) aG
set_option maxHeartbeats 4000000 in
set_option maxRecDepth 100000 in
theorem c_X10_route (l : Launch) (dC : Nat -> ClassId) (dI : Nat -> Nat -> Nat) (cI cC cZ cB cJ : ClassId) (a_m nY sJ eG iY lY jR jW jZ jO oQ bR aY jQ gY iJ mQ lJ jA bG mK jB mW mJ eJ dG sz : Nat) (p0 bT aG jC bL bY : Int32) (jD : Nat) (mLn oF rP dQ aJ aB bW bZ aR aE bI aW bU fJ dO bM bQ bO jY oX : Int32) (qG nG pJ sW uE : Nat -> Int32) (post : Int32 -> Int32 -> Int32 -> (Nat -> Int32) -> (Nat -> Int32) -> Prop) (hw : wp_X10_route post p0 aG bL bY qG nG pJ sW uE) : Met l yX10_route (gw yX10_route aCt 6 (some .int)) rm_X10_route (va_Pc [.ref a_m, .int p0] (gPre (dC, dI) (tyl cI cC cZ cB cJ) (aEy cI cC cZ cB cJ a_m nY sJ eG iY lY jR jW jZ jO oQ bR aY jQ gY iJ mQ lJ jA bG mK jB mW mJ eJ dG bT aG jC bL bY jD mLn oF rP dQ aJ aB bW bZ aR aE bI aW bU fJ dO bM bQ bO jY oX qG nG pJ sW uE) sz)) (q_X10_route dC dI cI cC cZ cB cJ (va_A (aEy cI cC cZ cB cJ a_m nY sJ eG iY lY jR jW jZ jO oQ bR aY jQ gY iJ mQ lJ jA bG mK jB mW mJ eJ dG bT aG jC bL bY jD mLn oF rP dQ aJ aB bW bZ aR aE bI aW bU fJ dO bM bQ bO jY oX qG nG pJ sW uE) sz) a_m nY sJ eG iY lY jR jW jZ jO oQ bR aY jQ gY iJ mQ lJ jA bG mK jB mW mJ eJ dG bT aG jC jD mLn oF rP dQ aJ aB bW bZ aR aE bI aW bU fJ dO bM bQ bO jY oX qG nG pJ post) 0 0 (va_A (aEy cI cC cZ cB cJ a_m nY sJ eG iY lY jR jW jZ jO oQ bR aY jQ gY iJ mQ lJ jA bG mK jB mW mJ eJ dG bT aG jC bL bY jD mLn oF rP dQ aJ aB bW bZ aR aE bI aW bU fJ dO bM bQ bO jY oX qG nG pJ sW uE) sz) := by
  refine aBJ (own := zX) (dC, dI) (tyl cI cC cZ cB cJ) (aEy cI cC cZ cB cJ a_m nY sJ eG iY lY jR jW jZ jO oQ bR aY jQ gY iJ mQ lJ jA bG mK jB mW mJ eJ dG bT aG jC bL bY jD mLn oF rP dQ aJ aB bW bZ aR aE bI aW bU fJ dO bM bQ bO jY oX qG nG pJ sW uE) sz [.ref a_m, .int p0] (fun A => q_X10_route dC dI cI cC cZ cB cJ A a_m nY sJ eG iY lY jR jW jZ jO oQ bR aY jQ gY iJ mQ lJ jA bG mK jB mW mJ eJ dG bT aG jC jD mLn oF rP dQ aJ aB bW bZ aR aE bI aW bU fJ dO bM bQ bO jY oX qG nG pJ post) aFY rfl (lbz rfl) ?_
  intro p e s m args below meth c A H locs ls C0 hP hD hS hl
  have hl : lv_has ls 6 [(0, .ref a_m), (1, .int p0)] := hl
  obtain ⟨hx, hb, hr, hml, hown, hts, hlocks, hA, hK, hN, tL, tM, hZL, hTL, hZM, hTM, hZX⟩ := id C0
  have hp := hw
  unfold wp_X10_route at hp
  refine lv_aload_n hx hb aWN.1 rfl (lv_at hl 0 rfl) ?_
  refine lv_iconst (v := 0) hx hb aWN.2.1 aCi ?_
  refine va_put (D := (dC, dI)) (ci := 10) (v := .int 0) (ty := .int) (C := zX) (T := aBe) (N := 51) hx hb hts aAt aD2 aAa aEC hown hK hP hD hS 0 rfl rfl 14 (lbz rfl) (hts _ q_638) (fun _ h9 => h9) rfl (aAa 14 (lbz rfl)) rfl rfl (lbz rfl) aWN.2.2.1 (fun H locs hP hD hS => ?_)
  have hPD := PDw (ws' := (aEy cI cC cZ cB cJ a_m nY sJ eG iY lY jR jW jZ jO oQ bR aY jQ gY iJ mQ lJ jA bG mK jB mW mJ eJ dG bT aG jC bL 0 jD mLn oF rP dQ aJ aB bW bZ aR aE bI aW bU fJ dO bM bQ bO jY oX qG nG pJ sW uE)) hP hD rfl
  have hP := hPD.1
  have hD := hPD.2
  refine lv_iload_n hx hb aWN.2.2.2.1 rfl (lv_at hl 1 rfl) ?_
  refine lv_iconst (v := 0) hx hb aWN.2.2.2.2.1 aCi ?_
  refine lv_aload_n hx hb aWN.2.2.2.2.2.1 rfl (lv_at hl 0 rfl) ?_
  have hm := mgk (wc := (aGj cI cC cZ cB cJ a_m nY sJ eG iY lY jR jW jZ jO oQ bR aY jQ gY iJ mQ lJ jA bG mK jB mW mJ eJ dG bT aG jC bL 0 jD mLn oF rP dQ aJ aB bW bZ aR aE bI aW bU fJ dO bM bQ bO jY oX)) hP mk_24 6 rfl rfl rfl
  refine yW hP hD hS hA (yS mk_24) (aAi mk_24) hm.1 hm.2 (aAk _) (zW _) (zF (As := []) (rest := [.int 0, .int p0]) C0 hP hD hS (yS mk_24) hm.1 (aAl _) 0 10 rfl rfl (aKY l dC dI cI cC cZ cB cJ a_m nY sJ eG iY lY jR jW jZ jO oQ bR aY jQ gY iJ mQ lJ jA bG mK jB mW mJ eJ dG H.size bT aG jC bL 0 jD mLn oF rP dQ aJ aB bW bZ aR aE bI aW bU fJ dO bM bQ bO jY oX _ hp) q_870 q_873 q_871 q_872 aBL aKa rfl rfl ⟨lbz rfl, lbz rfl⟩ rfl rfl hl.1 rfl (lv_room (lbz rfl)) aWN.2.2.2.2.2.2.1 ⟨Nat.zero_le _, Nat.zero_le _⟩) (fun r_1 u H locs hp hP hD hS => ?_)
  have hPD := PDm (ws' := (aEy cI cC cZ cB cJ a_m nY sJ eG iY lY jR jW jZ jO oQ bR aY jQ gY iJ mQ lJ jA bG mK jB mW mJ eJ dG bT aG jC bL 0 jD mLn oF rP dQ aJ aB bW bZ aR aE bI aW bU fJ dO bM bQ bO jY oX qG nG pJ sW uE)) hP hD 6 rfl rfl rfl
  have hP := hPD.1
  have hD := hPD.2
  have hm := mgk (wc := (aKW cI cC cZ cB cJ)) hP mk_208 6 rfl rfl rfl
  refine yW hP hD hS hA (yS mk_208) (aAi mk_208) hm.1 hm.2 (aAk _) (zW _) (aDn (As := [.int p0, .int 0, .int r_1]) (rest := []) C0 hP hD hS (yS mk_208) hm.1 (aAl _) (aRu l dC dI cI cC cZ cB cJ H.size p0 0 r_1 _ hp) q_641 q_644 q_643 aBL aRx rfl rfl ⟨lbz rfl, lbz rfl⟩ rfl rfl hl.1 rfl (lv_room (lbz rfl)) aWN.2.2.2.2.2.2.2.1 ⟨Nat.zero_le _, Nat.zero_le _⟩) (fun r_2 u H locs hp hP hD hS => ?_)
  have hPD := PDm (ws' := (aEy cI cC cZ cB cJ a_m nY sJ eG iY lY jR jW jZ jO oQ bR aY jQ gY iJ mQ lJ jA bG mK jB mW mJ eJ dG bT aG jC bL 0 jD mLn oF rP dQ aJ aB bW bZ aR aE bI aW bU fJ dO bM bQ bO jY oX qG nG pJ sW uE)) hP hD 6 rfl rfl rfl
  have hP := hPD.1
  have hD := hPD.2
  refine lv_if_ne (tgt := 19) hx hb aWN.2.2.2.2.2.2.2.2.1 (by decide) (fun hc => ?_) (fun hc => ?_)
  · have hp := hp.1 hc
    refine lv_aload_n hx hb aWN.2.2.2.2.2.2.2.2.2.2.2.1 rfl (lv_at hl 0 rfl) ?_
    have hm := mgk (wc := (aBr cI cC cZ cB cJ a_m nY sJ eG iY lY jR jW jZ jO oQ bR aY jQ gY iJ mQ lJ jA bG mK jB mW mJ eJ dG bT aG jC bL 0 jD mLn oF rP dQ aJ aB bW bZ aR aE bI aW bU fJ dO bM bQ bO jY oX nG pJ uE)) hP mk_264 6 rfl rfl rfl
    refine aBn hP hD hS hA (yS mk_264) (aAi mk_264) hm.1 hm.2 (aAk _) (zW _) (zF (As := []) (rest := []) C0 hP hD hS (yS mk_264) hm.1 (aAl _) 0 10 rfl rfl (c_X10_layMoves l dC dI cI cC cZ cB cJ a_m nY sJ eG iY lY jR jW jZ jO oQ bR aY jQ gY iJ mQ lJ jA bG mK jB mW mJ eJ dG H.size bT aG jC bL 0 jD mLn oF rP dQ aJ aB bW bZ aR aE bI aW bU fJ dO bM bQ bO jY oX nG pJ uE _ hp) q_916 q_919 q_917 q_918 aBL h_X10_layMoves rfl rfl ⟨lbz rfl, lbz rfl⟩ rfl rfl hl.1 rfl (lv_room (lbz rfl)) aWN.2.2.2.2.2.2.2.2.2.2.2.2.1 ⟨Nat.zero_le _, Nat.zero_le _⟩) (fun u H locs hp hP hD hS => ?_)
    obtain ⟨m_moves_3, rfl⟩ : ∃ z, z = u := ⟨_, rfl⟩
    have hPD := PDm (ws' := (aEy cI cC cZ cB cJ a_m nY sJ eG iY lY jR jW jZ jO oQ bR aY jQ gY iJ mQ lJ jA bG mK jB mW mJ eJ dG bT aG jC bL 0 jD mLn oF rP dQ aJ aB bW bZ aR aE bI aW bU fJ dO bM bQ bO jY oX qG nG pJ sW m_moves_3)) hP hD 6 rfl rfl rfl
    have hP := hPD.1
    have hD := hPD.2
    refine lv_aload_n hx hb aWN.2.2.2.2.2.2.2.2.2.2.2.2.2.1 rfl (lv_at hl 0 rfl) ?_
    refine lv_iload_n hx hb aWN.2.2.2.2.2.2.2.2.2.2.2.2.2.2.1 rfl (lv_at hl 1 rfl) ?_
    have hm := mgk (wc := (wd_X10_besides cI cC cZ cB cJ a_m nY sJ eG iY lY jR jW jZ jO oQ bR aY jQ gY iJ mQ lJ jA bG mK jB mW mJ eJ dG bT aG jC bL 0 jD mLn oF rP dQ aJ aB bW bZ aR aE bI aW bU fJ dO bM bQ bO jY oX qG)) hP mk_26 6 rfl rfl rfl
    refine yW hP hD hS hA (yS mk_26) (aAi mk_26) hm.1 hm.2 (aAk _) (zW _) (zF (As := [.int p0]) (rest := []) C0 hP hD hS (yS mk_26) hm.1 (aAl _) 0 10 rfl rfl (c_X10_besides l dC dI cI cC cZ cB cJ a_m nY sJ eG iY lY jR jW jZ jO oQ bR aY jQ gY iJ mQ lJ jA bG mK jB mW mJ eJ dG H.size p0 bT aG jC bL 0 jD mLn oF rP dQ aJ aB bW bZ aR aE bI aW bU fJ dO bM bQ bO jY oX qG _ hp) q_920 q_923 q_921 q_922 aBL h_X10_besides rfl rfl ⟨lbz rfl, lbz rfl⟩ rfl rfl hl.1 rfl (lv_room (lbz rfl)) aWN.2.2.2.2.2.2.2.2.2.2.2.2.2.2.2 ⟨Nat.zero_le _, Nat.zero_le _⟩) (fun r_4 u H locs hp hP hD hS => ?_)
    have hPD := PDm (ws' := (aEy cI cC cZ cB cJ a_m nY sJ eG iY lY jR jW jZ jO oQ bR aY jQ gY iJ mQ lJ jA bG mK jB mW mJ eJ dG bT aG jC bL 0 jD mLn oF rP dQ aJ aB bW bZ aR aE bI aW bU fJ dO bM bQ bO jY oX qG nG pJ sW m_moves_3)) hP hD 6 rfl rfl rfl
    have hP := hPD.1
    have hD := hPD.2
    refine lv_istore_n (lv' := [(2, .int r_4), (0, .ref a_m), (1, .int p0)]) hx hb aTF.1 rfl hl (by decide) rfl (fun ls hl => ?_)
    refine lv_aload_n hx hb aTF.2.1 rfl (lv_at hl 1 rfl) ?_
    refine va_get (D := (dC, dI)) (ci := 10) (v := .ref nY) (C := zX) (T := aBe) (N := 51) hx hb hts aAt hown hK hP 0 rfl rfl 0 (lbz rfl) (hts _ aHO) (fun _ h9 => h9) rfl aTF.2.2.1 ?_
    refine lv_bipush (v := 17) hx hb aTF.2.2.2.1 bp_17 ?_
    refine va_iald hx hb hK hP 1 0 rfl rfl (g_in rfl) aTF.2.2.2.2.1 ?_
    refine lv_topi (fun v_5 aJD => ?_)
    have hp := hp v_5 aJD
    refine lv_istore_n (lv' := [(3, .int v_5), (2, .int r_4), (0, .ref a_m), (1, .int p0)]) hx hb aTF.2.2.2.2.2.1 rfl hl (by decide) rfl (fun ls hl => ?_)
    refine lv_aload_n hx hb aTF.2.2.2.2.2.2.1 rfl (lv_at hl 2 rfl) ?_
    refine lv_aload_n hx hb aTF.2.2.2.2.2.2.2.1 rfl (lv_at hl 2 rfl) ?_
    refine lv_iload_n hx hb aTF.2.2.2.2.2.2.2.2.1 rfl (lv_at hl 0 rfl) ?_
    have hm := mgk (wc := (wd_X10_placeOf cI cC cZ cB cJ a_m)) hP mk_208 6 rfl rfl rfl
    refine yW hP hD hS hA (yS mk_208) (aAi mk_208) hm.1 hm.2 (aAk _) (zW _) (zF (As := [.int v_5]) (rest := [.ref a_m]) C0 hP hD hS (yS mk_208) hm.1 (aAl _) 0 10 rfl rfl (c_X10_placeOf l dC dI cI cC cZ cB cJ a_m H.size v_5 _ hp) q_924 q_927 q_925 q_926 aBL h_X10_placeOf rfl rfl ⟨lbz rfl, lbz rfl⟩ rfl rfl hl.1 rfl (lv_room (lbz rfl)) aTF.2.2.2.2.2.2.2.2.2.1 ⟨Nat.zero_le _, Nat.zero_le _⟩) (fun r_6 u H locs hp hP hD hS => ?_)
    have hPD := PDm (ws' := (aEy cI cC cZ cB cJ a_m nY sJ eG iY lY jR jW jZ jO oQ bR aY jQ gY iJ mQ lJ jA bG mK jB mW mJ eJ dG bT aG jC bL 0 jD mLn oF rP dQ aJ aB bW bZ aR aE bI aW bU fJ dO bM bQ bO jY oX qG nG pJ sW m_moves_3)) hP hD 6 rfl rfl rfl
    have hP := hPD.1
    have hD := hPD.2
    refine lv_iload_n hx hb aTF.2.2.2.2.2.2.2.2.2.2.1 rfl (lv_at hl 1 rfl) ?_
    have hm := mgk (wc := (aYC cI cC cZ cB cJ a_m nY sJ eG iY lY jR jW jZ jO oQ bR aY jQ gY iJ mQ lJ jA bG mK jB mW mJ eJ dG bT aG jC bL 0 jD mLn oF rP dQ aJ aB bW bZ aR aE bI aW bU fJ dO bM bQ bO jY oX m_moves_3)) hP mk_222 6 rfl rfl rfl
    refine yW hP hD hS hA (yS mk_222) (aAi mk_222) hm.1 hm.2 (aAk _) (zW _) (zF (As := [.int r_6, .int r_4]) (rest := []) C0 hP hD hS (yS mk_222) hm.1 (aAl _) 0 10 rfl rfl (c_X10_leastMoves l dC dI cI cC cZ cB cJ a_m nY sJ eG iY lY jR jW jZ jO oQ bR aY jQ gY iJ mQ lJ jA bG mK jB mW mJ eJ dG H.size r_6 r_4 bT aG jC bL 0 jD mLn oF rP dQ aJ aB bW bZ aR aE bI aW bU fJ dO bM bQ bO jY oX m_moves_3 _ hp) q_912 q_915 q_913 q_914 aBL h_X10_leastMoves rfl rfl ⟨lbz rfl, lbz rfl⟩ rfl rfl hl.1 rfl (lv_room (lbz rfl)) aTF.2.2.2.2.2.2.2.2.2.2.2.1 ⟨Nat.zero_le _, Nat.zero_le _⟩) (fun r_7 u H locs hp hP hD hS => ?_)
    have hPD := PDm (ws' := (aEy cI cC cZ cB cJ a_m nY sJ eG iY lY jR jW jZ jO oQ bR aY jQ gY iJ mQ lJ jA bG mK jB mW mJ eJ dG bT aG jC bL 0 jD mLn oF rP dQ aJ aB bW bZ aR aE bI aW bU fJ dO bM bQ bO jY oX qG nG pJ sW m_moves_3)) hP hD 6 rfl rfl rfl
    have hP := hPD.1
    have hD := hPD.2
    refine lv_istore (lv' := [(4, .int r_7), (3, .int v_5), (2, .int r_4), (0, .ref a_m), (1, .int p0)]) hx hb aTF.2.2.2.2.2.2.2.2.2.2.2.2.1 hl (by decide) rfl (fun ls hl => ?_)
    refine lv_aload_n hx hb aTF.2.2.2.2.2.2.2.2.2.2.2.2.2.1 rfl (lv_at hl 3 rfl) ?_
    refine lv_iconst (v := 0) hx hb aTF.2.2.2.2.2.2.2.2.2.2.2.2.2.2.1 aCi ?_
    refine va_put (D := (dC, dI)) (ci := 10) (v := .int 0) (ty := .int) (C := zX) (T := aBe) (N := 51) hx hb hts aAt aD2 aAa aEC hown hK hP hD hS 0 rfl rfl 13 (lbz rfl) (hts _ q_847) (fun _ h9 => h9) rfl (aAa 13 (lbz rfl)) rfl rfl (lbz rfl) aTF.2.2.2.2.2.2.2.2.2.2.2.2.2.2.2 (fun H locs hP hD hS => ?_)
    have hPD := PDw (ws' := (aEy cI cC cZ cB cJ a_m nY sJ eG iY lY jR jW jZ jO oQ bR aY jQ gY iJ mQ lJ jA bG mK jB mW mJ eJ dG bT aG jC 0 0 jD mLn oF rP dQ aJ aB bW bZ aR aE bI aW bU fJ dO bM bQ bO jY oX qG nG pJ sW m_moves_3)) hP hD rfl
    have hP := hPD.1
    have hD := hPD.2
    obtain ⟨n9, hp⟩ := hp
    exact kb_X10_route_54 C0 n9 r_4 v_5 r_7 0 0 sW m_moves_3 H locs ls hp hP hD hS (lv_sub hl [3, 2, 1, 0] rfl)
  · have hp := hp.2 hc
    refine lv_iconst (v := (-1)) hx hb aWN.2.2.2.2.2.2.2.2.2.1 aEJ ?_
    exact W.iret (v := (-1)) hx hb hr (fun t ht hW => ⟨⟨(-1), (bL, 0, sW, uE), rfl, hp, by rw [ht]; exact hP, va_K.moved hW.alike hK, hD⟩, hS.F ht⟩) hS.2.2 aWN.2.2.2.2.2.2.2.2.2.2.1
abbrev aFU (cI cC cZ cB cJ : ClassId) (a_m nY sJ eG iY lY jR jW jZ jO oQ bR aY jQ gY iJ mQ lJ jA bG mK jB mW mJ eJ dG : Nat) (bT aG jC bL bY : Int32) (jD : Nat) (mLn oF rP dQ aJ aB bW bZ aR aE bI aW bU fJ dO bM bQ bO jY oX : Int32) (m_x gR pW nG oO qO qQ oJ : Nat -> Int32) : va_W := [(a_m, .inr (10, [.ref nY, .int bT, .ref sJ, .ref eG, .ref iY, .ref lY, .int aG, .ref jR, .ref jW, .ref jZ, .ref jO, .int jC, .ref oQ, .int bL, .int bY, rdv jO jQ jD, .int mLn, .int oF, .int rP, .int dQ, .ref bR, .ref aY, .int aJ, .int aB, .ref jQ, .int bW, .int bZ, .int aR, .int aE, .int bI, .int aW, .ref gY, .int bU, .ref iJ, .ref mQ, .int fJ, .ref lJ, .int dO, .ref jA, .ref bG, .int bM, .int bQ, .int bO, .ref mK, .ref jB, .ref mW, .int jY, .int oX, .ref mJ, .ref eJ, .ref dG])), (sJ, .inl (cI, 16, .inl m_x)), (eG, .inl (cI, 16, .inl gR)), (iY, .inl (cI, 16, .inl pW)), (jR, .inl (cI, 8, .inl nG)), (jW, .inl (cI, 8, .inl oO)), (jO, .inl (cB, 80, .inl qO)), (jQ, .inl (cB, 40, .inl qQ)), (bG, .inl (cI, 128, .inl oJ))]
abbrev aZa (dC : Nat -> ClassId) (dI : Nat -> Nat -> Nat) (cI cC cZ cB cJ : ClassId) (A : Nat -> Prop) (a_m nY sJ eG iY lY jR jW jZ jO oQ bR aY jQ gY iJ mQ lJ jA bG mK jB mW mJ eJ dG : Nat) (bT aG jC bL bY aJ aB bW bU fJ dO bM bQ bO jY oX : Int32) (m_x gR pW nG oO qO qQ : Nat -> Int32) (post : Nat -> Int32 -> Int32 -> Int32 -> Int32 -> Int32 -> Int32 -> Int32 -> Int32 -> Int32 -> (Nat -> Int32) -> Prop) : Array Value -> State -> Outcome -> State -> Prop := va_Qv (fun (u : Nat × Int32 × Int32 × Int32 × Int32 × Int32 × Int32 × Int32 × Int32 × Int32 × (Nat -> Int32)) => post u.1 u.2.1 u.2.2.1 u.2.2.2.1 u.2.2.2.2.1 u.2.2.2.2.2.1 u.2.2.2.2.2.2.1 u.2.2.2.2.2.2.2.1 u.2.2.2.2.2.2.2.2.1 u.2.2.2.2.2.2.2.2.2.1 u.2.2.2.2.2.2.2.2.2.2) (fun u t => gB (dC, dI) (tyl cI cC cZ cB cJ) A (aFU cI cC cZ cB cJ a_m nY sJ eG iY lY jR jW jZ jO oQ bR aY jQ gY iJ mQ lJ jA bG mK jB mW mJ eJ dG bT aG jC bL bY u.1 u.2.1 u.2.2.1 u.2.2.2.1 u.2.2.2.2.1 aJ aB bW u.2.2.2.2.2.1 u.2.2.2.2.2.2.1 u.2.2.2.2.2.2.2.1 u.2.2.2.2.2.2.2.2.1 u.2.2.2.2.2.2.2.2.2.1 bU fJ dO bM bQ bO jY oX m_x gR pW nG oO qO qQ u.2.2.2.2.2.2.2.2.2.2) t) A
abbrev bBL : Room := { frames := 266, cells := 0, slots := 0, locals := 8782 }
section S_X10_laySeconds
variable {p : Program} {l : Launch} {e : Env} {s : State} {m : MethodId} {args : Array Value} {below : List Frame} {meth : Method} {c : Code} {dC : Nat -> ClassId} {dI : Nat -> Nat -> Nat} {cI cC cZ cB cJ : ClassId} {A : Nat -> Prop} {a_m nY sJ eG iY lY jR jW jZ jO oQ bR aY jQ gY iJ mQ lJ jA bG mK jB mW mJ eJ dG : Nat} {bT aG jC bL bY aJ aB bW bU fJ dO bM bQ bO jY oX : Int32} {m_x gR pW nG oO qO qQ : Nat -> Int32} {post : Nat -> Int32 -> Int32 -> Int32 -> Int32 -> Int32 -> Int32 -> Int32 -> Int32 -> Int32 -> (Nat -> Int32) -> Prop}
def ws_X10_laySeconds_12 (post : Nat -> Int32 -> Int32 -> Int32 -> Int32 -> Int32 -> Int32 -> Int32 -> Int32 -> Int32 -> (Nat -> Int32) -> Prop) (K2 : Int32 -> Nat -> Int32 -> Int32 -> Int32 -> Int32 -> Int32 -> Int32 -> Int32 -> Int32 -> Int32 -> (Nat -> Int32) -> Prop) (next : Int32 -> Int32 -> Nat -> Int32 -> Int32 -> Int32 -> Int32 -> Int32 -> Int32 -> Int32 -> Int32 -> Int32 -> (Nat -> Int32) -> Prop) (bT aG bW : Int32) (m_x gR pW nG oO qO qQ : Nat -> Int32) (x1 x2 : Int32) (jD : Nat) (mLn oF rP dQ bZ aR aE bI aW : Int32) (oJ : Nat -> Int32) : Prop := (bT <= x2 -> ∀ v_1 : Int32, v_1 = x1 + 1 -> K2 v_1 jD mLn oF rP dQ bZ aR aE bI aW oJ) /\ (¬ bT <= x2 -> ∀ v_2 : Int32, v_2 = 16 * x1 -> ∀ v_3 : Int32, v_3 = v_2 + x2 -> aXm (fun r_4 aO4 aJT aVQ m_at_8 aIS aG0 aEt aDY aFP aEs => vp_in v_3 128 /\ (∀ aHe : Int32, aHe = x2 + 1 -> next x1 aHe aO4 aJT aVQ m_at_8 aIS aG0 aEt aDY aFP aEs (upd oJ v_3.toNatClampNeg r_4))) x2 x1 0 0 jD mLn oF rP dQ bW bZ aR aE bI aW m_x gR pW nG oO qO qQ)
noncomputable def wb_X10_laySeconds_12 (post : Nat -> Int32 -> Int32 -> Int32 -> Int32 -> Int32 -> Int32 -> Int32 -> Int32 -> Int32 -> (Nat -> Int32) -> Prop) (K2 : Int32 -> Nat -> Int32 -> Int32 -> Int32 -> Int32 -> Int32 -> Int32 -> Int32 -> Int32 -> Int32 -> (Nat -> Int32) -> Prop) (bT aG bW : Int32) (m_x gR pW nG oO qO qQ : Nat -> Int32) : Nat -> Int32 -> Int32 -> Nat -> Int32 -> Int32 -> Int32 -> Int32 -> Int32 -> Int32 -> Int32 -> Int32 -> Int32 -> (Nat -> Int32) -> Prop := fun n => Nat.rec (motive := fun _ => Int32 -> Int32 -> Nat -> Int32 -> Int32 -> Int32 -> Int32 -> Int32 -> Int32 -> Int32 -> Int32 -> Int32 -> (Nat -> Int32) -> Prop) (fun _ _ _ _ _ _ _ _ _ _ _ _ _ => False) (fun _ ih => ws_X10_laySeconds_12 post K2 ih bT aG bW m_x gR pW nG oO qO qQ) n
set_option maxHeartbeats 4000000 in
set_option maxRecDepth 100000 in
theorem ks_X10_laySeconds_12 (C0 : gc aD7 none 3 zX (dC, dI) (tyl cI cC cZ cB cJ) A p s m args meth c) {K2 : Int32 -> Nat -> Int32 -> Int32 -> Int32 -> Int32 -> Int32 -> Int32 -> Int32 -> Int32 -> Int32 -> (Nat -> Int32) -> Prop} {next : Int32 -> Int32 -> Nat -> Int32 -> Int32 -> Int32 -> Int32 -> Int32 -> Int32 -> Int32 -> Int32 -> Int32 -> (Nat -> Int32) -> Prop} (hK2 : ∀ (x1 : Int32) (jD : Nat) (mLn : Int32) (oF : Int32) (rP : Int32) (dQ : Int32) (bZ : Int32) (aR : Int32) (aE : Int32) (bI : Int32) (aW : Int32) (oJ : Nat -> Int32) (H : Heap) (locs : List Loc) (ls : Array Slot), K2 x1 jD mLn oF rP dQ bZ aR aE bI aW oJ -> va_P (dC, dI) classes (aFU cI cC cZ cB cJ a_m nY sJ eG iY lY jR jW jZ jO oQ bR aY jQ gY iJ mQ lJ jA bG mK jB mW mJ eJ dG bT aG jC bL bY jD mLn oF rP dQ aJ aB bW bZ aR aE bI aW bU fJ dO bM bQ bO jY oX m_x gR pW nG oO qO qQ oJ) H -> va_D A (aFU cI cC cZ cB cJ a_m nY sJ eG iY lY jR jW jZ jO oQ bR aY jQ gY iJ mQ lJ jA bG mK jB mW mJ eJ dG bT aG jC bL bY jD mLn oF rP dQ aJ aB bW bZ aR aE bI aW bU fJ dO bM bQ bO jY oX m_x gR pW nG oO qO qQ oJ) -> va_S A s.heap H locs -> lv_has ls 3 [(0, .ref a_m), (1, .int x1)] -> W p l e bBL s m args below meth c H locs 0 0 (MQ below (aZa dC dI cI cC cZ cB cJ A a_m nY sJ eG iY lY jR jW jZ jO oQ bR aY jQ gY iJ mQ lJ jA bG mK jB mW mJ eJ dG bT aG jC bL bY aJ aB bW bU fJ dO bM bQ bO jY oX m_x gR pW nG oO qO qQ post) args s 0 0 A) (F0 m 2 ls [])) (hKn : ∀ (x1 : Int32) (x2 : Int32) (jD : Nat) (mLn : Int32) (oF : Int32) (rP : Int32) (dQ : Int32) (bZ : Int32) (aR : Int32) (aE : Int32) (bI : Int32) (aW : Int32) (oJ : Nat -> Int32) (H : Heap) (locs : List Loc) (ls : Array Slot), next x1 x2 jD mLn oF rP dQ bZ aR aE bI aW oJ -> va_P (dC, dI) classes (aFU cI cC cZ cB cJ a_m nY sJ eG iY lY jR jW jZ jO oQ bR aY jQ gY iJ mQ lJ jA bG mK jB mW mJ eJ dG bT aG jC bL bY jD mLn oF rP dQ aJ aB bW bZ aR aE bI aW bU fJ dO bM bQ bO jY oX m_x gR pW nG oO qO qQ oJ) H -> va_D A (aFU cI cC cZ cB cJ a_m nY sJ eG iY lY jR jW jZ jO oQ bR aY jQ gY iJ mQ lJ jA bG mK jB mW mJ eJ dG bT aG jC bL bY jD mLn oF rP dQ aJ aB bW bZ aR aE bI aW bU fJ dO bM bQ bO jY oX m_x gR pW nG oO qO qQ oJ) -> va_S A s.heap H locs -> lv_has ls 3 [(0, .ref a_m), (1, .int x1), (2, .int x2)] -> W p l e bBL s m args below meth c H locs 0 0 (MQ below (aZa dC dI cI cC cZ cB cJ A a_m nY sJ eG iY lY jR jW jZ jO oQ bR aY jQ gY iJ mQ lJ jA bG mK jB mW mJ eJ dG bT aG jC bL bY aJ aB bW bU fJ dO bM bQ bO jY oX m_x gR pW nG oO qO qQ post) args s 0 0 A) (F0 m 12 ls [])) : ∀ (x1 x2 : Int32) (jD : Nat) (mLn oF rP dQ bZ aR aE bI aW : Int32) (oJ : Nat -> Int32) (H : Heap) (locs : List Loc) (ls : Array Slot), (ws_X10_laySeconds_12 post K2 next bT aG bW m_x gR pW nG oO qO qQ) x1 x2 jD mLn oF rP dQ bZ aR aE bI aW oJ -> va_P (dC, dI) classes (aFU cI cC cZ cB cJ a_m nY sJ eG iY lY jR jW jZ jO oQ bR aY jQ gY iJ mQ lJ jA bG mK jB mW mJ eJ dG bT aG jC bL bY jD mLn oF rP dQ aJ aB bW bZ aR aE bI aW bU fJ dO bM bQ bO jY oX m_x gR pW nG oO qO qQ oJ) H -> va_D A (aFU cI cC cZ cB cJ a_m nY sJ eG iY lY jR jW jZ jO oQ bR aY jQ gY iJ mQ lJ jA bG mK jB mW mJ eJ dG bT aG jC bL bY jD mLn oF rP dQ aJ aB bW bZ aR aE bI aW bU fJ dO bM bQ bO jY oX m_x gR pW nG oO qO qQ oJ) -> va_S A s.heap H locs -> lv_has ls 3 [(0, .ref a_m), (1, .int x1), (2, .int x2)] -> W p l e bBL s m args below meth c H locs 0 0 (MQ below (aZa dC dI cI cC cZ cB cJ A a_m nY sJ eG iY lY jR jW jZ jO oQ bR aY jQ gY iJ mQ lJ jA bG mK jB mW mJ eJ dG bT aG jC bL bY aJ aB bW bU fJ dO bM bQ bO jY oX m_x gR pW nG oO qO qQ post) args s 0 0 A) (F0 m 12 ls []) := by
  obtain ⟨hx, hb, hr, hml, hown, hts, hlocks, hA, hK, hN, tL, tM, hZL, hTL, hZM, hTM, hZX⟩ := id C0
  intro x1 x2 jD mLn oF rP dQ bZ aR aE bI aW oJ H locs ls hp hP hD hS hl
  unfold ws_X10_laySeconds_12 at hp
  refine lv_iload_n hx hb aKj.2.2.2.2.2.2.2.2.1 rfl (lv_at hl 2 rfl) ?_
  refine lv_aload_n hx hb aKj.2.2.2.2.2.2.2.2.2.1 rfl (lv_at hl 0 rfl) ?_
  refine va_get (D := (dC, dI)) (ci := 10) (v := .int bT) (C := zX) (T := aBe) (N := 51) hx hb hts aAt hown hK hP 0 rfl rfl 1 (lbz rfl) (hts _ q_677) (fun _ h9 => h9) rfl aKj.2.2.2.2.2.2.2.2.2.2.1 ?_
  refine lv_icmp_ge (tgt := 45) hx hb aKj.2.2.2.2.2.2.2.2.2.2.2.1 (by decide) (fun hc => ?_) (fun hc => ?_)
  · have hp := hp.1 hc
    obtain ⟨v_1, aFJ⟩ : ∃ y : Int32, y = x1 + 1 := ⟨_, rfl⟩
    refine lv_iinc (v := v_1) (lv' := [(1, .int v_1), (0, .ref a_m), (2, .int x2)]) hx hb aKZ.2.2.2.2.2.2.2.2.2.2.2.2.1 hl (k := 1) rfl (by rw [aFJ]; rfl) (by decide) rfl (fun ls hl => ?_)
    have hp := hp v_1 aFJ
    refine lv_goto (tgt := 2) hx hb aKZ.2.2.2.2.2.2.2.2.2.2.2.2.2.1 (by decide) ?_
    exact hK2 v_1 jD mLn oF rP dQ bZ aR aE bI aW oJ H locs ls hp hP hD hS (lv_sub hl [1, 0] rfl)
  · have hp := hp.2 hc
    refine lv_aload_n hx hb aKj.2.2.2.2.2.2.2.2.2.2.2.2.1 rfl (lv_at hl 0 rfl) ?_
    refine va_get (D := (dC, dI)) (ci := 10) (v := .ref bG) (C := zX) (T := aBe) (N := 51) hx hb hts aAt hown hK hP 0 rfl rfl 39 (lbz rfl) (hts _ q_928) (fun _ h9 => h9) rfl aKj.2.2.2.2.2.2.2.2.2.2.2.2.2.1 ?_
    refine lv_bipush (v := 16) hx hb aKj.2.2.2.2.2.2.2.2.2.2.2.2.2.2.1 bp_16 ?_
    refine lv_iload_n hx hb aKj.2.2.2.2.2.2.2.2.2.2.2.2.2.2.2 rfl (lv_at hl 1 rfl) ?_
    refine lv_imul hx hb aKZ.1 ?_
    refine lv_topi (fun v_2 aGO => ?_)
    have hp := hp v_2 aGO
    refine lv_iload_n hx hb aKZ.2.1 rfl (lv_at hl 2 rfl) ?_
    refine lv_iadd hx hb aKZ.2.2.1 ?_
    refine lv_topi (fun v_3 aGW => ?_)
    have hp := hp v_3 aGW
    refine lv_aload_n hx hb aKZ.2.2.2.1 rfl (lv_at hl 0 rfl) ?_
    refine lv_iload_n hx hb aKZ.2.2.2.2.1 rfl (lv_at hl 2 rfl) ?_
    refine lv_iload_n hx hb aKZ.2.2.2.2.2.1 rfl (lv_at hl 1 rfl) ?_
    refine lv_iconst (v := 0) hx hb aKZ.2.2.2.2.2.2.1 aCi ?_
    refine lv_iconst (v := 0) hx hb aKZ.2.2.2.2.2.2.2.1 aCi ?_
    have hm := mgk (wc := (aFV cI cC cZ cB cJ a_m nY sJ eG iY lY jR jW jZ jO oQ bR aY jQ gY iJ mQ lJ jA bG mK jB mW mJ eJ dG bT aG jC bL bY jD mLn oF rP dQ aJ aB bW bZ aR aE bI aW bU fJ dO bM bQ bO jY oX m_x gR pW nG oO qO qQ)) hP mk_227 9 rfl rfl rfl
    refine yW hP hD hS hA (yS mk_227) (aAi mk_227) hm.1 hm.2 (aAk _) (zW _) (zF (As := [.int x2, .int x1, .int 0, .int 0]) (rest := [.int v_3, .ref bG]) C0 hP hD hS (yS mk_227) hm.1 (aAl _) 0 10 rfl rfl (c_X10_secondsOf l dC dI cI cC cZ cB cJ a_m nY sJ eG iY lY jR jW jZ jO oQ bR aY jQ gY iJ mQ lJ jA bG mK jB mW mJ eJ dG H.size x2 x1 0 0 bT aG jC bL bY jD mLn oF rP dQ aJ aB bW bZ aR aE bI aW bU fJ dO bM bQ bO jY oX m_x gR pW nG oO qO qQ _ hp) q_804 q_807 q_805 q_806 aBL h_X10_secondsOf rfl rfl ⟨lbz rfl, lbz rfl⟩ rfl rfl hl.1 rfl (lv_room (lbz rfl)) aKZ.2.2.2.2.2.2.2.2.1 ⟨Nat.zero_le _, Nat.zero_le _⟩) (fun r_4 u H locs hp hP hD hS => ?_)
    obtain ⟨aO4, aJT, aVQ, m_at_8, aIS, aG0, aEt, aDY, aFP, aEs⟩ := u
    have hPD := PDm (ws' := (aFU cI cC cZ cB cJ a_m nY sJ eG iY lY jR jW jZ jO oQ bR aY jQ gY iJ mQ lJ jA bG mK jB mW mJ eJ dG bT aG jC bL bY aO4 aJT aVQ m_at_8 aIS aJ aB bW aG0 aEt aDY aFP aEs bU fJ dO bM bQ bO jY oX m_x gR pW nG oO qO qQ oJ)) hP hD 9 rfl rfl rfl
    have hP := hPD.1
    have hD := hPD.2
    have hin := hp.1
    have hp := hp.2
    refine va_iast hx hb hK hP hD hS 8 0 rfl rfl hin aKZ.2.2.2.2.2.2.2.2.2.1 (fun H locs hP hD hS => ?_)
    have hPD := PDw (ws' := (aFU cI cC cZ cB cJ a_m nY sJ eG iY lY jR jW jZ jO oQ bR aY jQ gY iJ mQ lJ jA bG mK jB mW mJ eJ dG bT aG jC bL bY aO4 aJT aVQ m_at_8 aIS aJ aB bW aG0 aEt aDY aFP aEs bU fJ dO bM bQ bO jY oX m_x gR pW nG oO qO qQ (upd oJ v_3.toNatClampNeg r_4))) hP hD rfl
    have hP := hPD.1
    have hD := hPD.2
    obtain ⟨aHe, ev_15⟩ : ∃ y : Int32, y = x2 + 1 := ⟨_, rfl⟩
    refine lv_iinc (v := aHe) (lv' := [(2, .int aHe), (0, .ref a_m), (1, .int x1)]) hx hb aKZ.2.2.2.2.2.2.2.2.2.2.1 hl (k := 2) rfl (by rw [ev_15]; rfl) (by decide) rfl (fun ls hl => ?_)
    have hp := hp aHe ev_15
    refine lv_goto (tgt := 12) hx hb aKZ.2.2.2.2.2.2.2.2.2.2.2.1 (by decide) ?_
    exact hKn x1 aHe aO4 aJT aVQ m_at_8 aIS aG0 aEt aDY aFP aEs (upd oJ v_3.toNatClampNeg r_4) H locs ls hp hP hD hS (lv_sub hl [1, 2, 0] rfl)
set_option maxHeartbeats 4000000 in
set_option maxRecDepth 100000 in
theorem kb_X10_laySeconds_12 (C0 : gc aD7 none 3 zX (dC, dI) (tyl cI cC cZ cB cJ) A p s m args meth c) {K2 : Int32 -> Nat -> Int32 -> Int32 -> Int32 -> Int32 -> Int32 -> Int32 -> Int32 -> Int32 -> Int32 -> (Nat -> Int32) -> Prop} (hK2 : ∀ (x1 : Int32) (jD : Nat) (mLn : Int32) (oF : Int32) (rP : Int32) (dQ : Int32) (bZ : Int32) (aR : Int32) (aE : Int32) (bI : Int32) (aW : Int32) (oJ : Nat -> Int32) (H : Heap) (locs : List Loc) (ls : Array Slot), K2 x1 jD mLn oF rP dQ bZ aR aE bI aW oJ -> va_P (dC, dI) classes (aFU cI cC cZ cB cJ a_m nY sJ eG iY lY jR jW jZ jO oQ bR aY jQ gY iJ mQ lJ jA bG mK jB mW mJ eJ dG bT aG jC bL bY jD mLn oF rP dQ aJ aB bW bZ aR aE bI aW bU fJ dO bM bQ bO jY oX m_x gR pW nG oO qO qQ oJ) H -> va_D A (aFU cI cC cZ cB cJ a_m nY sJ eG iY lY jR jW jZ jO oQ bR aY jQ gY iJ mQ lJ jA bG mK jB mW mJ eJ dG bT aG jC bL bY jD mLn oF rP dQ aJ aB bW bZ aR aE bI aW bU fJ dO bM bQ bO jY oX m_x gR pW nG oO qO qQ oJ) -> va_S A s.heap H locs -> lv_has ls 3 [(0, .ref a_m), (1, .int x1)] -> W p l e bBL s m args below meth c H locs 0 0 (MQ below (aZa dC dI cI cC cZ cB cJ A a_m nY sJ eG iY lY jR jW jZ jO oQ bR aY jQ gY iJ mQ lJ jA bG mK jB mW mJ eJ dG bT aG jC bL bY aJ aB bW bU fJ dO bM bQ bO jY oX m_x gR pW nG oO qO qQ post) args s 0 0 A) (F0 m 2 ls [])) : ∀ (n : Nat), ∀ (x1 x2 : Int32) (jD : Nat) (mLn oF rP dQ bZ aR aE bI aW : Int32) (oJ : Nat -> Int32) (H : Heap) (locs : List Loc) (ls : Array Slot), (wb_X10_laySeconds_12 post K2 bT aG bW m_x gR pW nG oO qO qQ n) x1 x2 jD mLn oF rP dQ bZ aR aE bI aW oJ -> va_P (dC, dI) classes (aFU cI cC cZ cB cJ a_m nY sJ eG iY lY jR jW jZ jO oQ bR aY jQ gY iJ mQ lJ jA bG mK jB mW mJ eJ dG bT aG jC bL bY jD mLn oF rP dQ aJ aB bW bZ aR aE bI aW bU fJ dO bM bQ bO jY oX m_x gR pW nG oO qO qQ oJ) H -> va_D A (aFU cI cC cZ cB cJ a_m nY sJ eG iY lY jR jW jZ jO oQ bR aY jQ gY iJ mQ lJ jA bG mK jB mW mJ eJ dG bT aG jC bL bY jD mLn oF rP dQ aJ aB bW bZ aR aE bI aW bU fJ dO bM bQ bO jY oX m_x gR pW nG oO qO qQ oJ) -> va_S A s.heap H locs -> lv_has ls 3 [(0, .ref a_m), (1, .int x1), (2, .int x2)] -> W p l e bBL s m args below meth c H locs 0 0 (MQ below (aZa dC dI cI cC cZ cB cJ A a_m nY sJ eG iY lY jR jW jZ jO oQ bR aY jQ gY iJ mQ lJ jA bG mK jB mW mJ eJ dG bT aG jC bL bY aJ aB bW bU fJ dO bM bQ bO jY oX m_x gR pW nG oO qO qQ post) args s 0 0 A) (F0 m 12 ls []) := by
  intro n
  induction n with
  | zero =>
    intro x1 x2 jD mLn oF rP dQ bZ aR aE bI aW oJ H locs ls hp
    exact False.elim hp
  | succ n ih =>
    intro x1 x2 jD mLn oF rP dQ bZ aR aE bI aW oJ H locs ls hp
    exact ks_X10_laySeconds_12 C0 hK2 ih x1 x2 jD mLn oF rP dQ bZ aR aE bI aW oJ H locs ls hp
def ws_X10_laySeconds_2 (post : Nat -> Int32 -> Int32 -> Int32 -> Int32 -> Int32 -> Int32 -> Int32 -> Int32 -> Int32 -> (Nat -> Int32) -> Prop) (next : Int32 -> Nat -> Int32 -> Int32 -> Int32 -> Int32 -> Int32 -> Int32 -> Int32 -> Int32 -> Int32 -> (Nat -> Int32) -> Prop) (bT aG bW : Int32) (m_x gR pW nG oO qO qQ : Nat -> Int32) (x1 : Int32) (jD : Nat) (mLn oF rP dQ bZ aR aE bI aW : Int32) (oJ : Nat -> Int32) : Prop := (aG <= x1 -> post jD mLn oF rP dQ bZ aR aE bI aW oJ) /\ (¬ aG <= x1 -> ∃ n : Nat, wb_X10_laySeconds_12 post next bT aG bW m_x gR pW nG oO qO qQ n x1 0 jD mLn oF rP dQ bZ aR aE bI aW oJ)
noncomputable def wb_X10_laySeconds_2 (post : Nat -> Int32 -> Int32 -> Int32 -> Int32 -> Int32 -> Int32 -> Int32 -> Int32 -> Int32 -> (Nat -> Int32) -> Prop) (bT aG bW : Int32) (m_x gR pW nG oO qO qQ : Nat -> Int32) : Nat -> Int32 -> Nat -> Int32 -> Int32 -> Int32 -> Int32 -> Int32 -> Int32 -> Int32 -> Int32 -> Int32 -> (Nat -> Int32) -> Prop := fun n => Nat.rec (motive := fun _ => Int32 -> Nat -> Int32 -> Int32 -> Int32 -> Int32 -> Int32 -> Int32 -> Int32 -> Int32 -> Int32 -> (Nat -> Int32) -> Prop) (fun _ _ _ _ _ _ _ _ _ _ _ _ => False) (fun _ ih => ws_X10_laySeconds_2 post ih bT aG bW m_x gR pW nG oO qO qQ) n
set_option maxHeartbeats 4000000 in
set_option maxRecDepth 100000 in
theorem ks_X10_laySeconds_2 (C0 : gc aD7 none 3 zX (dC, dI) (tyl cI cC cZ cB cJ) A p s m args meth c) {next : Int32 -> Nat -> Int32 -> Int32 -> Int32 -> Int32 -> Int32 -> Int32 -> Int32 -> Int32 -> Int32 -> (Nat -> Int32) -> Prop} (hKn : ∀ (x1 : Int32) (jD : Nat) (mLn : Int32) (oF : Int32) (rP : Int32) (dQ : Int32) (bZ : Int32) (aR : Int32) (aE : Int32) (bI : Int32) (aW : Int32) (oJ : Nat -> Int32) (H : Heap) (locs : List Loc) (ls : Array Slot), next x1 jD mLn oF rP dQ bZ aR aE bI aW oJ -> va_P (dC, dI) classes (aFU cI cC cZ cB cJ a_m nY sJ eG iY lY jR jW jZ jO oQ bR aY jQ gY iJ mQ lJ jA bG mK jB mW mJ eJ dG bT aG jC bL bY jD mLn oF rP dQ aJ aB bW bZ aR aE bI aW bU fJ dO bM bQ bO jY oX m_x gR pW nG oO qO qQ oJ) H -> va_D A (aFU cI cC cZ cB cJ a_m nY sJ eG iY lY jR jW jZ jO oQ bR aY jQ gY iJ mQ lJ jA bG mK jB mW mJ eJ dG bT aG jC bL bY jD mLn oF rP dQ aJ aB bW bZ aR aE bI aW bU fJ dO bM bQ bO jY oX m_x gR pW nG oO qO qQ oJ) -> va_S A s.heap H locs -> lv_has ls 3 [(0, .ref a_m), (1, .int x1)] -> W p l e bBL s m args below meth c H locs 0 0 (MQ below (aZa dC dI cI cC cZ cB cJ A a_m nY sJ eG iY lY jR jW jZ jO oQ bR aY jQ gY iJ mQ lJ jA bG mK jB mW mJ eJ dG bT aG jC bL bY aJ aB bW bU fJ dO bM bQ bO jY oX m_x gR pW nG oO qO qQ post) args s 0 0 A) (F0 m 2 ls [])) : ∀ (x1 : Int32) (jD : Nat) (mLn oF rP dQ bZ aR aE bI aW : Int32) (oJ : Nat -> Int32) (H : Heap) (locs : List Loc) (ls : Array Slot), (ws_X10_laySeconds_2 post next bT aG bW m_x gR pW nG oO qO qQ) x1 jD mLn oF rP dQ bZ aR aE bI aW oJ -> va_P (dC, dI) classes (aFU cI cC cZ cB cJ a_m nY sJ eG iY lY jR jW jZ jO oQ bR aY jQ gY iJ mQ lJ jA bG mK jB mW mJ eJ dG bT aG jC bL bY jD mLn oF rP dQ aJ aB bW bZ aR aE bI aW bU fJ dO bM bQ bO jY oX m_x gR pW nG oO qO qQ oJ) H -> va_D A (aFU cI cC cZ cB cJ a_m nY sJ eG iY lY jR jW jZ jO oQ bR aY jQ gY iJ mQ lJ jA bG mK jB mW mJ eJ dG bT aG jC bL bY jD mLn oF rP dQ aJ aB bW bZ aR aE bI aW bU fJ dO bM bQ bO jY oX m_x gR pW nG oO qO qQ oJ) -> va_S A s.heap H locs -> lv_has ls 3 [(0, .ref a_m), (1, .int x1)] -> W p l e bBL s m args below meth c H locs 0 0 (MQ below (aZa dC dI cI cC cZ cB cJ A a_m nY sJ eG iY lY jR jW jZ jO oQ bR aY jQ gY iJ mQ lJ jA bG mK jB mW mJ eJ dG bT aG jC bL bY aJ aB bW bU fJ dO bM bQ bO jY oX m_x gR pW nG oO qO qQ post) args s 0 0 A) (F0 m 2 ls []) := by
  obtain ⟨hx, hb, hr, hml, hown, hts, hlocks, hA, hK, hN, tL, tM, hZL, hTL, hZM, hTM, hZX⟩ := id C0
  intro x1 jD mLn oF rP dQ bZ aR aE bI aW oJ H locs ls hp hP hD hS hl
  unfold ws_X10_laySeconds_2 at hp
  refine lv_iload_n hx hb aKj.2.2.1 rfl (lv_at hl 1 rfl) ?_
  refine lv_aload_n hx hb aKj.2.2.2.1 rfl (lv_at hl 0 rfl) ?_
  refine va_get (D := (dC, dI)) (ci := 10) (v := .int aG) (C := zX) (T := aBe) (N := 51) hx hb hts aAt hown hK hP 0 rfl rfl 6 (lbz rfl) (hts _ q_666) (fun _ h9 => h9) rfl aKj.2.2.2.2.1 ?_
  refine lv_icmp_ge (tgt := 51) hx hb aKj.2.2.2.2.2.1 (by decide) (fun hc => ?_) (fun hc => ?_)
  · have hp := hp.1 hc
    exact W.vret hx hb hr (fun t ht hW => ⟨⟨(jD, mLn, oF, rP, dQ, bZ, aR, aE, bI, aW, oJ), rfl, hp, by rw [ht]; exact hP, va_K.moved hW.alike hK, hD⟩, hS.F ht⟩) hS.2.2 aKZ.2.2.2.2.2.2.2.2.2.2.2.2.2.2
  · have hp := hp.2 hc
    refine lv_iconst (v := 0) hx hb aKj.2.2.2.2.2.2.1 aCi ?_
    refine lv_istore_n (lv' := [(2, .int 0), (0, .ref a_m), (1, .int x1)]) hx hb aKj.2.2.2.2.2.2.2.1 rfl hl (by decide) rfl (fun ls hl => ?_)
    obtain ⟨n9, hp⟩ := hp
    exact kb_X10_laySeconds_12 C0 hKn n9 x1 0 jD mLn oF rP dQ bZ aR aE bI aW oJ H locs ls hp hP hD hS (lv_sub hl [1, 2, 0] rfl)
set_option maxHeartbeats 4000000 in
set_option maxRecDepth 100000 in
theorem kb_X10_laySeconds_2 (C0 : gc aD7 none 3 zX (dC, dI) (tyl cI cC cZ cB cJ) A p s m args meth c) : ∀ (n : Nat), ∀ (x1 : Int32) (jD : Nat) (mLn oF rP dQ bZ aR aE bI aW : Int32) (oJ : Nat -> Int32) (H : Heap) (locs : List Loc) (ls : Array Slot), (wb_X10_laySeconds_2 post bT aG bW m_x gR pW nG oO qO qQ n) x1 jD mLn oF rP dQ bZ aR aE bI aW oJ -> va_P (dC, dI) classes (aFU cI cC cZ cB cJ a_m nY sJ eG iY lY jR jW jZ jO oQ bR aY jQ gY iJ mQ lJ jA bG mK jB mW mJ eJ dG bT aG jC bL bY jD mLn oF rP dQ aJ aB bW bZ aR aE bI aW bU fJ dO bM bQ bO jY oX m_x gR pW nG oO qO qQ oJ) H -> va_D A (aFU cI cC cZ cB cJ a_m nY sJ eG iY lY jR jW jZ jO oQ bR aY jQ gY iJ mQ lJ jA bG mK jB mW mJ eJ dG bT aG jC bL bY jD mLn oF rP dQ aJ aB bW bZ aR aE bI aW bU fJ dO bM bQ bO jY oX m_x gR pW nG oO qO qQ oJ) -> va_S A s.heap H locs -> lv_has ls 3 [(0, .ref a_m), (1, .int x1)] -> W p l e bBL s m args below meth c H locs 0 0 (MQ below (aZa dC dI cI cC cZ cB cJ A a_m nY sJ eG iY lY jR jW jZ jO oQ bR aY jQ gY iJ mQ lJ jA bG mK jB mW mJ eJ dG bT aG jC bL bY aJ aB bW bU fJ dO bM bQ bO jY oX m_x gR pW nG oO qO qQ post) args s 0 0 A) (F0 m 2 ls []) := by
  intro n
  induction n with
  | zero =>
    intro x1 jD mLn oF rP dQ bZ aR aE bI aW oJ H locs ls hp
    exact False.elim hp
  | succ n ih =>
    intro x1 jD mLn oF rP dQ bZ aR aE bI aW oJ H locs ls hp
    exact ks_X10_laySeconds_2 C0 ih x1 jD mLn oF rP dQ bZ aR aE bI aW oJ H locs ls hp
end S_X10_laySeconds
def wp_X10_laySeconds (post : Nat -> Int32 -> Int32 -> Int32 -> Int32 -> Int32 -> Int32 -> Int32 -> Int32 -> Int32 -> (Nat -> Int32) -> Prop) (bT aG : Int32) (jD : Nat) (mLn oF rP dQ bW bZ aR aE bI aW : Int32) (m_x gR pW nG oO qO qQ oJ : Nat -> Int32) : Prop := ∃ n : Nat, wb_X10_laySeconds_2 post bT aG bW m_x gR pW nG oO qO qQ n 0 jD mLn oF rP dQ bZ aR aE bI aW oJ
set_option maxHeartbeats 4000000 in
set_option maxRecDepth 100000 in
theorem c_X10_laySeconds (l : Launch) (dC : Nat -> ClassId) (dI : Nat -> Nat -> Nat) (cI cC cZ cB cJ : ClassId) (a_m nY sJ eG iY lY jR jW jZ jO oQ bR aY jQ gY iJ mQ lJ jA bG mK jB mW mJ eJ dG sz : Nat) (bT aG jC bL bY : Int32) (jD : Nat) (mLn oF rP dQ aJ aB bW bZ aR aE bI aW bU fJ dO bM bQ bO jY oX : Int32) (m_x gR pW nG oO qO qQ oJ : Nat -> Int32) (post : Nat -> Int32 -> Int32 -> Int32 -> Int32 -> Int32 -> Int32 -> Int32 -> Int32 -> Int32 -> (Nat -> Int32) -> Prop) (hw : wp_X10_laySeconds post bT aG jD mLn oF rP dQ bW bZ aR aE bI aW m_x gR pW nG oO qO qQ oJ) : Met l aZE (gw aZE aD7 3 none) bBL (va_Pc [.ref a_m] (gPre (dC, dI) (tyl cI cC cZ cB cJ) (aFU cI cC cZ cB cJ a_m nY sJ eG iY lY jR jW jZ jO oQ bR aY jQ gY iJ mQ lJ jA bG mK jB mW mJ eJ dG bT aG jC bL bY jD mLn oF rP dQ aJ aB bW bZ aR aE bI aW bU fJ dO bM bQ bO jY oX m_x gR pW nG oO qO qQ oJ) sz)) (aZa dC dI cI cC cZ cB cJ (va_A (aFU cI cC cZ cB cJ a_m nY sJ eG iY lY jR jW jZ jO oQ bR aY jQ gY iJ mQ lJ jA bG mK jB mW mJ eJ dG bT aG jC bL bY jD mLn oF rP dQ aJ aB bW bZ aR aE bI aW bU fJ dO bM bQ bO jY oX m_x gR pW nG oO qO qQ oJ) sz) a_m nY sJ eG iY lY jR jW jZ jO oQ bR aY jQ gY iJ mQ lJ jA bG mK jB mW mJ eJ dG bT aG jC bL bY aJ aB bW bU fJ dO bM bQ bO jY oX m_x gR pW nG oO qO qQ post) 0 0 (va_A (aFU cI cC cZ cB cJ a_m nY sJ eG iY lY jR jW jZ jO oQ bR aY jQ gY iJ mQ lJ jA bG mK jB mW mJ eJ dG bT aG jC bL bY jD mLn oF rP dQ aJ aB bW bZ aR aE bI aW bU fJ dO bM bQ bO jY oX m_x gR pW nG oO qO qQ oJ) sz) := by
  refine aBJ (own := zX) (dC, dI) (tyl cI cC cZ cB cJ) (aFU cI cC cZ cB cJ a_m nY sJ eG iY lY jR jW jZ jO oQ bR aY jQ gY iJ mQ lJ jA bG mK jB mW mJ eJ dG bT aG jC bL bY jD mLn oF rP dQ aJ aB bW bZ aR aE bI aW bU fJ dO bM bQ bO jY oX m_x gR pW nG oO qO qQ oJ) sz [.ref a_m] (fun A => aZa dC dI cI cC cZ cB cJ A a_m nY sJ eG iY lY jR jW jZ jO oQ bR aY jQ gY iJ mQ lJ jA bG mK jB mW mJ eJ dG bT aG jC bL bY aJ aB bW bU fJ dO bM bQ bO jY oX m_x gR pW nG oO qO qQ post) aFY rfl (lbz rfl) ?_
  intro p e s m args below meth c A H locs ls C0 hP hD hS hl
  have hl : lv_has ls 3 [(0, .ref a_m)] := hl
  obtain ⟨hx, hb, hr, hml, hown, hts, hlocks, hA, hK, hN, tL, tM, hZL, hTL, hZM, hTM, hZX⟩ := id C0
  have hp := hw
  unfold wp_X10_laySeconds at hp
  refine lv_iconst (v := 0) hx hb aKj.1 aCi ?_
  refine lv_istore_n (lv' := [(1, .int 0), (0, .ref a_m)]) hx hb aKj.2.1 rfl hl (by decide) rfl (fun ls hl => ?_)
  obtain ⟨n9, hp⟩ := hp
  exact kb_X10_laySeconds_2 C0 n9 0 jD mLn oF rP dQ bZ aR aE bI aW oJ H locs ls hp hP hD hS (lv_sub hl [1, 0] rfl)
abbrev aCL (cI cC cZ cB cJ : ClassId) (a_m nY sJ eG iY lY jR jW jZ jO oQ bR aY jQ gY iJ mQ lJ jA bG mK jB mW mJ eJ dG : Nat) (bT aG jC bL bY : Int32) (jD : Nat) (mLn oF rP dQ aJ aB bW bZ aR aE bI aW bU fJ dO bM bQ bO jY oX : Int32) (qG oO pJ sH uE oJ vK : Nat -> Int32) : va_W := [(a_m, .inr (10, [.ref nY, .int bT, .ref sJ, .ref eG, .ref iY, .ref lY, .int aG, .ref jR, .ref jW, .ref jZ, .ref jO, .int jC, .ref oQ, .int bL, .int bY, rdv jO jQ jD, .int mLn, .int oF, .int rP, .int dQ, .ref bR, .ref aY, .int aJ, .int aB, .ref jQ, .int bW, .int bZ, .int aR, .int aE, .int bI, .int aW, .ref gY, .int bU, .ref iJ, .ref mQ, .int fJ, .ref lJ, .int dO, .ref jA, .ref bG, .int bM, .int bQ, .int bO, .ref mK, .ref jB, .ref mW, .int jY, .int oX, .ref mJ, .ref eJ, .ref dG])), (nY, .inl (cI, 21, .inl qG)), (jW, .inl (cI, 8, .inl oO)), (jZ, .inl (cI, 5, .inl pJ)), (lJ, .inl (cI, 8, .inl sH)), (jA, .inl (cI, 2304, .inl uE)), (bG, .inl (cI, 128, .inl oJ)), (mK, .inl (cI, 8, .inl vK))]
abbrev aLN (dC : Nat -> ClassId) (dI : Nat -> Nat -> Nat) (cI cC cZ cB cJ : ClassId) (A : Nat -> Prop) (a_m nY sJ eG iY lY jR jW jZ jO oQ bR aY jQ gY iJ mQ lJ jA bG mK jB mW mJ eJ dG : Nat) (bT aG jC bL bY : Int32) (jD : Nat) (mLn oF rP dQ aJ aB bW bZ aR aE bI aW bU fJ dO jY oX : Int32) (qG oO pJ sH uE oJ : Nat -> Int32) (post : Int32 -> Int32 -> Int32 -> Int32 -> (Nat -> Int32) -> Prop) : Array Value -> State -> Outcome -> State -> Prop := va_Qi (fun (r : Int32) (u : Int32 × Int32 × Int32 × (Nat -> Int32)) => post r u.1 u.2.1 u.2.2.1 u.2.2.2) (fun u t => gB (dC, dI) (tyl cI cC cZ cB cJ) A (aCL cI cC cZ cB cJ a_m nY sJ eG iY lY jR jW jZ jO oQ bR aY jQ gY iJ mQ lJ jA bG mK jB mW mJ eJ dG bT aG jC bL bY jD mLn oF rP dQ aJ aB bW bZ aR aE bI aW bU fJ dO u.1 u.2.1 u.2.2.1 jY oX qG oO pJ sH uE oJ u.2.2.2) t) A
abbrev aKI : Room := { frames := 1, cells := 0, slots := 0, locals := 22 }
section S_X10_workOf
variable {p : Program} {l : Launch} {e : Env} {s : State} {m : MethodId} {args : Array Value} {below : List Frame} {meth : Method} {c : Code} {dC : Nat -> ClassId} {dI : Nat -> Nat -> Nat} {cI cC cZ cB cJ : ClassId} {A : Nat -> Prop} {a_m nY sJ eG iY lY jR jW jZ jO oQ bR aY jQ gY iJ mQ lJ jA bG mK jB mW mJ eJ dG : Nat} {bT aG jC bL bY : Int32} {jD : Nat} {mLn oF rP dQ aJ aB bW bZ aR aE bI aW bU fJ dO jY oX : Int32} {qG oO pJ sH uE oJ : Nat -> Int32} {post : Int32 -> Int32 -> Int32 -> Int32 -> (Nat -> Int32) -> Prop}
def ws_X10_workOf_202 (post next : Int32 -> Int32 -> Int32 -> Int32 -> (Nat -> Int32) -> Prop) (bT aG dO : Int32) (qG oO pJ sH uE oJ : Nat -> Int32) (x2 bM bQ bO : Int32) (vK : Nat -> Int32) : Prop := (aG <= x2 -> ∀ v_5 : Int32, v_5 = bM + bQ -> post (v_5 + bO) bM bQ bO vK) /\ (¬ aG <= x2 -> vp_in x2 8 /\ (∀ v_6 : Int32, v_6 = vK x2.toNatClampNeg -> ∀ v_7 : Int32, v_7 = v_6 + (pJ (4 : Int32).toNatClampNeg) -> ∀ v_8 : Int32, v_8 = v_7 - 1 -> ¬ pJ (4 : Int32).toNatClampNeg = 0 /\ (∀ v_9 : Int32, v_9 = v_8 / (pJ (4 : Int32).toNatClampNeg) -> aZf (fun r_10 => ∀ aGH : Int32, aGH = bO + (v_9 * r_10) -> ∀ aEp : Int32, aEp = x2 + 1 -> next aEp bM bQ aGH vK) x2 oO)))
noncomputable def wb_X10_workOf_202 (post : Int32 -> Int32 -> Int32 -> Int32 -> (Nat -> Int32) -> Prop) (bT aG dO : Int32) (qG oO pJ sH uE oJ : Nat -> Int32) : Nat -> Int32 -> Int32 -> Int32 -> Int32 -> (Nat -> Int32) -> Prop := fun n => Nat.rec (motive := fun _ => Int32 -> Int32 -> Int32 -> Int32 -> (Nat -> Int32) -> Prop) (fun _ _ _ _ _ => False) (fun _ ih => ws_X10_workOf_202 post ih bT aG dO qG oO pJ sH uE oJ) n
set_option maxHeartbeats 4000000 in
set_option maxRecDepth 100000 in
theorem ks_X10_workOf_202 (C0 : gc aA6 (some .int) 5 zX (dC, dI) (tyl cI cC cZ cB cJ) A p s m args meth c) {next : Int32 -> Int32 -> Int32 -> Int32 -> (Nat -> Int32) -> Prop} (hKn : ∀ (x2 : Int32) (bM : Int32) (bQ : Int32) (bO : Int32) (vK : Nat -> Int32) (H : Heap) (locs : List Loc) (ls : Array Slot), next x2 bM bQ bO vK -> va_P (dC, dI) classes (aCL cI cC cZ cB cJ a_m nY sJ eG iY lY jR jW jZ jO oQ bR aY jQ gY iJ mQ lJ jA bG mK jB mW mJ eJ dG bT aG jC bL bY jD mLn oF rP dQ aJ aB bW bZ aR aE bI aW bU fJ dO bM bQ bO jY oX qG oO pJ sH uE oJ vK) H -> va_D A (aCL cI cC cZ cB cJ a_m nY sJ eG iY lY jR jW jZ jO oQ bR aY jQ gY iJ mQ lJ jA bG mK jB mW mJ eJ dG bT aG jC bL bY jD mLn oF rP dQ aJ aB bW bZ aR aE bI aW bU fJ dO bM bQ bO jY oX qG oO pJ sH uE oJ vK) -> va_S A s.heap H locs -> lv_has ls 5 [(0, .ref a_m), (2, .int x2)] -> W p l e aKI s m args below meth c H locs 0 0 (MQ below (aLN dC dI cI cC cZ cB cJ A a_m nY sJ eG iY lY jR jW jZ jO oQ bR aY jQ gY iJ mQ lJ jA bG mK jB mW mJ eJ dG bT aG jC bL bY jD mLn oF rP dQ aJ aB bW bZ aR aE bI aW bU fJ dO jY oX qG oO pJ sH uE oJ post) args s 0 0 A) (F0 m 202 ls [])) : ∀ (x2 bM bQ bO : Int32) (vK : Nat -> Int32) (H : Heap) (locs : List Loc) (ls : Array Slot), (ws_X10_workOf_202 post next bT aG dO qG oO pJ sH uE oJ) x2 bM bQ bO vK -> va_P (dC, dI) classes (aCL cI cC cZ cB cJ a_m nY sJ eG iY lY jR jW jZ jO oQ bR aY jQ gY iJ mQ lJ jA bG mK jB mW mJ eJ dG bT aG jC bL bY jD mLn oF rP dQ aJ aB bW bZ aR aE bI aW bU fJ dO bM bQ bO jY oX qG oO pJ sH uE oJ vK) H -> va_D A (aCL cI cC cZ cB cJ a_m nY sJ eG iY lY jR jW jZ jO oQ bR aY jQ gY iJ mQ lJ jA bG mK jB mW mJ eJ dG bT aG jC bL bY jD mLn oF rP dQ aJ aB bW bZ aR aE bI aW bU fJ dO bM bQ bO jY oX qG oO pJ sH uE oJ vK) -> va_S A s.heap H locs -> lv_has ls 5 [(0, .ref a_m), (2, .int x2)] -> W p l e aKI s m args below meth c H locs 0 0 (MQ below (aLN dC dI cI cC cZ cB cJ A a_m nY sJ eG iY lY jR jW jZ jO oQ bR aY jQ gY iJ mQ lJ jA bG mK jB mW mJ eJ dG bT aG jC bL bY jD mLn oF rP dQ aJ aB bW bZ aR aE bI aW bU fJ dO jY oX qG oO pJ sH uE oJ post) args s 0 0 A) (F0 m 202 ls []) := by
  obtain ⟨hx, hb, hr, hml, hown, hts, hlocks, hA, hK, hN, tL, tM, hZL, hTL, hZM, hTM, hZX⟩ := id C0
  intro x2 bM bQ bO vK H locs ls hp hP hD hS hl
  unfold ws_X10_workOf_202 at hp
  refine lv_iload_n hx hb aOB.2.2.2.1 rfl (lv_at hl 1 rfl) ?_
  refine lv_aload_n hx hb aOB.2.2.2.2.1 rfl (lv_at hl 0 rfl) ?_
  refine va_get (D := (dC, dI)) (ci := 10) (v := .int aG) (C := zX) (T := aBe) (N := 51) hx hb hts aAt hown hK hP 0 rfl rfl 6 (lbz rfl) (hts _ q_666) (fun _ h9 => h9) rfl aOB.2.2.2.2.2.1 ?_
  refine lv_icmp_ge (tgt := 253) hx hb aOB.2.2.2.2.2.2.1 (by decide) (fun hc => ?_) (fun hc => ?_)
  · have hp := hp.1 hc
    refine lv_aload_n hx hb aYt.2.2.1 rfl (lv_at hl 0 rfl) ?_
    refine va_get (D := (dC, dI)) (ci := 10) (v := .int bM) (C := zX) (T := aBe) (N := 51) hx hb hts aAt hown hK hP 0 rfl rfl 40 (lbz rfl) (hts _ q_929) (fun _ h9 => h9) rfl aYt.2.2.2.1 ?_
    refine lv_aload_n hx hb aYt.2.2.2.2.1 rfl (lv_at hl 0 rfl) ?_
    refine va_get (D := (dC, dI)) (ci := 10) (v := .int bQ) (C := zX) (T := aBe) (N := 51) hx hb hts aAt hown hK hP 0 rfl rfl 41 (lbz rfl) (hts _ q_930) (fun _ h9 => h9) rfl aYt.2.2.2.2.2.1 ?_
    refine lv_iadd hx hb aYt.2.2.2.2.2.2.1 ?_
    refine lv_topi (fun v_5 aJD => ?_)
    have hp := hp v_5 aJD
    refine lv_aload_n hx hb aYt.2.2.2.2.2.2.2.1 rfl (lv_at hl 0 rfl) ?_
    refine va_get (D := (dC, dI)) (ci := 10) (v := .int bO) (C := zX) (T := aBe) (N := 51) hx hb hts aAt hown hK hP 0 rfl rfl 42 (lbz rfl) (hts _ q_931) (fun _ h9 => h9) rfl aYt.2.2.2.2.2.2.2.2.1 ?_
    refine lv_iadd hx hb aYt.2.2.2.2.2.2.2.2.2.1 ?_
    exact W.iret (v := v_5 + bO) hx hb hr (fun t ht hW => ⟨⟨v_5 + bO, (bM, bQ, bO, vK), rfl, hp, by rw [ht]; exact hP, va_K.moved hW.alike hK, hD⟩, hS.F ht⟩) hS.2.2 aYt.2.2.2.2.2.2.2.2.2.2
  · have hp := hp.2 hc
    refine lv_aload_n hx hb aOB.2.2.2.2.2.2.2.1 rfl (lv_at hl 0 rfl) ?_
    refine lv_dup hx hb aOB.2.2.2.2.2.2.2.2.1 rfl ?_
    refine va_get (D := (dC, dI)) (ci := 10) (v := .int bO) (C := zX) (T := aBe) (N := 51) hx hb hts aAt hown hK hP 0 rfl rfl 42 (lbz rfl) (hts _ q_931) (fun _ h9 => h9) rfl aOB.2.2.2.2.2.2.2.2.2.1 ?_
    refine lv_aload_n hx hb aOB.2.2.2.2.2.2.2.2.2.2.1 rfl (lv_at hl 0 rfl) ?_
    refine va_get (D := (dC, dI)) (ci := 10) (v := .ref mK) (C := zX) (T := aBe) (N := 51) hx hb hts aAt hown hK hP 0 rfl rfl 43 (lbz rfl) (hts _ q_932) (fun _ h9 => h9) rfl aOB.2.2.2.2.2.2.2.2.2.2.2.1 ?_
    refine lv_iload_n hx hb aOB.2.2.2.2.2.2.2.2.2.2.2.2.1 rfl (lv_at hl 1 rfl) ?_
    have hin := hp.1
    have hp := hp.2
    refine va_iald hx hb hK hP 7 0 rfl rfl hin aOB.2.2.2.2.2.2.2.2.2.2.2.2.2.1 ?_
    refine lv_topi (fun v_6 ev_6 => ?_)
    have hp := hp v_6 ev_6
    refine lv_aload_n hx hb aOB.2.2.2.2.2.2.2.2.2.2.2.2.2.2.1 rfl (lv_at hl 0 rfl) ?_
    refine va_get (D := (dC, dI)) (ci := 10) (v := .ref jZ) (C := zX) (T := aBe) (N := 51) hx hb hts aAt hown hK hP 0 rfl rfl 9 (lbz rfl) (hts _ q_765) (fun _ h9 => h9) rfl aOB.2.2.2.2.2.2.2.2.2.2.2.2.2.2.2 ?_
    refine lv_iconst (v := 4) hx hb aOC.1 ic_4 ?_
    refine va_iald hx hb hK hP 3 0 rfl rfl (g_in rfl) aOC.2.1 ?_
    refine lv_iadd hx hb aOC.2.2.1 ?_
    refine lv_topi (fun v_7 ev_7 => ?_)
    have hp := hp v_7 ev_7
    refine lv_iconst (v := 1) hx hb aOC.2.2.2.1 aDx ?_
    refine lv_isub hx hb aOC.2.2.2.2.1 ?_
    refine lv_topi (fun v_8 ev_8 => ?_)
    have hp := hp v_8 ev_8
    refine lv_aload_n hx hb aOC.2.2.2.2.2.1 rfl (lv_at hl 0 rfl) ?_
    refine va_get (D := (dC, dI)) (ci := 10) (v := .ref jZ) (C := zX) (T := aBe) (N := 51) hx hb hts aAt hown hK hP 0 rfl rfl 9 (lbz rfl) (hts _ q_765) (fun _ h9 => h9) rfl aOC.2.2.2.2.2.2.1 ?_
    refine lv_iconst (v := 4) hx hb aOC.2.2.2.2.2.2.2.1 ic_4 ?_
    refine va_iald hx hb hK hP 3 0 rfl rfl (g_in rfl) aOC.2.2.2.2.2.2.2.2.1 ?_
    have hne := hp.1
    have hp := hp.2
    refine lv_idiv hx hb aOC.2.2.2.2.2.2.2.2.2.1 hne ?_
    refine lv_topi (fun v_9 ev_9 => ?_)
    have hp := hp v_9 ev_9
    refine lv_aload_n hx hb aOC.2.2.2.2.2.2.2.2.2.2.1 rfl (lv_at hl 0 rfl) ?_
    refine lv_iload_n hx hb aOC.2.2.2.2.2.2.2.2.2.2.2.1 rfl (lv_at hl 1 rfl) ?_
    have hm := mgk (wc := (wd_X10_downOf cI cC cZ cB cJ a_m nY sJ eG iY lY jR jW jZ jO oQ bR aY jQ gY iJ mQ lJ jA bG mK jB mW mJ eJ dG bT aG jC bL bY jD mLn oF rP dQ aJ aB bW bZ aR aE bI aW bU fJ dO bM bQ bO jY oX oO)) hP mk_265 8 rfl rfl rfl
    refine yW hP hD hS hA (yS mk_265) (aAi mk_265) hm.1 hm.2 (aAk _) (zW _) (zF (As := [.int x2]) (rest := [.int v_9, .int bO, .ref a_m]) C0 hP hD hS (yS mk_265) hm.1 (aAl _) 0 10 rfl rfl (c_X10_downOf l dC dI cI cC cZ cB cJ a_m nY sJ eG iY lY jR jW jZ jO oQ bR aY jQ gY iJ mQ lJ jA bG mK jB mW mJ eJ dG H.size x2 bT aG jC bL bY jD mLn oF rP dQ aJ aB bW bZ aR aE bI aW bU fJ dO bM bQ bO jY oX oO _ hp) q_761 q_764 q_762 q_763 aBL h_X10_downOf rfl rfl ⟨lbz rfl, lbz rfl⟩ rfl rfl hl.1 rfl (lv_room (lbz rfl)) aOC.2.2.2.2.2.2.2.2.2.2.2.2.1 ⟨Nat.zero_le _, Nat.zero_le _⟩) (fun r_10 u H locs hp hP hD hS => ?_)
    have hPD := PDm (ws' := (aCL cI cC cZ cB cJ a_m nY sJ eG iY lY jR jW jZ jO oQ bR aY jQ gY iJ mQ lJ jA bG mK jB mW mJ eJ dG bT aG jC bL bY jD mLn oF rP dQ aJ aB bW bZ aR aE bI aW bU fJ dO bM bQ bO jY oX qG oO pJ sH uE oJ vK)) hP hD 8 rfl rfl rfl
    have hP := hPD.1
    have hD := hPD.2
    refine lv_imul hx hb aOC.2.2.2.2.2.2.2.2.2.2.2.2.2.1 ?_
    refine lv_iadd hx hb aOC.2.2.2.2.2.2.2.2.2.2.2.2.2.2.1 ?_
    refine lv_topi (fun aGH ev_11 => ?_)
    have hp := hp aGH ev_11
    refine va_put (D := (dC, dI)) (ci := 10) (v := .int aGH) (ty := .int) (C := zX) (T := aBe) (N := 51) hx hb hts aAt aD2 aAa aEC hown hK hP hD hS 0 rfl rfl 42 (lbz rfl) (hts _ q_931) (fun _ h9 => h9) rfl (aAa 42 (lbz rfl)) rfl rfl (lbz rfl) aOC.2.2.2.2.2.2.2.2.2.2.2.2.2.2.2 (fun H locs hP hD hS => ?_)
    have hPD := PDw (ws' := (aCL cI cC cZ cB cJ a_m nY sJ eG iY lY jR jW jZ jO oQ bR aY jQ gY iJ mQ lJ jA bG mK jB mW mJ eJ dG bT aG jC bL bY jD mLn oF rP dQ aJ aB bW bZ aR aE bI aW bU fJ dO bM bQ aGH jY oX qG oO pJ sH uE oJ vK)) hP hD rfl
    have hP := hPD.1
    have hD := hPD.2
    obtain ⟨aEp, ev_12⟩ : ∃ y : Int32, y = x2 + 1 := ⟨_, rfl⟩
    refine lv_iinc (v := aEp) (lv' := [(2, .int aEp), (0, .ref a_m)]) hx hb aYt.1 hl (k := 1) rfl (by rw [ev_12]; rfl) (by decide) rfl (fun ls hl => ?_)
    have hp := hp aEp ev_12
    refine lv_goto (tgt := 202) hx hb aYt.2.1 (by decide) ?_
    exact hKn aEp bM bQ aGH vK H locs ls hp hP hD hS (lv_sub hl [1, 0] rfl)
set_option maxHeartbeats 4000000 in
set_option maxRecDepth 100000 in
theorem kb_X10_workOf_202 (C0 : gc aA6 (some .int) 5 zX (dC, dI) (tyl cI cC cZ cB cJ) A p s m args meth c) : ∀ (n : Nat), ∀ (x2 bM bQ bO : Int32) (vK : Nat -> Int32) (H : Heap) (locs : List Loc) (ls : Array Slot), (wb_X10_workOf_202 post bT aG dO qG oO pJ sH uE oJ n) x2 bM bQ bO vK -> va_P (dC, dI) classes (aCL cI cC cZ cB cJ a_m nY sJ eG iY lY jR jW jZ jO oQ bR aY jQ gY iJ mQ lJ jA bG mK jB mW mJ eJ dG bT aG jC bL bY jD mLn oF rP dQ aJ aB bW bZ aR aE bI aW bU fJ dO bM bQ bO jY oX qG oO pJ sH uE oJ vK) H -> va_D A (aCL cI cC cZ cB cJ a_m nY sJ eG iY lY jR jW jZ jO oQ bR aY jQ gY iJ mQ lJ jA bG mK jB mW mJ eJ dG bT aG jC bL bY jD mLn oF rP dQ aJ aB bW bZ aR aE bI aW bU fJ dO bM bQ bO jY oX qG oO pJ sH uE oJ vK) -> va_S A s.heap H locs -> lv_has ls 5 [(0, .ref a_m), (2, .int x2)] -> W p l e aKI s m args below meth c H locs 0 0 (MQ below (aLN dC dI cI cC cZ cB cJ A a_m nY sJ eG iY lY jR jW jZ jO oQ bR aY jQ gY iJ mQ lJ jA bG mK jB mW mJ eJ dG bT aG jC bL bY jD mLn oF rP dQ aJ aB bW bZ aR aE bI aW bU fJ dO jY oX qG oO pJ sH uE oJ post) args s 0 0 A) (F0 m 202 ls []) := by
  intro n
  induction n with
  | zero =>
    intro x2 bM bQ bO vK H locs ls hp
    exact False.elim hp
  | succ n ih =>
    intro x2 bM bQ bO vK H locs ls hp
    exact ks_X10_workOf_202 C0 ih x2 bM bQ bO vK H locs ls hp
def ws_X10_workOf_194 (post : Int32 -> Int32 -> Int32 -> Int32 -> (Nat -> Int32) -> Prop) (K57 : Int32 -> Int32 -> Int32 -> Int32 -> Int32 -> (Nat -> Int32) -> Prop) (bT aG dO : Int32) (qG oO pJ sH uE oJ : Nat -> Int32) (x1 x2 bM bQ bO : Int32) (vK : Nat -> Int32) : Prop := ∀ v_19 : Int32, v_19 = x2 + 1 -> K57 x1 v_19 bM bQ bO vK
set_option maxHeartbeats 4000000 in
set_option maxRecDepth 100000 in
theorem ks_X10_workOf_194 (C0 : gc aA6 (some .int) 5 zX (dC, dI) (tyl cI cC cZ cB cJ) A p s m args meth c) {K57 : Int32 -> Int32 -> Int32 -> Int32 -> Int32 -> (Nat -> Int32) -> Prop} (hK57 : ∀ (x1 : Int32) (x2 : Int32) (bM : Int32) (bQ : Int32) (bO : Int32) (vK : Nat -> Int32) (H : Heap) (locs : List Loc) (ls : Array Slot), K57 x1 x2 bM bQ bO vK -> va_P (dC, dI) classes (aCL cI cC cZ cB cJ a_m nY sJ eG iY lY jR jW jZ jO oQ bR aY jQ gY iJ mQ lJ jA bG mK jB mW mJ eJ dG bT aG jC bL bY jD mLn oF rP dQ aJ aB bW bZ aR aE bI aW bU fJ dO bM bQ bO jY oX qG oO pJ sH uE oJ vK) H -> va_D A (aCL cI cC cZ cB cJ a_m nY sJ eG iY lY jR jW jZ jO oQ bR aY jQ gY iJ mQ lJ jA bG mK jB mW mJ eJ dG bT aG jC bL bY jD mLn oF rP dQ aJ aB bW bZ aR aE bI aW bU fJ dO bM bQ bO jY oX qG oO pJ sH uE oJ vK) -> va_S A s.heap H locs -> lv_has ls 5 [(0, .ref a_m), (1, .int x1), (2, .int x2)] -> W p l e aKI s m args below meth c H locs 0 0 (MQ below (aLN dC dI cI cC cZ cB cJ A a_m nY sJ eG iY lY jR jW jZ jO oQ bR aY jQ gY iJ mQ lJ jA bG mK jB mW mJ eJ dG bT aG jC bL bY jD mLn oF rP dQ aJ aB bW bZ aR aE bI aW bU fJ dO jY oX qG oO pJ sH uE oJ post) args s 0 0 A) (F0 m 57 ls [])) : ∀ (x1 x2 bM bQ bO : Int32) (vK : Nat -> Int32) (H : Heap) (locs : List Loc) (ls : Array Slot), (ws_X10_workOf_194 post K57 bT aG dO qG oO pJ sH uE oJ) x1 x2 bM bQ bO vK -> va_P (dC, dI) classes (aCL cI cC cZ cB cJ a_m nY sJ eG iY lY jR jW jZ jO oQ bR aY jQ gY iJ mQ lJ jA bG mK jB mW mJ eJ dG bT aG jC bL bY jD mLn oF rP dQ aJ aB bW bZ aR aE bI aW bU fJ dO bM bQ bO jY oX qG oO pJ sH uE oJ vK) H -> va_D A (aCL cI cC cZ cB cJ a_m nY sJ eG iY lY jR jW jZ jO oQ bR aY jQ gY iJ mQ lJ jA bG mK jB mW mJ eJ dG bT aG jC bL bY jD mLn oF rP dQ aJ aB bW bZ aR aE bI aW bU fJ dO bM bQ bO jY oX qG oO pJ sH uE oJ vK) -> va_S A s.heap H locs -> lv_has ls 5 [(0, .ref a_m), (1, .int x1), (2, .int x2)] -> W p l e aKI s m args below meth c H locs 0 0 (MQ below (aLN dC dI cI cC cZ cB cJ A a_m nY sJ eG iY lY jR jW jZ jO oQ bR aY jQ gY iJ mQ lJ jA bG mK jB mW mJ eJ dG bT aG jC bL bY jD mLn oF rP dQ aJ aB bW bZ aR aE bI aW bU fJ dO jY oX qG oO pJ sH uE oJ post) args s 0 0 A) (F0 m 194 ls []) := by
  obtain ⟨hx, hb, hr, hml, hown, hts, hlocks, hA, hK, hN, tL, tM, hZL, hTL, hZM, hTM, hZX⟩ := id C0
  intro x1 x2 bM bQ bO vK H locs ls hp hP hD hS hl
  unfold ws_X10_workOf_194 at hp
  obtain ⟨v_19, ev_19⟩ : ∃ y : Int32, y = x2 + 1 := ⟨_, rfl⟩
  refine lv_iinc (v := v_19) (lv' := [(2, .int v_19), (0, .ref a_m), (1, .int x1)]) hx hb aOA.2.2.2.2.2.2.2.2.2.2.2.2.2.2.2 hl (k := 2) rfl (by rw [ev_19]; rfl) (by decide) rfl (fun ls hl => ?_)
  have hp := hp v_19 ev_19
  refine lv_goto (tgt := 57) hx hb aOB.1 (by decide) ?_
  exact hK57 x1 v_19 bM bQ bO vK H locs ls hp hP hD hS (lv_sub hl [1, 2, 0] rfl)
def ws_X10_workOf_150 (post : Int32 -> Int32 -> Int32 -> Int32 -> (Nat -> Int32) -> Prop) (K57 : Int32 -> Int32 -> Int32 -> Int32 -> Int32 -> (Nat -> Int32) -> Prop) (K84 : Int32 -> Int32 -> Int32 -> Int32 -> Int32 -> Int32 -> Int32 -> (Nat -> Int32) -> Prop) (bT aG dO : Int32) (qG oO pJ sH uE oJ : Nat -> Int32) (x1 x2 x3 x4 bM bQ bO : Int32) (vK : Nat -> Int32) : Prop := ∀ v_21 : Int32, v_21 = x4 + 1 -> K84 x1 x2 x3 v_21 bM bQ bO vK
set_option maxHeartbeats 4000000 in
set_option maxRecDepth 100000 in
theorem ks_X10_workOf_150 (C0 : gc aA6 (some .int) 5 zX (dC, dI) (tyl cI cC cZ cB cJ) A p s m args meth c) {K57 : Int32 -> Int32 -> Int32 -> Int32 -> Int32 -> (Nat -> Int32) -> Prop} {K84 : Int32 -> Int32 -> Int32 -> Int32 -> Int32 -> Int32 -> Int32 -> (Nat -> Int32) -> Prop} (hK57 : ∀ (x1 : Int32) (x2 : Int32) (bM : Int32) (bQ : Int32) (bO : Int32) (vK : Nat -> Int32) (H : Heap) (locs : List Loc) (ls : Array Slot), K57 x1 x2 bM bQ bO vK -> va_P (dC, dI) classes (aCL cI cC cZ cB cJ a_m nY sJ eG iY lY jR jW jZ jO oQ bR aY jQ gY iJ mQ lJ jA bG mK jB mW mJ eJ dG bT aG jC bL bY jD mLn oF rP dQ aJ aB bW bZ aR aE bI aW bU fJ dO bM bQ bO jY oX qG oO pJ sH uE oJ vK) H -> va_D A (aCL cI cC cZ cB cJ a_m nY sJ eG iY lY jR jW jZ jO oQ bR aY jQ gY iJ mQ lJ jA bG mK jB mW mJ eJ dG bT aG jC bL bY jD mLn oF rP dQ aJ aB bW bZ aR aE bI aW bU fJ dO bM bQ bO jY oX qG oO pJ sH uE oJ vK) -> va_S A s.heap H locs -> lv_has ls 5 [(0, .ref a_m), (1, .int x1), (2, .int x2)] -> W p l e aKI s m args below meth c H locs 0 0 (MQ below (aLN dC dI cI cC cZ cB cJ A a_m nY sJ eG iY lY jR jW jZ jO oQ bR aY jQ gY iJ mQ lJ jA bG mK jB mW mJ eJ dG bT aG jC bL bY jD mLn oF rP dQ aJ aB bW bZ aR aE bI aW bU fJ dO jY oX qG oO pJ sH uE oJ post) args s 0 0 A) (F0 m 57 ls [])) (hK84 : ∀ (x1 : Int32) (x2 : Int32) (x3 : Int32) (x4 : Int32) (bM : Int32) (bQ : Int32) (bO : Int32) (vK : Nat -> Int32) (H : Heap) (locs : List Loc) (ls : Array Slot), K84 x1 x2 x3 x4 bM bQ bO vK -> va_P (dC, dI) classes (aCL cI cC cZ cB cJ a_m nY sJ eG iY lY jR jW jZ jO oQ bR aY jQ gY iJ mQ lJ jA bG mK jB mW mJ eJ dG bT aG jC bL bY jD mLn oF rP dQ aJ aB bW bZ aR aE bI aW bU fJ dO bM bQ bO jY oX qG oO pJ sH uE oJ vK) H -> va_D A (aCL cI cC cZ cB cJ a_m nY sJ eG iY lY jR jW jZ jO oQ bR aY jQ gY iJ mQ lJ jA bG mK jB mW mJ eJ dG bT aG jC bL bY jD mLn oF rP dQ aJ aB bW bZ aR aE bI aW bU fJ dO bM bQ bO jY oX qG oO pJ sH uE oJ vK) -> va_S A s.heap H locs -> lv_has ls 5 [(0, .ref a_m), (1, .int x1), (2, .int x2), (3, .int x3), (4, .int x4)] -> W p l e aKI s m args below meth c H locs 0 0 (MQ below (aLN dC dI cI cC cZ cB cJ A a_m nY sJ eG iY lY jR jW jZ jO oQ bR aY jQ gY iJ mQ lJ jA bG mK jB mW mJ eJ dG bT aG jC bL bY jD mLn oF rP dQ aJ aB bW bZ aR aE bI aW bU fJ dO jY oX qG oO pJ sH uE oJ post) args s 0 0 A) (F0 m 84 ls [])) : ∀ (x1 x2 x3 x4 bM bQ bO : Int32) (vK : Nat -> Int32) (H : Heap) (locs : List Loc) (ls : Array Slot), (ws_X10_workOf_150 post K57 K84 bT aG dO qG oO pJ sH uE oJ) x1 x2 x3 x4 bM bQ bO vK -> va_P (dC, dI) classes (aCL cI cC cZ cB cJ a_m nY sJ eG iY lY jR jW jZ jO oQ bR aY jQ gY iJ mQ lJ jA bG mK jB mW mJ eJ dG bT aG jC bL bY jD mLn oF rP dQ aJ aB bW bZ aR aE bI aW bU fJ dO bM bQ bO jY oX qG oO pJ sH uE oJ vK) H -> va_D A (aCL cI cC cZ cB cJ a_m nY sJ eG iY lY jR jW jZ jO oQ bR aY jQ gY iJ mQ lJ jA bG mK jB mW mJ eJ dG bT aG jC bL bY jD mLn oF rP dQ aJ aB bW bZ aR aE bI aW bU fJ dO bM bQ bO jY oX qG oO pJ sH uE oJ vK) -> va_S A s.heap H locs -> lv_has ls 5 [(0, .ref a_m), (1, .int x1), (2, .int x2), (3, .int x3), (4, .int x4)] -> W p l e aKI s m args below meth c H locs 0 0 (MQ below (aLN dC dI cI cC cZ cB cJ A a_m nY sJ eG iY lY jR jW jZ jO oQ bR aY jQ gY iJ mQ lJ jA bG mK jB mW mJ eJ dG bT aG jC bL bY jD mLn oF rP dQ aJ aB bW bZ aR aE bI aW bU fJ dO jY oX qG oO pJ sH uE oJ post) args s 0 0 A) (F0 m 150 ls []) := by
  obtain ⟨hx, hb, hr, hml, hown, hts, hlocks, hA, hK, hN, tL, tM, hZL, hTL, hZM, hTM, hZX⟩ := id C0
  intro x1 x2 x3 x4 bM bQ bO vK H locs ls hp hP hD hS hl
  unfold ws_X10_workOf_150 at hp
  obtain ⟨v_21, ev_21⟩ : ∃ y : Int32, y = x4 + 1 := ⟨_, rfl⟩
  refine lv_iinc (v := v_21) (lv' := [(4, .int v_21), (0, .ref a_m), (1, .int x1), (2, .int x2), (3, .int x3)]) hx hb aN9.2.2.2.2.1 hl (k := 4) rfl (by rw [ev_21]; rfl) (by decide) rfl (fun ls hl => ?_)
  have hp := hp v_21 ev_21
  refine lv_goto (tgt := 84) hx hb aN9.2.2.2.2.2.1 (by decide) ?_
  exact hK84 x1 x2 x3 v_21 bM bQ bO vK H locs ls hp hP hD hS (lv_sub hl [1, 2, 3, 4, 0] rfl)
def ws_X10_workOf_147 (post : Int32 -> Int32 -> Int32 -> Int32 -> (Nat -> Int32) -> Prop) (K57 : Int32 -> Int32 -> Int32 -> Int32 -> Int32 -> (Nat -> Int32) -> Prop) (K84 : Int32 -> Int32 -> Int32 -> Int32 -> Int32 -> Int32 -> Int32 -> (Nat -> Int32) -> Prop) (bT aG dO : Int32) (qG oO pJ sH uE oJ : Nat -> Int32) (x1 x2 x4 bM bQ bO : Int32) (vK : Nat -> Int32) : Prop := ws_X10_workOf_150 post K57 K84 bT aG dO qG oO pJ sH uE oJ x1 x2 x4 x4 bM bQ bO vK
set_option maxHeartbeats 4000000 in
set_option maxRecDepth 100000 in
theorem ks_X10_workOf_147 (C0 : gc aA6 (some .int) 5 zX (dC, dI) (tyl cI cC cZ cB cJ) A p s m args meth c) {K57 : Int32 -> Int32 -> Int32 -> Int32 -> Int32 -> (Nat -> Int32) -> Prop} {K84 : Int32 -> Int32 -> Int32 -> Int32 -> Int32 -> Int32 -> Int32 -> (Nat -> Int32) -> Prop} (hK57 : ∀ (x1 : Int32) (x2 : Int32) (bM : Int32) (bQ : Int32) (bO : Int32) (vK : Nat -> Int32) (H : Heap) (locs : List Loc) (ls : Array Slot), K57 x1 x2 bM bQ bO vK -> va_P (dC, dI) classes (aCL cI cC cZ cB cJ a_m nY sJ eG iY lY jR jW jZ jO oQ bR aY jQ gY iJ mQ lJ jA bG mK jB mW mJ eJ dG bT aG jC bL bY jD mLn oF rP dQ aJ aB bW bZ aR aE bI aW bU fJ dO bM bQ bO jY oX qG oO pJ sH uE oJ vK) H -> va_D A (aCL cI cC cZ cB cJ a_m nY sJ eG iY lY jR jW jZ jO oQ bR aY jQ gY iJ mQ lJ jA bG mK jB mW mJ eJ dG bT aG jC bL bY jD mLn oF rP dQ aJ aB bW bZ aR aE bI aW bU fJ dO bM bQ bO jY oX qG oO pJ sH uE oJ vK) -> va_S A s.heap H locs -> lv_has ls 5 [(0, .ref a_m), (1, .int x1), (2, .int x2)] -> W p l e aKI s m args below meth c H locs 0 0 (MQ below (aLN dC dI cI cC cZ cB cJ A a_m nY sJ eG iY lY jR jW jZ jO oQ bR aY jQ gY iJ mQ lJ jA bG mK jB mW mJ eJ dG bT aG jC bL bY jD mLn oF rP dQ aJ aB bW bZ aR aE bI aW bU fJ dO jY oX qG oO pJ sH uE oJ post) args s 0 0 A) (F0 m 57 ls [])) (hK84 : ∀ (x1 : Int32) (x2 : Int32) (x3 : Int32) (x4 : Int32) (bM : Int32) (bQ : Int32) (bO : Int32) (vK : Nat -> Int32) (H : Heap) (locs : List Loc) (ls : Array Slot), K84 x1 x2 x3 x4 bM bQ bO vK -> va_P (dC, dI) classes (aCL cI cC cZ cB cJ a_m nY sJ eG iY lY jR jW jZ jO oQ bR aY jQ gY iJ mQ lJ jA bG mK jB mW mJ eJ dG bT aG jC bL bY jD mLn oF rP dQ aJ aB bW bZ aR aE bI aW bU fJ dO bM bQ bO jY oX qG oO pJ sH uE oJ vK) H -> va_D A (aCL cI cC cZ cB cJ a_m nY sJ eG iY lY jR jW jZ jO oQ bR aY jQ gY iJ mQ lJ jA bG mK jB mW mJ eJ dG bT aG jC bL bY jD mLn oF rP dQ aJ aB bW bZ aR aE bI aW bU fJ dO bM bQ bO jY oX qG oO pJ sH uE oJ vK) -> va_S A s.heap H locs -> lv_has ls 5 [(0, .ref a_m), (1, .int x1), (2, .int x2), (3, .int x3), (4, .int x4)] -> W p l e aKI s m args below meth c H locs 0 0 (MQ below (aLN dC dI cI cC cZ cB cJ A a_m nY sJ eG iY lY jR jW jZ jO oQ bR aY jQ gY iJ mQ lJ jA bG mK jB mW mJ eJ dG bT aG jC bL bY jD mLn oF rP dQ aJ aB bW bZ aR aE bI aW bU fJ dO jY oX qG oO pJ sH uE oJ post) args s 0 0 A) (F0 m 84 ls [])) : ∀ (x1 x2 x4 bM bQ bO : Int32) (vK : Nat -> Int32) (H : Heap) (locs : List Loc) (ls : Array Slot), (ws_X10_workOf_147 post K57 K84 bT aG dO qG oO pJ sH uE oJ) x1 x2 x4 bM bQ bO vK -> va_P (dC, dI) classes (aCL cI cC cZ cB cJ a_m nY sJ eG iY lY jR jW jZ jO oQ bR aY jQ gY iJ mQ lJ jA bG mK jB mW mJ eJ dG bT aG jC bL bY jD mLn oF rP dQ aJ aB bW bZ aR aE bI aW bU fJ dO bM bQ bO jY oX qG oO pJ sH uE oJ vK) H -> va_D A (aCL cI cC cZ cB cJ a_m nY sJ eG iY lY jR jW jZ jO oQ bR aY jQ gY iJ mQ lJ jA bG mK jB mW mJ eJ dG bT aG jC bL bY jD mLn oF rP dQ aJ aB bW bZ aR aE bI aW bU fJ dO bM bQ bO jY oX qG oO pJ sH uE oJ vK) -> va_S A s.heap H locs -> lv_has ls 5 [(0, .ref a_m), (1, .int x1), (2, .int x2), (4, .int x4)] -> W p l e aKI s m args below meth c H locs 0 0 (MQ below (aLN dC dI cI cC cZ cB cJ A a_m nY sJ eG iY lY jR jW jZ jO oQ bR aY jQ gY iJ mQ lJ jA bG mK jB mW mJ eJ dG bT aG jC bL bY jD mLn oF rP dQ aJ aB bW bZ aR aE bI aW bU fJ dO jY oX qG oO pJ sH uE oJ post) args s 0 0 A) (F0 m 147 ls []) := by
  obtain ⟨hx, hb, hr, hml, hown, hts, hlocks, hA, hK, hN, tL, tM, hZL, hTL, hZM, hTM, hZX⟩ := id C0
  intro x1 x2 x4 bM bQ bO vK H locs ls hp hP hD hS hl
  unfold ws_X10_workOf_147 at hp
  refine lv_iload hx hb aN9.2.2.1 (lv_at hl 3 rfl) ?_
  refine lv_istore_n (lv' := [(3, .int x4), (0, .ref a_m), (1, .int x1), (2, .int x2), (4, .int x4)]) hx hb aN9.2.2.2.1 rfl hl (by decide) rfl (fun ls hl => ?_)
  exact ks_X10_workOf_150 C0 hK57 hK84 x1 x2 x4 x4 bM bQ bO vK H locs ls hp hP hD hS (lv_sub hl [1, 2, 3, 0, 4] rfl)
def ws_X10_workOf_84 (post : Int32 -> Int32 -> Int32 -> Int32 -> (Nat -> Int32) -> Prop) (K57 : Int32 -> Int32 -> Int32 -> Int32 -> Int32 -> (Nat -> Int32) -> Prop) (next : Int32 -> Int32 -> Int32 -> Int32 -> Int32 -> Int32 -> Int32 -> (Nat -> Int32) -> Prop) (bT aG dO : Int32) (qG oO pJ sH uE oJ : Nat -> Int32) (x1 x2 x3 x4 bM bQ bO : Int32) (vK : Nat -> Int32) : Prop := (aG <= x4 -> (¬ x3 = (-1) -> ∀ aGC : Int32, aGC = 16 * x3 -> ∀ aHe : Int32, aHe = aGC + x2 -> vp_in aHe 128 /\ (∀ aHb : Int32, aHb = bQ + (oJ aHe.toNatClampNeg) -> vp_in x3 8 /\ (∀ v_17 : Int32, v_17 = vK x3.toNatClampNeg -> ∀ v_18 : Int32, v_18 = v_17 + 1 -> vp_in x3 8 /\ (ws_X10_workOf_194 post K57 bT aG dO qG oO pJ sH uE oJ x1 x2 bM aHb bO (upd vK x3.toNatClampNeg v_18))))) /\ (x3 = (-1) -> ws_X10_workOf_194 post K57 bT aG dO qG oO pJ sH uE oJ x1 x2 bM bQ bO vK)) /\ (¬ aG <= x4 -> aKc (fun r_20 => (r_20 = 0 -> ws_X10_workOf_150 post K57 next bT aG dO qG oO pJ sH uE oJ x1 x2 x3 x4 bM bQ bO vK) /\ (¬ r_20 = 0 -> vp_in x4 8 /\ (∀ v_22 : Int32, v_22 = sH x4.toNatClampNeg -> aKc (fun r_23 => (r_23 = 0 -> ws_X10_workOf_150 post K57 next bT aG dO qG oO pJ sH uE oJ x1 x2 x3 x4 bM bQ bO vK) /\ (¬ r_23 = 0 -> (x3 = (-1) -> ws_X10_workOf_147 post K57 next bT aG dO qG oO pJ sH uE oJ x1 x2 x4 bM bQ bO vK) /\ (¬ x3 = (-1) -> ∀ v_24 : Int32, v_24 = 16 * x4 -> ∀ v_25 : Int32, v_25 = v_24 + x2 -> vp_in v_25 128 /\ (∀ v_26 : Int32, v_26 = oJ v_25.toNatClampNeg -> ∀ v_27 : Int32, v_27 = 16 * x3 -> ∀ v_28 : Int32, v_28 = v_27 + x2 -> vp_in v_28 128 /\ (((oJ v_28.toNatClampNeg) <= v_26 -> ws_X10_workOf_150 post K57 next bT aG dO qG oO pJ sH uE oJ x1 x2 x3 x4 bM bQ bO vK) /\ (¬ (oJ v_28.toNatClampNeg) <= v_26 -> ws_X10_workOf_147 post K57 next bT aG dO qG oO pJ sH uE oJ x1 x2 x4 bM bQ bO vK)))))) v_22 x2))) x1 x4)
noncomputable def wb_X10_workOf_84 (post : Int32 -> Int32 -> Int32 -> Int32 -> (Nat -> Int32) -> Prop) (K57 : Int32 -> Int32 -> Int32 -> Int32 -> Int32 -> (Nat -> Int32) -> Prop) (bT aG dO : Int32) (qG oO pJ sH uE oJ : Nat -> Int32) : Nat -> Int32 -> Int32 -> Int32 -> Int32 -> Int32 -> Int32 -> Int32 -> (Nat -> Int32) -> Prop := fun n => Nat.rec (motive := fun _ => Int32 -> Int32 -> Int32 -> Int32 -> Int32 -> Int32 -> Int32 -> (Nat -> Int32) -> Prop) (fun _ _ _ _ _ _ _ _ => False) (fun _ ih => ws_X10_workOf_84 post K57 ih bT aG dO qG oO pJ sH uE oJ) n
set_option maxHeartbeats 4000000 in
set_option maxRecDepth 100000 in
theorem ks_X10_workOf_84 (C0 : gc aA6 (some .int) 5 zX (dC, dI) (tyl cI cC cZ cB cJ) A p s m args meth c) {K57 : Int32 -> Int32 -> Int32 -> Int32 -> Int32 -> (Nat -> Int32) -> Prop} {next : Int32 -> Int32 -> Int32 -> Int32 -> Int32 -> Int32 -> Int32 -> (Nat -> Int32) -> Prop} (hK57 : ∀ (x1 : Int32) (x2 : Int32) (bM : Int32) (bQ : Int32) (bO : Int32) (vK : Nat -> Int32) (H : Heap) (locs : List Loc) (ls : Array Slot), K57 x1 x2 bM bQ bO vK -> va_P (dC, dI) classes (aCL cI cC cZ cB cJ a_m nY sJ eG iY lY jR jW jZ jO oQ bR aY jQ gY iJ mQ lJ jA bG mK jB mW mJ eJ dG bT aG jC bL bY jD mLn oF rP dQ aJ aB bW bZ aR aE bI aW bU fJ dO bM bQ bO jY oX qG oO pJ sH uE oJ vK) H -> va_D A (aCL cI cC cZ cB cJ a_m nY sJ eG iY lY jR jW jZ jO oQ bR aY jQ gY iJ mQ lJ jA bG mK jB mW mJ eJ dG bT aG jC bL bY jD mLn oF rP dQ aJ aB bW bZ aR aE bI aW bU fJ dO bM bQ bO jY oX qG oO pJ sH uE oJ vK) -> va_S A s.heap H locs -> lv_has ls 5 [(0, .ref a_m), (1, .int x1), (2, .int x2)] -> W p l e aKI s m args below meth c H locs 0 0 (MQ below (aLN dC dI cI cC cZ cB cJ A a_m nY sJ eG iY lY jR jW jZ jO oQ bR aY jQ gY iJ mQ lJ jA bG mK jB mW mJ eJ dG bT aG jC bL bY jD mLn oF rP dQ aJ aB bW bZ aR aE bI aW bU fJ dO jY oX qG oO pJ sH uE oJ post) args s 0 0 A) (F0 m 57 ls [])) (hKn : ∀ (x1 : Int32) (x2 : Int32) (x3 : Int32) (x4 : Int32) (bM : Int32) (bQ : Int32) (bO : Int32) (vK : Nat -> Int32) (H : Heap) (locs : List Loc) (ls : Array Slot), next x1 x2 x3 x4 bM bQ bO vK -> va_P (dC, dI) classes (aCL cI cC cZ cB cJ a_m nY sJ eG iY lY jR jW jZ jO oQ bR aY jQ gY iJ mQ lJ jA bG mK jB mW mJ eJ dG bT aG jC bL bY jD mLn oF rP dQ aJ aB bW bZ aR aE bI aW bU fJ dO bM bQ bO jY oX qG oO pJ sH uE oJ vK) H -> va_D A (aCL cI cC cZ cB cJ a_m nY sJ eG iY lY jR jW jZ jO oQ bR aY jQ gY iJ mQ lJ jA bG mK jB mW mJ eJ dG bT aG jC bL bY jD mLn oF rP dQ aJ aB bW bZ aR aE bI aW bU fJ dO bM bQ bO jY oX qG oO pJ sH uE oJ vK) -> va_S A s.heap H locs -> lv_has ls 5 [(0, .ref a_m), (1, .int x1), (2, .int x2), (3, .int x3), (4, .int x4)] -> W p l e aKI s m args below meth c H locs 0 0 (MQ below (aLN dC dI cI cC cZ cB cJ A a_m nY sJ eG iY lY jR jW jZ jO oQ bR aY jQ gY iJ mQ lJ jA bG mK jB mW mJ eJ dG bT aG jC bL bY jD mLn oF rP dQ aJ aB bW bZ aR aE bI aW bU fJ dO jY oX qG oO pJ sH uE oJ post) args s 0 0 A) (F0 m 84 ls [])) : ∀ (x1 x2 x3 x4 bM bQ bO : Int32) (vK : Nat -> Int32) (H : Heap) (locs : List Loc) (ls : Array Slot), (ws_X10_workOf_84 post K57 next bT aG dO qG oO pJ sH uE oJ) x1 x2 x3 x4 bM bQ bO vK -> va_P (dC, dI) classes (aCL cI cC cZ cB cJ a_m nY sJ eG iY lY jR jW jZ jO oQ bR aY jQ gY iJ mQ lJ jA bG mK jB mW mJ eJ dG bT aG jC bL bY jD mLn oF rP dQ aJ aB bW bZ aR aE bI aW bU fJ dO bM bQ bO jY oX qG oO pJ sH uE oJ vK) H -> va_D A (aCL cI cC cZ cB cJ a_m nY sJ eG iY lY jR jW jZ jO oQ bR aY jQ gY iJ mQ lJ jA bG mK jB mW mJ eJ dG bT aG jC bL bY jD mLn oF rP dQ aJ aB bW bZ aR aE bI aW bU fJ dO bM bQ bO jY oX qG oO pJ sH uE oJ vK) -> va_S A s.heap H locs -> lv_has ls 5 [(0, .ref a_m), (1, .int x1), (2, .int x2), (3, .int x3), (4, .int x4)] -> W p l e aKI s m args below meth c H locs 0 0 (MQ below (aLN dC dI cI cC cZ cB cJ A a_m nY sJ eG iY lY jR jW jZ jO oQ bR aY jQ gY iJ mQ lJ jA bG mK jB mW mJ eJ dG bT aG jC bL bY jD mLn oF rP dQ aJ aB bW bZ aR aE bI aW bU fJ dO jY oX qG oO pJ sH uE oJ post) args s 0 0 A) (F0 m 84 ls []) := by
  obtain ⟨hx, hb, hr, hml, hown, hts, hlocks, hA, hK, hN, tL, tM, hZL, hTL, hZM, hTM, hZX⟩ := id C0
  intro x1 x2 x3 x4 bM bQ bO vK H locs ls hp hP hD hS hl
  unfold ws_X10_workOf_84 at hp
  refine lv_iload hx hb aQf.2.2.2.2.2.2.2.2.2.2.2.2.2.2.2 (lv_at hl 4 rfl) ?_
  refine lv_aload_n hx hb aQg.1 rfl (lv_at hl 0 rfl) ?_
  refine va_get (D := (dC, dI)) (ci := 10) (v := .int aG) (C := zX) (T := aBe) (N := 51) hx hb hts aAt hown hK hP 0 rfl rfl 6 (lbz rfl) (hts _ q_666) (fun _ h9 => h9) rfl aQg.2.1 ?_
  refine lv_icmp_ge (tgt := 156) hx hb aQg.2.2.1 (by decide) (fun hc => ?_) (fun hc => ?_)
  · have hp := hp.1 hc
    refine lv_iload_n hx hb aN9.2.2.2.2.2.2.1 rfl (lv_at hl 3 rfl) ?_
    refine lv_iconst (v := (-1)) hx hb aN9.2.2.2.2.2.2.2.1 aEJ ?_
    refine lv_icmp_ne (tgt := 164) hx hb aN9.2.2.2.2.2.2.2.2.1 (by decide) (fun hc => ?_) (fun hc => ?_)
    · have hp := hp.1 hc
      refine lv_aload_n hx hb aN9.2.2.2.2.2.2.2.2.2.2.1 rfl (lv_at hl 0 rfl) ?_
      refine lv_dup hx hb aN9.2.2.2.2.2.2.2.2.2.2.2.1 rfl ?_
      refine va_get (D := (dC, dI)) (ci := 10) (v := .int bQ) (C := zX) (T := aBe) (N := 51) hx hb hts aAt hown hK hP 0 rfl rfl 41 (lbz rfl) (hts _ q_930) (fun _ h9 => h9) rfl aN9.2.2.2.2.2.2.2.2.2.2.2.2.1 ?_
      refine lv_aload_n hx hb aN9.2.2.2.2.2.2.2.2.2.2.2.2.2.1 rfl (lv_at hl 0 rfl) ?_
      refine va_get (D := (dC, dI)) (ci := 10) (v := .ref bG) (C := zX) (T := aBe) (N := 51) hx hb hts aAt hown hK hP 0 rfl rfl 39 (lbz rfl) (hts _ q_928) (fun _ h9 => h9) rfl aN9.2.2.2.2.2.2.2.2.2.2.2.2.2.2.1 ?_
      refine lv_bipush (v := 16) hx hb aN9.2.2.2.2.2.2.2.2.2.2.2.2.2.2.2 bp_16 ?_
      refine lv_iload_n hx hb aOA.1 rfl (lv_at hl 3 rfl) ?_
      refine lv_imul hx hb aOA.2.1 ?_
      refine lv_topi (fun aGC ev_14 => ?_)
      have hp := hp aGC ev_14
      refine lv_iload_n hx hb aOA.2.2.1 rfl (lv_at hl 2 rfl) ?_
      refine lv_iadd hx hb aOA.2.2.2.1 ?_
      refine lv_topi (fun aHe ev_15 => ?_)
      have hp := hp aHe ev_15
      have hin := hp.1
      have hp := hp.2
      refine va_iald hx hb hK hP 6 0 rfl rfl hin aOA.2.2.2.2.1 ?_
      refine lv_iadd hx hb aOA.2.2.2.2.2.1 ?_
      refine lv_topi (fun aHb ev_16 => ?_)
      have hp := hp aHb ev_16
      refine va_put (D := (dC, dI)) (ci := 10) (v := .int aHb) (ty := .int) (C := zX) (T := aBe) (N := 51) hx hb hts aAt aD2 aAa aEC hown hK hP hD hS 0 rfl rfl 41 (lbz rfl) (hts _ q_930) (fun _ h9 => h9) rfl (aAa 41 (lbz rfl)) rfl rfl (lbz rfl) aOA.2.2.2.2.2.2.1 (fun H locs hP hD hS => ?_)
      have hPD := PDw (ws' := (aCL cI cC cZ cB cJ a_m nY sJ eG iY lY jR jW jZ jO oQ bR aY jQ gY iJ mQ lJ jA bG mK jB mW mJ eJ dG bT aG jC bL bY jD mLn oF rP dQ aJ aB bW bZ aR aE bI aW bU fJ dO bM aHb bO jY oX qG oO pJ sH uE oJ vK)) hP hD rfl
      have hP := hPD.1
      have hD := hPD.2
      refine lv_aload_n hx hb aOA.2.2.2.2.2.2.2.1 rfl (lv_at hl 0 rfl) ?_
      refine va_get (D := (dC, dI)) (ci := 10) (v := .ref mK) (C := zX) (T := aBe) (N := 51) hx hb hts aAt hown hK hP 0 rfl rfl 43 (lbz rfl) (hts _ q_932) (fun _ h9 => h9) rfl aOA.2.2.2.2.2.2.2.2.1 ?_
      refine lv_iload_n hx hb aOA.2.2.2.2.2.2.2.2.2.1 rfl (lv_at hl 3 rfl) ?_
      refine lv_dup2_11 hx hb aOA.2.2.2.2.2.2.2.2.2.2.1 rfl rfl ?_
      have hin := hp.1
      have hp := hp.2
      refine va_iald hx hb hK hP 7 0 rfl rfl hin aOA.2.2.2.2.2.2.2.2.2.2.2.1 ?_
      refine lv_topi (fun v_17 ev_17 => ?_)
      have hp := hp v_17 ev_17
      refine lv_iconst (v := 1) hx hb aOA.2.2.2.2.2.2.2.2.2.2.2.2.1 aDx ?_
      refine lv_iadd hx hb aOA.2.2.2.2.2.2.2.2.2.2.2.2.2.1 ?_
      refine lv_topi (fun v_18 ev_18 => ?_)
      have hp := hp v_18 ev_18
      have hin := hp.1
      have hp := hp.2
      refine va_iast hx hb hK hP hD hS 7 0 rfl rfl hin aOA.2.2.2.2.2.2.2.2.2.2.2.2.2.2.1 (fun H locs hP hD hS => ?_)
      have hPD := PDw (ws' := (aCL cI cC cZ cB cJ a_m nY sJ eG iY lY jR jW jZ jO oQ bR aY jQ gY iJ mQ lJ jA bG mK jB mW mJ eJ dG bT aG jC bL bY jD mLn oF rP dQ aJ aB bW bZ aR aE bI aW bU fJ dO bM aHb bO jY oX qG oO pJ sH uE oJ (upd vK x3.toNatClampNeg v_18))) hP hD rfl
      have hP := hPD.1
      have hD := hPD.2
      exact ks_X10_workOf_194 C0 hK57 x1 x2 bM aHb bO (upd vK x3.toNatClampNeg v_18) H locs ls hp hP hD hS (lv_sub hl [0, 1, 2] rfl)
    · have hp := hp.2 hc
      refine lv_goto (tgt := 194) hx hb aN9.2.2.2.2.2.2.2.2.2.1 (by decide) ?_
      exact ks_X10_workOf_194 C0 hK57 x1 x2 bM bQ bO vK H locs ls hp hP hD hS (lv_sub hl [0, 1, 2] rfl)
  · have hp := hp.2 hc
    refine lv_iload_n hx hb aQg.2.2.2.1 rfl (lv_at hl 1 rfl) ?_
    refine lv_iload hx hb aQg.2.2.2.2.1 (lv_at hl 4 rfl) ?_
    have hm := mgk (wc := (aLW cI cC cZ cB cJ)) hP aRc 8 rfl rfl rfl
    refine yW hP hD hS hA (yS aRc) (aAi aRc) hm.1 hm.2 (aAk _) (zW _) (aDn (As := [.int x1, .int x4]) (rest := []) C0 hP hD hS (yS aRc) hm.1 (aAl _) (aUP l dC dI cI cC cZ cB cJ H.size x1 x4 _ hp) q_734 q_736 q_735 aBL aUT rfl rfl ⟨lbz rfl, lbz rfl⟩ rfl rfl hl.1 rfl (lv_room (lbz rfl)) aQg.2.2.2.2.2.1 ⟨Nat.zero_le _, Nat.zero_le _⟩) (fun r_20 u H locs hp hP hD hS => ?_)
    have hPD := PDm (ws' := (aCL cI cC cZ cB cJ a_m nY sJ eG iY lY jR jW jZ jO oQ bR aY jQ gY iJ mQ lJ jA bG mK jB mW mJ eJ dG bT aG jC bL bY jD mLn oF rP dQ aJ aB bW bZ aR aE bI aW bU fJ dO bM bQ bO jY oX qG oO pJ sH uE oJ vK)) hP hD 8 rfl rfl rfl
    have hP := hPD.1
    have hD := hPD.2
    refine lv_if_eq (tgt := 150) hx hb aQg.2.2.2.2.2.2.1 (by decide) (fun hc => ?_) (fun hc => ?_)
    · have hp := hp.1 hc
      exact ks_X10_workOf_150 C0 hK57 hKn x1 x2 x3 x4 bM bQ bO vK H locs ls hp hP hD hS (lv_sub hl [0, 1, 2, 3, 4] rfl)
    · have hp := hp.2 hc
      refine lv_aload_n hx hb aQg.2.2.2.2.2.2.2.1 rfl (lv_at hl 0 rfl) ?_
      refine va_get (D := (dC, dI)) (ci := 10) (v := .ref lJ) (C := zX) (T := aBe) (N := 51) hx hb hts aAt hown hK hP 0 rfl rfl 36 (lbz rfl) (hts _ q_869) (fun _ h9 => h9) rfl aQg.2.2.2.2.2.2.2.2.1 ?_
      refine lv_iload hx hb aQg.2.2.2.2.2.2.2.2.2.1 (lv_at hl 4 rfl) ?_
      have hin := hp.1
      have hp := hp.2
      refine va_iald hx hb hK hP 4 0 rfl rfl hin aQg.2.2.2.2.2.2.2.2.2.2.1 ?_
      refine lv_topi (fun v_22 ev_22 => ?_)
      have hp := hp v_22 ev_22
      refine lv_iload_n hx hb aQg.2.2.2.2.2.2.2.2.2.2.2.1 rfl (lv_at hl 2 rfl) ?_
      have hm := mgk (wc := (aLW cI cC cZ cB cJ)) hP aRc 8 rfl rfl rfl
      refine yW hP hD hS hA (yS aRc) (aAi aRc) hm.1 hm.2 (aAk _) (zW _) (aDn (As := [.int v_22, .int x2]) (rest := []) C0 hP hD hS (yS aRc) hm.1 (aAl _) (aUP l dC dI cI cC cZ cB cJ H.size v_22 x2 _ hp) q_734 q_736 q_735 aBL aUT rfl rfl ⟨lbz rfl, lbz rfl⟩ rfl rfl hl.1 rfl (lv_room (lbz rfl)) aQg.2.2.2.2.2.2.2.2.2.2.2.2.1 ⟨Nat.zero_le _, Nat.zero_le _⟩) (fun r_23 u H locs hp hP hD hS => ?_)
      have hPD := PDm (ws' := (aCL cI cC cZ cB cJ a_m nY sJ eG iY lY jR jW jZ jO oQ bR aY jQ gY iJ mQ lJ jA bG mK jB mW mJ eJ dG bT aG jC bL bY jD mLn oF rP dQ aJ aB bW bZ aR aE bI aW bU fJ dO bM bQ bO jY oX qG oO pJ sH uE oJ vK)) hP hD 8 rfl rfl rfl
      have hP := hPD.1
      have hD := hPD.2
      refine lv_if_eq (tgt := 150) hx hb aQg.2.2.2.2.2.2.2.2.2.2.2.2.2.1 (by decide) (fun hc => ?_) (fun hc => ?_)
      · have hp := hp.1 hc
        exact ks_X10_workOf_150 C0 hK57 hKn x1 x2 x3 x4 bM bQ bO vK H locs ls hp hP hD hS (lv_sub hl [0, 1, 2, 3, 4] rfl)
      · have hp := hp.2 hc
        refine lv_iload_n hx hb aQg.2.2.2.2.2.2.2.2.2.2.2.2.2.2.1 rfl (lv_at hl 3 rfl) ?_
        refine lv_iconst (v := (-1)) hx hb aQg.2.2.2.2.2.2.2.2.2.2.2.2.2.2.2 aEJ ?_
        refine lv_icmp_eq (tgt := 147) hx hb aN8.1 (by decide) (fun hc => ?_) (fun hc => ?_)
        · have hp := hp.1 hc
          exact ks_X10_workOf_147 C0 hK57 hKn x1 x2 x4 bM bQ bO vK H locs ls hp hP hD hS (lv_sub hl [0, 1, 2, 4] rfl)
        · have hp := hp.2 hc
          refine lv_aload_n hx hb aN8.2.1 rfl (lv_at hl 0 rfl) ?_
          refine va_get (D := (dC, dI)) (ci := 10) (v := .ref bG) (C := zX) (T := aBe) (N := 51) hx hb hts aAt hown hK hP 0 rfl rfl 39 (lbz rfl) (hts _ q_928) (fun _ h9 => h9) rfl aN8.2.2.1 ?_
          refine lv_bipush (v := 16) hx hb aN8.2.2.2.1 bp_16 ?_
          refine lv_iload hx hb aN8.2.2.2.2.1 (lv_at hl 4 rfl) ?_
          refine lv_imul hx hb aN8.2.2.2.2.2.1 ?_
          refine lv_topi (fun v_24 ev_24 => ?_)
          have hp := hp v_24 ev_24
          refine lv_iload_n hx hb aN8.2.2.2.2.2.2.1 rfl (lv_at hl 2 rfl) ?_
          refine lv_iadd hx hb aN8.2.2.2.2.2.2.2.1 ?_
          refine lv_topi (fun v_25 ev_25 => ?_)
          have hp := hp v_25 ev_25
          have hin := hp.1
          have hp := hp.2
          refine va_iald hx hb hK hP 6 0 rfl rfl hin aN8.2.2.2.2.2.2.2.2.1 ?_
          refine lv_topi (fun v_26 ev_26 => ?_)
          have hp := hp v_26 ev_26
          refine lv_aload_n hx hb aN8.2.2.2.2.2.2.2.2.2.1 rfl (lv_at hl 0 rfl) ?_
          refine va_get (D := (dC, dI)) (ci := 10) (v := .ref bG) (C := zX) (T := aBe) (N := 51) hx hb hts aAt hown hK hP 0 rfl rfl 39 (lbz rfl) (hts _ q_928) (fun _ h9 => h9) rfl aN8.2.2.2.2.2.2.2.2.2.2.1 ?_
          refine lv_bipush (v := 16) hx hb aN8.2.2.2.2.2.2.2.2.2.2.2.1 bp_16 ?_
          refine lv_iload_n hx hb aN8.2.2.2.2.2.2.2.2.2.2.2.2.1 rfl (lv_at hl 3 rfl) ?_
          refine lv_imul hx hb aN8.2.2.2.2.2.2.2.2.2.2.2.2.2.1 ?_
          refine lv_topi (fun v_27 ev_27 => ?_)
          have hp := hp v_27 ev_27
          refine lv_iload_n hx hb aN8.2.2.2.2.2.2.2.2.2.2.2.2.2.2.1 rfl (lv_at hl 2 rfl) ?_
          refine lv_iadd hx hb aN8.2.2.2.2.2.2.2.2.2.2.2.2.2.2.2 ?_
          refine lv_topi (fun v_28 ev_28 => ?_)
          have hp := hp v_28 ev_28
          have hin := hp.1
          have hp := hp.2
          refine va_iald hx hb hK hP 6 0 rfl rfl hin aN9.1 ?_
          refine lv_icmp_ge (tgt := 150) hx hb aN9.2.1 (by decide) (fun hc => ?_) (fun hc => ?_)
          · have hp := hp.1 hc
            exact ks_X10_workOf_150 C0 hK57 hKn x1 x2 x3 x4 bM bQ bO vK H locs ls hp hP hD hS (lv_sub hl [0, 1, 2, 3, 4] rfl)
          · have hp := hp.2 hc
            exact ks_X10_workOf_147 C0 hK57 hKn x1 x2 x4 bM bQ bO vK H locs ls hp hP hD hS (lv_sub hl [0, 1, 2, 4] rfl)
set_option maxHeartbeats 4000000 in
set_option maxRecDepth 100000 in
theorem kb_X10_workOf_84 (C0 : gc aA6 (some .int) 5 zX (dC, dI) (tyl cI cC cZ cB cJ) A p s m args meth c) {K57 : Int32 -> Int32 -> Int32 -> Int32 -> Int32 -> (Nat -> Int32) -> Prop} (hK57 : ∀ (x1 : Int32) (x2 : Int32) (bM : Int32) (bQ : Int32) (bO : Int32) (vK : Nat -> Int32) (H : Heap) (locs : List Loc) (ls : Array Slot), K57 x1 x2 bM bQ bO vK -> va_P (dC, dI) classes (aCL cI cC cZ cB cJ a_m nY sJ eG iY lY jR jW jZ jO oQ bR aY jQ gY iJ mQ lJ jA bG mK jB mW mJ eJ dG bT aG jC bL bY jD mLn oF rP dQ aJ aB bW bZ aR aE bI aW bU fJ dO bM bQ bO jY oX qG oO pJ sH uE oJ vK) H -> va_D A (aCL cI cC cZ cB cJ a_m nY sJ eG iY lY jR jW jZ jO oQ bR aY jQ gY iJ mQ lJ jA bG mK jB mW mJ eJ dG bT aG jC bL bY jD mLn oF rP dQ aJ aB bW bZ aR aE bI aW bU fJ dO bM bQ bO jY oX qG oO pJ sH uE oJ vK) -> va_S A s.heap H locs -> lv_has ls 5 [(0, .ref a_m), (1, .int x1), (2, .int x2)] -> W p l e aKI s m args below meth c H locs 0 0 (MQ below (aLN dC dI cI cC cZ cB cJ A a_m nY sJ eG iY lY jR jW jZ jO oQ bR aY jQ gY iJ mQ lJ jA bG mK jB mW mJ eJ dG bT aG jC bL bY jD mLn oF rP dQ aJ aB bW bZ aR aE bI aW bU fJ dO jY oX qG oO pJ sH uE oJ post) args s 0 0 A) (F0 m 57 ls [])) : ∀ (n : Nat), ∀ (x1 x2 x3 x4 bM bQ bO : Int32) (vK : Nat -> Int32) (H : Heap) (locs : List Loc) (ls : Array Slot), (wb_X10_workOf_84 post K57 bT aG dO qG oO pJ sH uE oJ n) x1 x2 x3 x4 bM bQ bO vK -> va_P (dC, dI) classes (aCL cI cC cZ cB cJ a_m nY sJ eG iY lY jR jW jZ jO oQ bR aY jQ gY iJ mQ lJ jA bG mK jB mW mJ eJ dG bT aG jC bL bY jD mLn oF rP dQ aJ aB bW bZ aR aE bI aW bU fJ dO bM bQ bO jY oX qG oO pJ sH uE oJ vK) H -> va_D A (aCL cI cC cZ cB cJ a_m nY sJ eG iY lY jR jW jZ jO oQ bR aY jQ gY iJ mQ lJ jA bG mK jB mW mJ eJ dG bT aG jC bL bY jD mLn oF rP dQ aJ aB bW bZ aR aE bI aW bU fJ dO bM bQ bO jY oX qG oO pJ sH uE oJ vK) -> va_S A s.heap H locs -> lv_has ls 5 [(0, .ref a_m), (1, .int x1), (2, .int x2), (3, .int x3), (4, .int x4)] -> W p l e aKI s m args below meth c H locs 0 0 (MQ below (aLN dC dI cI cC cZ cB cJ A a_m nY sJ eG iY lY jR jW jZ jO oQ bR aY jQ gY iJ mQ lJ jA bG mK jB mW mJ eJ dG bT aG jC bL bY jD mLn oF rP dQ aJ aB bW bZ aR aE bI aW bU fJ dO jY oX qG oO pJ sH uE oJ post) args s 0 0 A) (F0 m 84 ls []) := by
  intro n
  induction n with
  | zero =>
    intro x1 x2 x3 x4 bM bQ bO vK H locs ls hp
    exact False.elim hp
  | succ n ih =>
    intro x1 x2 x3 x4 bM bQ bO vK H locs ls hp
    exact ks_X10_workOf_84 C0 hK57 ih x1 x2 x3 x4 bM bQ bO vK H locs ls hp
def ws_X10_workOf_57 (post : Int32 -> Int32 -> Int32 -> Int32 -> (Nat -> Int32) -> Prop) (next : Int32 -> Int32 -> Int32 -> Int32 -> Int32 -> (Nat -> Int32) -> Prop) (bT aG dO : Int32) (qG oO pJ sH uE oJ : Nat -> Int32) (x1 x2 bM bQ bO : Int32) (vK : Nat -> Int32) : Prop := (bT <= x2 -> ∃ n : Nat, wb_X10_workOf_202 post bT aG dO qG oO pJ sH uE oJ n 0 bM bQ bO vK) /\ (¬ bT <= x2 -> aKc (fun r_13 => (¬ r_13 = 0 -> ∃ n : Nat, wb_X10_workOf_84 post next bT aG dO qG oO pJ sH uE oJ n x1 x2 (-1) 0 bM bQ bO vK) /\ (r_13 = 0 -> ws_X10_workOf_194 post next bT aG dO qG oO pJ sH uE oJ x1 x2 bM bQ bO vK)) dO x2)
noncomputable def wb_X10_workOf_57 (post : Int32 -> Int32 -> Int32 -> Int32 -> (Nat -> Int32) -> Prop) (bT aG dO : Int32) (qG oO pJ sH uE oJ : Nat -> Int32) : Nat -> Int32 -> Int32 -> Int32 -> Int32 -> Int32 -> (Nat -> Int32) -> Prop := fun n => Nat.rec (motive := fun _ => Int32 -> Int32 -> Int32 -> Int32 -> Int32 -> (Nat -> Int32) -> Prop) (fun _ _ _ _ _ _ => False) (fun _ ih => ws_X10_workOf_57 post ih bT aG dO qG oO pJ sH uE oJ) n
set_option maxHeartbeats 4000000 in
set_option maxRecDepth 100000 in
theorem ks_X10_workOf_57 (C0 : gc aA6 (some .int) 5 zX (dC, dI) (tyl cI cC cZ cB cJ) A p s m args meth c) {next : Int32 -> Int32 -> Int32 -> Int32 -> Int32 -> (Nat -> Int32) -> Prop} (hKn : ∀ (x1 : Int32) (x2 : Int32) (bM : Int32) (bQ : Int32) (bO : Int32) (vK : Nat -> Int32) (H : Heap) (locs : List Loc) (ls : Array Slot), next x1 x2 bM bQ bO vK -> va_P (dC, dI) classes (aCL cI cC cZ cB cJ a_m nY sJ eG iY lY jR jW jZ jO oQ bR aY jQ gY iJ mQ lJ jA bG mK jB mW mJ eJ dG bT aG jC bL bY jD mLn oF rP dQ aJ aB bW bZ aR aE bI aW bU fJ dO bM bQ bO jY oX qG oO pJ sH uE oJ vK) H -> va_D A (aCL cI cC cZ cB cJ a_m nY sJ eG iY lY jR jW jZ jO oQ bR aY jQ gY iJ mQ lJ jA bG mK jB mW mJ eJ dG bT aG jC bL bY jD mLn oF rP dQ aJ aB bW bZ aR aE bI aW bU fJ dO bM bQ bO jY oX qG oO pJ sH uE oJ vK) -> va_S A s.heap H locs -> lv_has ls 5 [(0, .ref a_m), (1, .int x1), (2, .int x2)] -> W p l e aKI s m args below meth c H locs 0 0 (MQ below (aLN dC dI cI cC cZ cB cJ A a_m nY sJ eG iY lY jR jW jZ jO oQ bR aY jQ gY iJ mQ lJ jA bG mK jB mW mJ eJ dG bT aG jC bL bY jD mLn oF rP dQ aJ aB bW bZ aR aE bI aW bU fJ dO jY oX qG oO pJ sH uE oJ post) args s 0 0 A) (F0 m 57 ls [])) : ∀ (x1 x2 bM bQ bO : Int32) (vK : Nat -> Int32) (H : Heap) (locs : List Loc) (ls : Array Slot), (ws_X10_workOf_57 post next bT aG dO qG oO pJ sH uE oJ) x1 x2 bM bQ bO vK -> va_P (dC, dI) classes (aCL cI cC cZ cB cJ a_m nY sJ eG iY lY jR jW jZ jO oQ bR aY jQ gY iJ mQ lJ jA bG mK jB mW mJ eJ dG bT aG jC bL bY jD mLn oF rP dQ aJ aB bW bZ aR aE bI aW bU fJ dO bM bQ bO jY oX qG oO pJ sH uE oJ vK) H -> va_D A (aCL cI cC cZ cB cJ a_m nY sJ eG iY lY jR jW jZ jO oQ bR aY jQ gY iJ mQ lJ jA bG mK jB mW mJ eJ dG bT aG jC bL bY jD mLn oF rP dQ aJ aB bW bZ aR aE bI aW bU fJ dO bM bQ bO jY oX qG oO pJ sH uE oJ vK) -> va_S A s.heap H locs -> lv_has ls 5 [(0, .ref a_m), (1, .int x1), (2, .int x2)] -> W p l e aKI s m args below meth c H locs 0 0 (MQ below (aLN dC dI cI cC cZ cB cJ A a_m nY sJ eG iY lY jR jW jZ jO oQ bR aY jQ gY iJ mQ lJ jA bG mK jB mW mJ eJ dG bT aG jC bL bY jD mLn oF rP dQ aJ aB bW bZ aR aE bI aW bU fJ dO jY oX qG oO pJ sH uE oJ post) args s 0 0 A) (F0 m 57 ls []) := by
  obtain ⟨hx, hb, hr, hml, hown, hts, hlocks, hA, hK, hN, tL, tM, hZL, hTL, hZM, hTM, hZX⟩ := id C0
  intro x1 x2 bM bQ bO vK H locs ls hp hP hD hS hl
  unfold ws_X10_workOf_57 at hp
  refine lv_iload_n hx hb aQf.2.1 rfl (lv_at hl 2 rfl) ?_
  refine lv_aload_n hx hb aQf.2.2.1 rfl (lv_at hl 0 rfl) ?_
  refine va_get (D := (dC, dI)) (ci := 10) (v := .int bT) (C := zX) (T := aBe) (N := 51) hx hb hts aAt hown hK hP 0 rfl rfl 1 (lbz rfl) (hts _ q_677) (fun _ h9 => h9) rfl aQf.2.2.2.1 ?_
  refine lv_icmp_ge (tgt := 200) hx hb aQf.2.2.2.2.1 (by decide) (fun hc => ?_) (fun hc => ?_)
  · have hp := hp.1 hc
    refine lv_iconst (v := 0) hx hb aOB.2.1 aCi ?_
    refine lv_istore_n (lv' := [(2, .int 0), (0, .ref a_m), (1, .int x1)]) hx hb aOB.2.2.1 rfl hl (by decide) rfl (fun ls hl => ?_)
    obtain ⟨n9, hp⟩ := hp
    exact kb_X10_workOf_202 C0 n9 0 bM bQ bO vK H locs ls hp hP hD hS (lv_sub hl [1, 0] rfl)
  · have hp := hp.2 hc
    refine lv_aload_n hx hb aQf.2.2.2.2.2.1 rfl (lv_at hl 0 rfl) ?_
    refine va_get (D := (dC, dI)) (ci := 10) (v := .int dO) (C := zX) (T := aBe) (N := 51) hx hb hts aAt hown hK hP 0 rfl rfl 37 (lbz rfl) (hts _ q_878) (fun _ h9 => h9) rfl aQf.2.2.2.2.2.2.1 ?_
    refine lv_iload_n hx hb aQf.2.2.2.2.2.2.2.1 rfl (lv_at hl 2 rfl) ?_
    have hm := mgk (wc := (aLW cI cC cZ cB cJ)) hP aRc 8 rfl rfl rfl
    refine yW hP hD hS hA (yS aRc) (aAi aRc) hm.1 hm.2 (aAk _) (zW _) (aDn (As := [.int dO, .int x2]) (rest := []) C0 hP hD hS (yS aRc) hm.1 (aAl _) (aUP l dC dI cI cC cZ cB cJ H.size dO x2 _ hp) q_734 q_736 q_735 aBL aUT rfl rfl ⟨lbz rfl, lbz rfl⟩ rfl rfl hl.1 rfl (lv_room (lbz rfl)) aQf.2.2.2.2.2.2.2.2.1 ⟨Nat.zero_le _, Nat.zero_le _⟩) (fun r_13 u H locs hp hP hD hS => ?_)
    have hPD := PDm (ws' := (aCL cI cC cZ cB cJ a_m nY sJ eG iY lY jR jW jZ jO oQ bR aY jQ gY iJ mQ lJ jA bG mK jB mW mJ eJ dG bT aG jC bL bY jD mLn oF rP dQ aJ aB bW bZ aR aE bI aW bU fJ dO bM bQ bO jY oX qG oO pJ sH uE oJ vK)) hP hD 8 rfl rfl rfl
    have hP := hPD.1
    have hD := hPD.2
    refine lv_if_ne (tgt := 79) hx hb aQf.2.2.2.2.2.2.2.2.2.1 (by decide) (fun hc => ?_) (fun hc => ?_)
    · have hp := hp.1 hc
      refine lv_iconst (v := (-1)) hx hb aQf.2.2.2.2.2.2.2.2.2.2.2.1 aEJ ?_
      refine lv_istore_n (lv' := [(3, .int (-1)), (0, .ref a_m), (1, .int x1), (2, .int x2)]) hx hb aQf.2.2.2.2.2.2.2.2.2.2.2.2.1 rfl hl (by decide) rfl (fun ls hl => ?_)
      refine lv_iconst (v := 0) hx hb aQf.2.2.2.2.2.2.2.2.2.2.2.2.2.1 aCi ?_
      refine lv_istore (lv' := [(4, .int 0), (3, .int (-1)), (0, .ref a_m), (1, .int x1), (2, .int x2)]) hx hb aQf.2.2.2.2.2.2.2.2.2.2.2.2.2.2.1 hl (by decide) rfl (fun ls hl => ?_)
      obtain ⟨n9, hp⟩ := hp
      exact kb_X10_workOf_84 C0 hKn n9 x1 x2 (-1) 0 bM bQ bO vK H locs ls hp hP hD hS (lv_sub hl [2, 3, 4, 1, 0] rfl)
    · have hp := hp.2 hc
      refine lv_goto (tgt := 194) hx hb aQf.2.2.2.2.2.2.2.2.2.2.1 (by decide) ?_
      exact ks_X10_workOf_194 C0 hKn x1 x2 bM bQ bO vK H locs ls hp hP hD hS (lv_sub hl [0, 1, 2] rfl)
set_option maxHeartbeats 4000000 in
set_option maxRecDepth 100000 in
theorem kb_X10_workOf_57 (C0 : gc aA6 (some .int) 5 zX (dC, dI) (tyl cI cC cZ cB cJ) A p s m args meth c) : ∀ (n : Nat), ∀ (x1 x2 bM bQ bO : Int32) (vK : Nat -> Int32) (H : Heap) (locs : List Loc) (ls : Array Slot), (wb_X10_workOf_57 post bT aG dO qG oO pJ sH uE oJ n) x1 x2 bM bQ bO vK -> va_P (dC, dI) classes (aCL cI cC cZ cB cJ a_m nY sJ eG iY lY jR jW jZ jO oQ bR aY jQ gY iJ mQ lJ jA bG mK jB mW mJ eJ dG bT aG jC bL bY jD mLn oF rP dQ aJ aB bW bZ aR aE bI aW bU fJ dO bM bQ bO jY oX qG oO pJ sH uE oJ vK) H -> va_D A (aCL cI cC cZ cB cJ a_m nY sJ eG iY lY jR jW jZ jO oQ bR aY jQ gY iJ mQ lJ jA bG mK jB mW mJ eJ dG bT aG jC bL bY jD mLn oF rP dQ aJ aB bW bZ aR aE bI aW bU fJ dO bM bQ bO jY oX qG oO pJ sH uE oJ vK) -> va_S A s.heap H locs -> lv_has ls 5 [(0, .ref a_m), (1, .int x1), (2, .int x2)] -> W p l e aKI s m args below meth c H locs 0 0 (MQ below (aLN dC dI cI cC cZ cB cJ A a_m nY sJ eG iY lY jR jW jZ jO oQ bR aY jQ gY iJ mQ lJ jA bG mK jB mW mJ eJ dG bT aG jC bL bY jD mLn oF rP dQ aJ aB bW bZ aR aE bI aW bU fJ dO jY oX qG oO pJ sH uE oJ post) args s 0 0 A) (F0 m 57 ls []) := by
  intro n
  induction n with
  | zero =>
    intro x1 x2 bM bQ bO vK H locs ls hp
    exact False.elim hp
  | succ n ih =>
    intro x1 x2 bM bQ bO vK H locs ls hp
    exact ks_X10_workOf_57 C0 ih x1 x2 bM bQ bO vK H locs ls hp
def ws_X10_workOf_36 (post : Int32 -> Int32 -> Int32 -> Int32 -> (Nat -> Int32) -> Prop) (next : Int32 -> Int32 -> Int32 -> Int32 -> Int32 -> (Nat -> Int32) -> Prop) (bT aG dO : Int32) (qG oO pJ sH uE oJ : Nat -> Int32) (x1 x2 bM bQ bO : Int32) (vK : Nat -> Int32) : Prop := (8 <= x2 -> ∃ n : Nat, wb_X10_workOf_57 post bT aG dO qG oO pJ sH uE oJ n x1 0 bM bQ bO vK) /\ (¬ 8 <= x2 -> vp_in x2 8 /\ (∀ v_29 : Int32, v_29 = x2 + 1 -> next x1 v_29 bM bQ bO (upd vK x2.toNatClampNeg 0)))
noncomputable def wb_X10_workOf_36 (post : Int32 -> Int32 -> Int32 -> Int32 -> (Nat -> Int32) -> Prop) (bT aG dO : Int32) (qG oO pJ sH uE oJ : Nat -> Int32) : Nat -> Int32 -> Int32 -> Int32 -> Int32 -> Int32 -> (Nat -> Int32) -> Prop := fun n => Nat.rec (motive := fun _ => Int32 -> Int32 -> Int32 -> Int32 -> Int32 -> (Nat -> Int32) -> Prop) (fun _ _ _ _ _ _ => False) (fun _ ih => ws_X10_workOf_36 post ih bT aG dO qG oO pJ sH uE oJ) n
set_option maxHeartbeats 4000000 in
set_option maxRecDepth 100000 in
theorem ks_X10_workOf_36 (C0 : gc aA6 (some .int) 5 zX (dC, dI) (tyl cI cC cZ cB cJ) A p s m args meth c) {next : Int32 -> Int32 -> Int32 -> Int32 -> Int32 -> (Nat -> Int32) -> Prop} (hKn : ∀ (x1 : Int32) (x2 : Int32) (bM : Int32) (bQ : Int32) (bO : Int32) (vK : Nat -> Int32) (H : Heap) (locs : List Loc) (ls : Array Slot), next x1 x2 bM bQ bO vK -> va_P (dC, dI) classes (aCL cI cC cZ cB cJ a_m nY sJ eG iY lY jR jW jZ jO oQ bR aY jQ gY iJ mQ lJ jA bG mK jB mW mJ eJ dG bT aG jC bL bY jD mLn oF rP dQ aJ aB bW bZ aR aE bI aW bU fJ dO bM bQ bO jY oX qG oO pJ sH uE oJ vK) H -> va_D A (aCL cI cC cZ cB cJ a_m nY sJ eG iY lY jR jW jZ jO oQ bR aY jQ gY iJ mQ lJ jA bG mK jB mW mJ eJ dG bT aG jC bL bY jD mLn oF rP dQ aJ aB bW bZ aR aE bI aW bU fJ dO bM bQ bO jY oX qG oO pJ sH uE oJ vK) -> va_S A s.heap H locs -> lv_has ls 5 [(0, .ref a_m), (1, .int x1), (2, .int x2)] -> W p l e aKI s m args below meth c H locs 0 0 (MQ below (aLN dC dI cI cC cZ cB cJ A a_m nY sJ eG iY lY jR jW jZ jO oQ bR aY jQ gY iJ mQ lJ jA bG mK jB mW mJ eJ dG bT aG jC bL bY jD mLn oF rP dQ aJ aB bW bZ aR aE bI aW bU fJ dO jY oX qG oO pJ sH uE oJ post) args s 0 0 A) (F0 m 36 ls [])) : ∀ (x1 x2 bM bQ bO : Int32) (vK : Nat -> Int32) (H : Heap) (locs : List Loc) (ls : Array Slot), (ws_X10_workOf_36 post next bT aG dO qG oO pJ sH uE oJ) x1 x2 bM bQ bO vK -> va_P (dC, dI) classes (aCL cI cC cZ cB cJ a_m nY sJ eG iY lY jR jW jZ jO oQ bR aY jQ gY iJ mQ lJ jA bG mK jB mW mJ eJ dG bT aG jC bL bY jD mLn oF rP dQ aJ aB bW bZ aR aE bI aW bU fJ dO bM bQ bO jY oX qG oO pJ sH uE oJ vK) H -> va_D A (aCL cI cC cZ cB cJ a_m nY sJ eG iY lY jR jW jZ jO oQ bR aY jQ gY iJ mQ lJ jA bG mK jB mW mJ eJ dG bT aG jC bL bY jD mLn oF rP dQ aJ aB bW bZ aR aE bI aW bU fJ dO bM bQ bO jY oX qG oO pJ sH uE oJ vK) -> va_S A s.heap H locs -> lv_has ls 5 [(0, .ref a_m), (1, .int x1), (2, .int x2)] -> W p l e aKI s m args below meth c H locs 0 0 (MQ below (aLN dC dI cI cC cZ cB cJ A a_m nY sJ eG iY lY jR jW jZ jO oQ bR aY jQ gY iJ mQ lJ jA bG mK jB mW mJ eJ dG bT aG jC bL bY jD mLn oF rP dQ aJ aB bW bZ aR aE bI aW bU fJ dO jY oX qG oO pJ sH uE oJ post) args s 0 0 A) (F0 m 36 ls []) := by
  obtain ⟨hx, hb, hr, hml, hown, hts, hlocks, hA, hK, hN, tL, tM, hZL, hTL, hZM, hTM, hZX⟩ := id C0
  intro x1 x2 bM bQ bO vK H locs ls hp hP hD hS hl
  unfold ws_X10_workOf_36 at hp
  refine lv_iload_n hx hb aQe.2.2.2.2.2.1 rfl (lv_at hl 2 rfl) ?_
  refine lv_bipush (v := 8) hx hb aQe.2.2.2.2.2.2.1 bp_8 ?_
  refine lv_icmp_ge (tgt := 55) hx hb aQe.2.2.2.2.2.2.2.1 (by decide) (fun hc => ?_) (fun hc => ?_)
  · have hp := hp.1 hc
    refine lv_iconst (v := 0) hx hb aQe.2.2.2.2.2.2.2.2.2.2.2.2.2.2.2 aCi ?_
    refine lv_istore_n (lv' := [(2, .int 0), (0, .ref a_m), (1, .int x1)]) hx hb aQf.1 rfl hl (by decide) rfl (fun ls hl => ?_)
    obtain ⟨n9, hp⟩ := hp
    exact kb_X10_workOf_57 C0 n9 x1 0 bM bQ bO vK H locs ls hp hP hD hS (lv_sub hl [1, 2, 0] rfl)
  · have hp := hp.2 hc
    refine lv_aload_n hx hb aQe.2.2.2.2.2.2.2.2.1 rfl (lv_at hl 0 rfl) ?_
    refine va_get (D := (dC, dI)) (ci := 10) (v := .ref mK) (C := zX) (T := aBe) (N := 51) hx hb hts aAt hown hK hP 0 rfl rfl 43 (lbz rfl) (hts _ q_932) (fun _ h9 => h9) rfl aQe.2.2.2.2.2.2.2.2.2.1 ?_
    refine lv_iload_n hx hb aQe.2.2.2.2.2.2.2.2.2.2.1 rfl (lv_at hl 2 rfl) ?_
    refine lv_iconst (v := 0) hx hb aQe.2.2.2.2.2.2.2.2.2.2.2.1 aCi ?_
    have hin := hp.1
    have hp := hp.2
    refine va_iast hx hb hK hP hD hS 7 0 rfl rfl hin aQe.2.2.2.2.2.2.2.2.2.2.2.2.1 (fun H locs hP hD hS => ?_)
    have hPD := PDw (ws' := (aCL cI cC cZ cB cJ a_m nY sJ eG iY lY jR jW jZ jO oQ bR aY jQ gY iJ mQ lJ jA bG mK jB mW mJ eJ dG bT aG jC bL bY jD mLn oF rP dQ aJ aB bW bZ aR aE bI aW bU fJ dO bM bQ bO jY oX qG oO pJ sH uE oJ (upd vK x2.toNatClampNeg 0))) hP hD rfl
    have hP := hPD.1
    have hD := hPD.2
    obtain ⟨v_29, ev_29⟩ : ∃ y : Int32, y = x2 + 1 := ⟨_, rfl⟩
    refine lv_iinc (v := v_29) (lv' := [(2, .int v_29), (0, .ref a_m), (1, .int x1)]) hx hb aQe.2.2.2.2.2.2.2.2.2.2.2.2.2.1 hl (k := 2) rfl (by rw [ev_29]; rfl) (by decide) rfl (fun ls hl => ?_)
    have hp := hp v_29 ev_29
    refine lv_goto (tgt := 36) hx hb aQe.2.2.2.2.2.2.2.2.2.2.2.2.2.2.1 (by decide) ?_
    exact hKn x1 v_29 bM bQ bO (upd vK x2.toNatClampNeg 0) H locs ls hp hP hD hS (lv_sub hl [1, 2, 0] rfl)
set_option maxHeartbeats 4000000 in
set_option maxRecDepth 100000 in
theorem kb_X10_workOf_36 (C0 : gc aA6 (some .int) 5 zX (dC, dI) (tyl cI cC cZ cB cJ) A p s m args meth c) : ∀ (n : Nat), ∀ (x1 x2 bM bQ bO : Int32) (vK : Nat -> Int32) (H : Heap) (locs : List Loc) (ls : Array Slot), (wb_X10_workOf_36 post bT aG dO qG oO pJ sH uE oJ n) x1 x2 bM bQ bO vK -> va_P (dC, dI) classes (aCL cI cC cZ cB cJ a_m nY sJ eG iY lY jR jW jZ jO oQ bR aY jQ gY iJ mQ lJ jA bG mK jB mW mJ eJ dG bT aG jC bL bY jD mLn oF rP dQ aJ aB bW bZ aR aE bI aW bU fJ dO bM bQ bO jY oX qG oO pJ sH uE oJ vK) H -> va_D A (aCL cI cC cZ cB cJ a_m nY sJ eG iY lY jR jW jZ jO oQ bR aY jQ gY iJ mQ lJ jA bG mK jB mW mJ eJ dG bT aG jC bL bY jD mLn oF rP dQ aJ aB bW bZ aR aE bI aW bU fJ dO bM bQ bO jY oX qG oO pJ sH uE oJ vK) -> va_S A s.heap H locs -> lv_has ls 5 [(0, .ref a_m), (1, .int x1), (2, .int x2)] -> W p l e aKI s m args below meth c H locs 0 0 (MQ below (aLN dC dI cI cC cZ cB cJ A a_m nY sJ eG iY lY jR jW jZ jO oQ bR aY jQ gY iJ mQ lJ jA bG mK jB mW mJ eJ dG bT aG jC bL bY jD mLn oF rP dQ aJ aB bW bZ aR aE bI aW bU fJ dO jY oX qG oO pJ sH uE oJ post) args s 0 0 A) (F0 m 36 ls []) := by
  intro n
  induction n with
  | zero =>
    intro x1 x2 bM bQ bO vK H locs ls hp
    exact False.elim hp
  | succ n ih =>
    intro x1 x2 bM bQ bO vK H locs ls hp
    exact ks_X10_workOf_36 C0 ih x1 x2 bM bQ bO vK H locs ls hp
end S_X10_workOf
def wp_X10_workOf (post : Int32 -> Int32 -> Int32 -> Int32 -> (Nat -> Int32) -> Prop) (p0 bT aG dO bM bQ bO : Int32) (qG oO pJ sH uE oJ vK : Nat -> Int32) : Prop := ∀ v_1 : Int32, v_1 = qG (17 : Int32).toNatClampNeg -> wp_X10_placeOf (fun r_2 => wp_X10_besides (fun r_3 => wp_X10_leastMoves (fun r_4 => ∃ n : Nat, wb_X10_workOf_36 post bT aG dO qG oO pJ sH uE oJ n p0 0 r_4 0 0 vK) r_2 r_3 uE) p0 qG) v_1
set_option maxHeartbeats 4000000 in
set_option maxRecDepth 100000 in
theorem c_X10_workOf (l : Launch) (dC : Nat -> ClassId) (dI : Nat -> Nat -> Nat) (cI cC cZ cB cJ : ClassId) (a_m nY sJ eG iY lY jR jW jZ jO oQ bR aY jQ gY iJ mQ lJ jA bG mK jB mW mJ eJ dG sz : Nat) (p0 bT aG jC bL bY : Int32) (jD : Nat) (mLn oF rP dQ aJ aB bW bZ aR aE bI aW bU fJ dO bM bQ bO jY oX : Int32) (qG oO pJ sH uE oJ vK : Nat -> Int32) (post : Int32 -> Int32 -> Int32 -> Int32 -> (Nat -> Int32) -> Prop) (hw : wp_X10_workOf post p0 bT aG dO bM bQ bO qG oO pJ sH uE oJ vK) : Met l yX10_workOf (gw yX10_workOf aA6 5 (some .int)) aKI (va_Pc [.ref a_m, .int p0] (gPre (dC, dI) (tyl cI cC cZ cB cJ) (aCL cI cC cZ cB cJ a_m nY sJ eG iY lY jR jW jZ jO oQ bR aY jQ gY iJ mQ lJ jA bG mK jB mW mJ eJ dG bT aG jC bL bY jD mLn oF rP dQ aJ aB bW bZ aR aE bI aW bU fJ dO bM bQ bO jY oX qG oO pJ sH uE oJ vK) sz)) (aLN dC dI cI cC cZ cB cJ (va_A (aCL cI cC cZ cB cJ a_m nY sJ eG iY lY jR jW jZ jO oQ bR aY jQ gY iJ mQ lJ jA bG mK jB mW mJ eJ dG bT aG jC bL bY jD mLn oF rP dQ aJ aB bW bZ aR aE bI aW bU fJ dO bM bQ bO jY oX qG oO pJ sH uE oJ vK) sz) a_m nY sJ eG iY lY jR jW jZ jO oQ bR aY jQ gY iJ mQ lJ jA bG mK jB mW mJ eJ dG bT aG jC bL bY jD mLn oF rP dQ aJ aB bW bZ aR aE bI aW bU fJ dO jY oX qG oO pJ sH uE oJ post) 0 0 (va_A (aCL cI cC cZ cB cJ a_m nY sJ eG iY lY jR jW jZ jO oQ bR aY jQ gY iJ mQ lJ jA bG mK jB mW mJ eJ dG bT aG jC bL bY jD mLn oF rP dQ aJ aB bW bZ aR aE bI aW bU fJ dO bM bQ bO jY oX qG oO pJ sH uE oJ vK) sz) := by
  refine aBJ (own := zX) (dC, dI) (tyl cI cC cZ cB cJ) (aCL cI cC cZ cB cJ a_m nY sJ eG iY lY jR jW jZ jO oQ bR aY jQ gY iJ mQ lJ jA bG mK jB mW mJ eJ dG bT aG jC bL bY jD mLn oF rP dQ aJ aB bW bZ aR aE bI aW bU fJ dO bM bQ bO jY oX qG oO pJ sH uE oJ vK) sz [.ref a_m, .int p0] (fun A => aLN dC dI cI cC cZ cB cJ A a_m nY sJ eG iY lY jR jW jZ jO oQ bR aY jQ gY iJ mQ lJ jA bG mK jB mW mJ eJ dG bT aG jC bL bY jD mLn oF rP dQ aJ aB bW bZ aR aE bI aW bU fJ dO jY oX qG oO pJ sH uE oJ post) aFY rfl (lbz rfl) ?_
  intro p e s m args below meth c A H locs ls C0 hP hD hS hl
  have hl : lv_has ls 5 [(0, .ref a_m), (1, .int p0)] := hl
  obtain ⟨hx, hb, hr, hml, hown, hts, hlocks, hA, hK, hN, tL, tM, hZL, hTL, hZM, hTM, hZX⟩ := id C0
  have hp := hw
  unfold wp_X10_workOf at hp
  refine lv_aload_n hx hb aTX.1 rfl (lv_at hl 0 rfl) ?_
  refine lv_aload_n hx hb aTX.2.1 rfl (lv_at hl 0 rfl) ?_
  refine lv_aload_n hx hb aTX.2.2.1 rfl (lv_at hl 0 rfl) ?_
  refine lv_aload_n hx hb aTX.2.2.2.1 rfl (lv_at hl 0 rfl) ?_
  refine va_get (D := (dC, dI)) (ci := 10) (v := .ref nY) (C := zX) (T := aBe) (N := 51) hx hb hts aAt hown hK hP 0 rfl rfl 0 (lbz rfl) (hts _ aHO) (fun _ h9 => h9) rfl aTX.2.2.2.2.1 ?_
  refine lv_bipush (v := 17) hx hb aTX.2.2.2.2.2.1 bp_17 ?_
  refine va_iald hx hb hK hP 1 0 rfl rfl (g_in rfl) aTX.2.2.2.2.2.2.1 ?_
  refine lv_topi (fun v_1 aFJ => ?_)
  have hp := hp v_1 aFJ
  have hm := mgk (wc := (wd_X10_placeOf cI cC cZ cB cJ a_m)) hP aRc 8 rfl rfl rfl
  refine yW hP hD hS hA (yS aRc) (aAi aRc) hm.1 hm.2 (aAk _) (zW _) (zF (As := [.int v_1]) (rest := [.ref a_m, .ref a_m]) C0 hP hD hS (yS aRc) hm.1 (aAl _) 0 10 rfl rfl (c_X10_placeOf l dC dI cI cC cZ cB cJ a_m H.size v_1 _ hp) q_924 q_927 q_925 q_926 aBL h_X10_placeOf rfl rfl ⟨lbz rfl, lbz rfl⟩ rfl rfl hl.1 rfl (lv_room (lbz rfl)) aTX.2.2.2.2.2.2.2.1 ⟨Nat.zero_le _, Nat.zero_le _⟩) (fun r_2 u H locs hp hP hD hS => ?_)
  have hPD := PDm (ws' := (aCL cI cC cZ cB cJ a_m nY sJ eG iY lY jR jW jZ jO oQ bR aY jQ gY iJ mQ lJ jA bG mK jB mW mJ eJ dG bT aG jC bL bY jD mLn oF rP dQ aJ aB bW bZ aR aE bI aW bU fJ dO bM bQ bO jY oX qG oO pJ sH uE oJ vK)) hP hD 8 rfl rfl rfl
  have hP := hPD.1
  have hD := hPD.2
  refine lv_aload_n hx hb aTX.2.2.2.2.2.2.2.2.1 rfl (lv_at hl 0 rfl) ?_
  refine lv_iload_n hx hb aTX.2.2.2.2.2.2.2.2.2.1 rfl (lv_at hl 1 rfl) ?_
  have hm := mgk (wc := (wd_X10_besides cI cC cZ cB cJ a_m nY sJ eG iY lY jR jW jZ jO oQ bR aY jQ gY iJ mQ lJ jA bG mK jB mW mJ eJ dG bT aG jC bL bY jD mLn oF rP dQ aJ aB bW bZ aR aE bI aW bU fJ dO bM bQ bO jY oX qG)) hP mk_213 8 rfl rfl rfl
  refine yW hP hD hS hA (yS mk_213) (aAi mk_213) hm.1 hm.2 (aAk _) (zW _) (zF (As := [.int p0]) (rest := [.int r_2, .ref a_m, .ref a_m]) C0 hP hD hS (yS mk_213) hm.1 (aAl _) 0 10 rfl rfl (c_X10_besides l dC dI cI cC cZ cB cJ a_m nY sJ eG iY lY jR jW jZ jO oQ bR aY jQ gY iJ mQ lJ jA bG mK jB mW mJ eJ dG H.size p0 bT aG jC bL bY jD mLn oF rP dQ aJ aB bW bZ aR aE bI aW bU fJ dO bM bQ bO jY oX qG _ hp) q_920 q_923 q_921 q_922 aBL h_X10_besides rfl rfl ⟨lbz rfl, lbz rfl⟩ rfl rfl hl.1 rfl (lv_room (lbz rfl)) aTX.2.2.2.2.2.2.2.2.2.2.1 ⟨Nat.zero_le _, Nat.zero_le _⟩) (fun r_3 u H locs hp hP hD hS => ?_)
  have hPD := PDm (ws' := (aCL cI cC cZ cB cJ a_m nY sJ eG iY lY jR jW jZ jO oQ bR aY jQ gY iJ mQ lJ jA bG mK jB mW mJ eJ dG bT aG jC bL bY jD mLn oF rP dQ aJ aB bW bZ aR aE bI aW bU fJ dO bM bQ bO jY oX qG oO pJ sH uE oJ vK)) hP hD 8 rfl rfl rfl
  have hP := hPD.1
  have hD := hPD.2
  have hm := mgk (wc := (aYC cI cC cZ cB cJ a_m nY sJ eG iY lY jR jW jZ jO oQ bR aY jQ gY iJ mQ lJ jA bG mK jB mW mJ eJ dG bT aG jC bL bY jD mLn oF rP dQ aJ aB bW bZ aR aE bI aW bU fJ dO bM bQ bO jY oX uE)) hP mk_266 8 rfl rfl rfl
  refine yW hP hD hS hA (yS mk_266) (aAi mk_266) hm.1 hm.2 (aAk _) (zW _) (zF (As := [.int r_2, .int r_3]) (rest := [.ref a_m]) C0 hP hD hS (yS mk_266) hm.1 (aAl _) 0 10 rfl rfl (c_X10_leastMoves l dC dI cI cC cZ cB cJ a_m nY sJ eG iY lY jR jW jZ jO oQ bR aY jQ gY iJ mQ lJ jA bG mK jB mW mJ eJ dG H.size r_2 r_3 bT aG jC bL bY jD mLn oF rP dQ aJ aB bW bZ aR aE bI aW bU fJ dO bM bQ bO jY oX uE _ hp) q_912 q_915 q_913 q_914 aBL h_X10_leastMoves rfl rfl ⟨lbz rfl, lbz rfl⟩ rfl rfl hl.1 rfl (lv_room (lbz rfl)) aTX.2.2.2.2.2.2.2.2.2.2.2.1 ⟨Nat.zero_le _, Nat.zero_le _⟩) (fun r_4 u H locs hp hP hD hS => ?_)
  have hPD := PDm (ws' := (aCL cI cC cZ cB cJ a_m nY sJ eG iY lY jR jW jZ jO oQ bR aY jQ gY iJ mQ lJ jA bG mK jB mW mJ eJ dG bT aG jC bL bY jD mLn oF rP dQ aJ aB bW bZ aR aE bI aW bU fJ dO bM bQ bO jY oX qG oO pJ sH uE oJ vK)) hP hD 8 rfl rfl rfl
  have hP := hPD.1
  have hD := hPD.2
  refine va_put (D := (dC, dI)) (ci := 10) (v := .int r_4) (ty := .int) (C := zX) (T := aBe) (N := 51) hx hb hts aAt aD2 aAa aEC hown hK hP hD hS 0 rfl rfl 40 (lbz rfl) (hts _ q_929) (fun _ h9 => h9) rfl (aAa 40 (lbz rfl)) rfl rfl (lbz rfl) aTX.2.2.2.2.2.2.2.2.2.2.2.2.1 (fun H locs hP hD hS => ?_)
  have hPD := PDw (ws' := (aCL cI cC cZ cB cJ a_m nY sJ eG iY lY jR jW jZ jO oQ bR aY jQ gY iJ mQ lJ jA bG mK jB mW mJ eJ dG bT aG jC bL bY jD mLn oF rP dQ aJ aB bW bZ aR aE bI aW bU fJ dO r_4 bQ bO jY oX qG oO pJ sH uE oJ vK)) hP hD rfl
  have hP := hPD.1
  have hD := hPD.2
  refine lv_aload_n hx hb aTX.2.2.2.2.2.2.2.2.2.2.2.2.2.1 rfl (lv_at hl 0 rfl) ?_
  refine lv_iconst (v := 0) hx hb aTX.2.2.2.2.2.2.2.2.2.2.2.2.2.2.1 aCi ?_
  refine va_put (D := (dC, dI)) (ci := 10) (v := .int 0) (ty := .int) (C := zX) (T := aBe) (N := 51) hx hb hts aAt aD2 aAa aEC hown hK hP hD hS 0 rfl rfl 41 (lbz rfl) (hts _ q_930) (fun _ h9 => h9) rfl (aAa 41 (lbz rfl)) rfl rfl (lbz rfl) aTX.2.2.2.2.2.2.2.2.2.2.2.2.2.2.2 (fun H locs hP hD hS => ?_)
  have hPD := PDw (ws' := (aCL cI cC cZ cB cJ a_m nY sJ eG iY lY jR jW jZ jO oQ bR aY jQ gY iJ mQ lJ jA bG mK jB mW mJ eJ dG bT aG jC bL bY jD mLn oF rP dQ aJ aB bW bZ aR aE bI aW bU fJ dO r_4 0 bO jY oX qG oO pJ sH uE oJ vK)) hP hD rfl
  have hP := hPD.1
  have hD := hPD.2
  refine lv_aload_n hx hb aQe.1 rfl (lv_at hl 0 rfl) ?_
  refine lv_iconst (v := 0) hx hb aQe.2.1 aCi ?_
  refine va_put (D := (dC, dI)) (ci := 10) (v := .int 0) (ty := .int) (C := zX) (T := aBe) (N := 51) hx hb hts aAt aD2 aAa aEC hown hK hP hD hS 0 rfl rfl 42 (lbz rfl) (hts _ q_931) (fun _ h9 => h9) rfl (aAa 42 (lbz rfl)) rfl rfl (lbz rfl) aQe.2.2.1 (fun H locs hP hD hS => ?_)
  have hPD := PDw (ws' := (aCL cI cC cZ cB cJ a_m nY sJ eG iY lY jR jW jZ jO oQ bR aY jQ gY iJ mQ lJ jA bG mK jB mW mJ eJ dG bT aG jC bL bY jD mLn oF rP dQ aJ aB bW bZ aR aE bI aW bU fJ dO r_4 0 0 jY oX qG oO pJ sH uE oJ vK)) hP hD rfl
  have hP := hPD.1
  have hD := hPD.2
  refine lv_iconst (v := 0) hx hb aQe.2.2.2.1 aCi ?_
  refine lv_istore_n (lv' := [(2, .int 0), (0, .ref a_m), (1, .int p0)]) hx hb aQe.2.2.2.2.1 rfl hl (by decide) rfl (fun ls hl => ?_)
  obtain ⟨n9, hp⟩ := hp
  exact kb_X10_workOf_36 C0 n9 p0 0 r_4 0 0 vK H locs ls hp hP hD hS (lv_sub hl [1, 2, 0] rfl)
