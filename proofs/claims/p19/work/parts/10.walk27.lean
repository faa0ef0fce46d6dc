noncomputable abbrev wd_X10_sum (cI cC cZ cB cJ : ClassId) (a_m oJ uD dY iJ lJ jQ jR jW jK pJ bM aY jO gR gY mK jZ iY bG mJ jB mQ lY eJ bY : Nat) (bW aG jG bQ dG : Int32) (jY : Nat) (m_length qG uW eY aJ aB bU dN aR aE bJ aW bT gJ dU bL bR bO mY pW : Int32) (m_x jA pY oY pR rG rQ : Nat → Int32) : va_W := [(a_m, .inr (10, [.ref oJ, .int bW, .ref uD, .ref dY, .ref iJ, .ref lJ, .int aG, .ref jQ, .ref jR, .ref jW, .ref jK, .int jG, .ref pJ, .int bQ, .int dG, rdv jK jO jY, .int m_length, .int qG, .int uW, .int eY, .ref bM, .ref aY, .int aJ, .int aB, .ref jO, .int bU, .int dN, .int aR, .int aE, .int bJ, .int aW, .ref gR, .int bT, .ref gY, .ref mK, .int gJ, .ref jZ, .int dU, .ref iY, .ref bG, .int bL, .int bR, .int bO, .ref mJ, .ref jB, .ref mQ, .int mY, .int pW, .ref lY, .ref eJ, .ref bY])), (uD, .inl (cI, 16, .inl m_x)), (dY, .inl (cI, 16, .inl jA)), (iJ, .inl (cI, 16, .inl pY)), (jQ, .inl (cI, 8, .inl oY)), (jR, .inl (cI, 8, .inl pR)), (jK, .inl (cB, 80, .inl rG)), (jO, .inl (cB, 40, .inl rQ))]
noncomputable abbrev q_X10_sum (dC : Nat → ClassId) (dI : Nat → Nat → Nat) (cI cC cZ cB cJ : ClassId) (A : Nat → Prop) (a_m oJ uD dY iJ lJ jQ jR jW jK pJ bM aY jO gR gY mK jZ iY bG mJ jB mQ lY eJ bY : Nat) (bW aG jG bQ dG : Int32) (jY : Nat) (m_length qG aJ aB bU dN aR aE bJ aW bT gJ dU bL bR bO mY pW : Int32) (m_x jA pY oY pR rG rQ : Nat → Int32) (post : Int32 → Int32 → Int32 → Prop) : Array Value → State → Outcome → State → Prop := va_Qi (fun (r : Int32) (u : Int32 × Int32) => post r u.1 u.2) (fun u t => gB (dC, dI) (tyl cI cC cZ cB cJ) A (wd_X10_sum cI cC cZ cB cJ a_m oJ uD dY iJ lJ jQ jR jW jK pJ bM aY jO gR gY mK jZ iY bG mJ jB mQ lY eJ bY bW aG jG bQ dG jY m_length qG u.1 u.2 aJ aB bU dN aR aE bJ aW bT gJ dU bL bR bO mY pW m_x jA pY oY pR rG rQ) t) A
noncomputable abbrev rm_X10_sum (rn : Nat) : Room := { frames := 6 * rn + 5, cells := 0, slots := 0, locals := 200 * rn + 111 }
section S_X10_sum
variable {p : Program} {l : Launch} {e : Env} {s : State} {m : MethodId} {args : Array Value} {below : List Frame} {meth : Method} {c : Code} {dC : Nat → ClassId} {dI : Nat → Nat → Nat} {cI cC cZ cB cJ : ClassId} {A : Nat → Prop} {a_m oJ uD dY iJ lJ jQ jR jW jK pJ bM aY jO gR gY mK jZ iY bG mJ jB mQ lY eJ bY : Nat} {bW aG jG bQ dG : Int32} {jY : Nat} {m_length qG aJ aB bU dN aR aE bJ aW bT gJ dU bL bR bO mY pW : Int32} {m_x jA pY oY pR rG rQ : Nat → Int32} {post : Int32 → Int32 → Int32 → Prop} {rn : Nat} {WT WH : TY_X10}
noncomputable def ws_X10_sum_78 (WT WH : TY_X10) (post : Int32 → Int32 → Int32 → Prop) (K6 : Int32 → Int32 → Int32 → Int32 → Prop) (jY : Nat) (m_length qG dN aR aE bJ aW : Int32) (m_x jA pY oY pR rG rQ : Nat → Int32) (x1 k0 uW eY : Int32) : Prop := K6 x1 k0 uW eY
set_option maxHeartbeats 4000000 in
set_option maxRecDepth 100000 in
theorem ks_X10_sum_78 (C0 : gc cX10_sum (some .int) 5 RX10 (dC, dI) (tyl cI cC cZ cB cJ) A p s m args meth c) (hT : CT_X10_thing l WT (6 * rn - 3) (200 * rn - 136)) (hH : CT_X10_held l WH (6 * rn) (200 * rn - 65)) {K6 : Int32 → Int32 → Int32 → Int32 → Prop} (hK6 : ∀ (x1 : Int32) (x2 : Int32) (uW : Int32) (eY : Int32) (H : Heap) (locs : List Loc) (ls : Array Slot), K6 x1 x2 uW eY → va_P (dC, dI) classes (wd_X10_sum cI cC cZ cB cJ a_m oJ uD dY iJ lJ jQ jR jW jK pJ bM aY jO gR gY mK jZ iY bG mJ jB mQ lY eJ bY bW aG jG bQ dG jY m_length qG uW eY aJ aB bU dN aR aE bJ aW bT gJ dU bL bR bO mY pW m_x jA pY oY pR rG rQ) H → va_D A (wd_X10_sum cI cC cZ cB cJ a_m oJ uD dY iJ lJ jQ jR jW jK pJ bM aY jO gR gY mK jZ iY bG mJ jB mQ lY eJ bY bW aG jG bQ dG jY m_length qG uW eY aJ aB bU dN aR aE bJ aW bT gJ dU bL bR bO mY pW m_x jA pY oY pR rG rQ) → va_S A s.heap H locs → lv_has ls 5 [(0, .ref a_m), (1, .int x1), (2, .int x2)] → W p l e (rm_X10_sum rn) s m args below meth c H locs 0 0 (MQ below (q_X10_sum dC dI cI cC cZ cB cJ A a_m oJ uD dY iJ lJ jQ jR jW jK pJ bM aY jO gR gY mK jZ iY bG mJ jB mQ lY eJ bY bW aG jG bQ dG jY m_length qG aJ aB bU dN aR aE bJ aW bT gJ dU bL bR bO mY pW m_x jA pY oY pR rG rQ post) args s 0 0 A) (F0 m 6 ls [])) : ∀ (x1 k0 uW eY : Int32) (H : Heap) (locs : List Loc) (ls : Array Slot), (ws_X10_sum_78 WT WH post K6 jY m_length qG dN aR aE bJ aW m_x jA pY oY pR rG rQ) x1 k0 uW eY → va_P (dC, dI) classes (wd_X10_sum cI cC cZ cB cJ a_m oJ uD dY iJ lJ jQ jR jW jK pJ bM aY jO gR gY mK jZ iY bG mJ jB mQ lY eJ bY bW aG jG bQ dG jY m_length qG uW eY aJ aB bU dN aR aE bJ aW bT gJ dU bL bR bO mY pW m_x jA pY oY pR rG rQ) H → va_D A (wd_X10_sum cI cC cZ cB cJ a_m oJ uD dY iJ lJ jQ jR jW jK pJ bM aY jO gR gY mK jZ iY bG mJ jB mQ lY eJ bY bW aG jG bQ dG jY m_length qG uW eY aJ aB bU dN aR aE bJ aW bT gJ dU bL bR bO mY pW m_x jA pY oY pR rG rQ) → va_S A s.heap H locs → lv_has ls 5 [(0, .ref a_m), (1, .int x1)] → W p l e (rm_X10_sum rn) s m args below meth c H locs 0 0 (MQ below (q_X10_sum dC dI cI cC cZ cB cJ A a_m oJ uD dY iJ lJ jQ jR jW jK pJ bM aY jO gR gY mK jZ iY bG mJ jB mQ lY eJ bY bW aG jG bQ dG jY m_length qG aJ aB bU dN aR aE bJ aW bT gJ dU bL bR bO mY pW m_x jA pY oY pR rG rQ post) args s 0 0 A) (F0 m 78 ls [.int k0]) := by
  obtain ⟨hx, hb, hr, hml, hown, hts, hlocks, hA, hK, hN, tL, tM, hZL, hTL, hZM, hTM, hZX⟩ := id C0
  intro x1 k0 uW eY H locs ls hp hP hD hS hl
  unfold ws_X10_sum_78 at hp
  refine lv_istore_n (lv' := [(2, .int k0), (0, .ref a_m), (1, .int x1)]) hx hb eX10_sum_61.2.2.2.2.2.2.2.2.2.2.1 rfl hl (by decide) rfl (fun ls hl => ?_)
  refine lv_goto (tgt := 6) hx hb eX10_sum_61.2.2.2.2.2.2.2.2.2.2.2.1 (by decide) ?_
  exact hK6 x1 k0 uW eY H locs ls hp hP hD hS (lv_sub hl [1, 2, 0] rfl)
noncomputable def ws_X10_sum_45 (WT WH : TY_X10) (post : Int32 → Int32 → Int32 → Prop) (K6 : Int32 → Int32 → Int32 → Int32 → Prop) (jY : Nat) (m_length qG dN aR aE bJ aW : Int32) (m_x jA pY oY pR rG rQ : Nat → Int32) (x1 x2 k0 uW eY : Int32) : Prop := ∀ v_7 : Int32, v_7 = uW + 1 → wp_X10_product WT WH (fun r_8 aAb yJ => (k0 = 0 → ∀ v_11 : Int32, v_11 = x2 - r_8 → ws_X10_sum_78 WT WH post K6 jY m_length qG dN aR aE bJ aW m_x jA pY oY pR rG rQ x1 v_11 aAb yJ) ∧ (¬ k0 = 0 → ∀ v_12 : Int32, v_12 = x2 + r_8 → ws_X10_sum_78 WT WH post K6 jY m_length qG dN aR aE bJ aW m_x jA pY oY pR rG rQ x1 v_12 aAb yJ)) x1 jY m_length qG v_7 eY dN aR aE bJ aW m_x jA pY oY pR rG rQ
set_option maxHeartbeats 4000000 in
set_option maxRecDepth 100000 in
theorem ks_X10_sum_45 (C0 : gc cX10_sum (some .int) 5 RX10 (dC, dI) (tyl cI cC cZ cB cJ) A p s m args meth c) (hT : CT_X10_thing l WT (6 * rn - 3) (200 * rn - 136)) (hH : CT_X10_held l WH (6 * rn) (200 * rn - 65)) {K6 : Int32 → Int32 → Int32 → Int32 → Prop} (hK6 : ∀ (x1 : Int32) (x2 : Int32) (uW : Int32) (eY : Int32) (H : Heap) (locs : List Loc) (ls : Array Slot), K6 x1 x2 uW eY → va_P (dC, dI) classes (wd_X10_sum cI cC cZ cB cJ a_m oJ uD dY iJ lJ jQ jR jW jK pJ bM aY jO gR gY mK jZ iY bG mJ jB mQ lY eJ bY bW aG jG bQ dG jY m_length qG uW eY aJ aB bU dN aR aE bJ aW bT gJ dU bL bR bO mY pW m_x jA pY oY pR rG rQ) H → va_D A (wd_X10_sum cI cC cZ cB cJ a_m oJ uD dY iJ lJ jQ jR jW jK pJ bM aY jO gR gY mK jZ iY bG mJ jB mQ lY eJ bY bW aG jG bQ dG jY m_length qG uW eY aJ aB bU dN aR aE bJ aW bT gJ dU bL bR bO mY pW m_x jA pY oY pR rG rQ) → va_S A s.heap H locs → lv_has ls 5 [(0, .ref a_m), (1, .int x1), (2, .int x2)] → W p l e (rm_X10_sum rn) s m args below meth c H locs 0 0 (MQ below (q_X10_sum dC dI cI cC cZ cB cJ A a_m oJ uD dY iJ lJ jQ jR jW jK pJ bM aY jO gR gY mK jZ iY bG mJ jB mQ lY eJ bY bW aG jG bQ dG jY m_length qG aJ aB bU dN aR aE bJ aW bT gJ dU bL bR bO mY pW m_x jA pY oY pR rG rQ post) args s 0 0 A) (F0 m 6 ls [])) : ∀ (x1 x2 k0 uW eY : Int32) (H : Heap) (locs : List Loc) (ls : Array Slot), (ws_X10_sum_45 WT WH post K6 jY m_length qG dN aR aE bJ aW m_x jA pY oY pR rG rQ) x1 x2 k0 uW eY → va_P (dC, dI) classes (wd_X10_sum cI cC cZ cB cJ a_m oJ uD dY iJ lJ jQ jR jW jK pJ bM aY jO gR gY mK jZ iY bG mJ jB mQ lY eJ bY bW aG jG bQ dG jY m_length qG uW eY aJ aB bU dN aR aE bJ aW bT gJ dU bL bR bO mY pW m_x jA pY oY pR rG rQ) H → va_D A (wd_X10_sum cI cC cZ cB cJ a_m oJ uD dY iJ lJ jQ jR jW jK pJ bM aY jO gR gY mK jZ iY bG mJ jB mQ lY eJ bY bW aG jG bQ dG jY m_length qG uW eY aJ aB bU dN aR aE bJ aW bT gJ dU bL bR bO mY pW m_x jA pY oY pR rG rQ) → va_S A s.heap H locs → lv_has ls 5 [(0, .ref a_m), (1, .int x1), (2, .int x2)] → W p l e (rm_X10_sum rn) s m args below meth c H locs 0 0 (MQ below (q_X10_sum dC dI cI cC cZ cB cJ A a_m oJ uD dY iJ lJ jQ jR jW jK pJ bM aY jO gR gY mK jZ iY bG mJ jB mQ lY eJ bY bW aG jG bQ dG jY m_length qG aJ aB bU dN aR aE bJ aW bT gJ dU bL bR bO mY pW m_x jA pY oY pR rG rQ post) args s 0 0 A) (F0 m 45 ls [.int k0]) := by
  obtain ⟨hx, hb, hr, hml, hown, hts, hlocks, hA, hK, hN, tL, tM, hZL, hTL, hZM, hTM, hZX⟩ := id C0
  intro x1 x2 k0 uW eY H locs ls hp hP hD hS hl
  unfold ws_X10_sum_45 at hp
  refine lv_istore_n (lv' := [(3, .int k0), (0, .ref a_m), (1, .int x1), (2, .int x2)]) hx hb eX10_sum_32.2.2.2.2.2.2.1 rfl hl (by decide) rfl (fun ls hl => ?_)
  refine lv_aload_n hx hb eX10_sum_32.2.2.2.2.2.2.2.1 rfl (lv_at hl 1 rfl) ?_
  refine lv_dup hx hb eX10_sum_32.2.2.2.2.2.2.2.2.1 rfl ?_
  refine va_get (D := (dC, dI)) (ci := 10) (v := .int uW) (C := RX10) (T := TX10) (N := 51) hx hb hts i_X10 hown hK hP 0 rfl rfl 18 (Nat.le_of_ble_eq_true rfl) (hts _ q_648) (fun _ h9 => h9) rfl eX10_sum_32.2.2.2.2.2.2.2.2.2.1 ?_
  refine lv_iconst (v := 1) hx hb eX10_sum_32.2.2.2.2.2.2.2.2.2.2.1 ic_1 ?_
  refine lv_iadd hx hb eX10_sum_32.2.2.2.2.2.2.2.2.2.2.2.1 ?_
  refine lv_topi (fun v_7 ev_7 => ?_)
  have hp := hp v_7 ev_7
  refine va_put (D := (dC, dI)) (ci := 10) (v := .int v_7) (ty := .int) (C := RX10) (T := TX10) (N := 51) hx hb hts i_X10 tyX10 tyX10_ok nmX10 hown hK hP hD hS 0 rfl rfl 18 (Nat.le_of_ble_eq_true rfl) (hts _ q_648) (fun _ h9 => h9) rfl (tyX10_ok 18 (Nat.le_of_ble_eq_true rfl)) rfl rfl (Nat.le_of_ble_eq_true rfl) eX10_sum_32.2.2.2.2.2.2.2.2.2.2.2.2.1 (fun H locs hP hD hS => ?_)
  have hP : va_P (dC, dI) classes (wd_X10_sum cI cC cZ cB cJ a_m oJ uD dY iJ lJ jQ jR jW jK pJ bM aY jO gR gY mK jZ iY bG mJ jB mQ lY eJ bY bW aG jG bQ dG jY m_length qG v_7 eY aJ aB bU dN aR aE bJ aW bT gJ dU bL bR bO mY pW m_x jA pY oY pR rG rQ) H := hP
  have hD : va_D A (wd_X10_sum cI cC cZ cB cJ a_m oJ uD dY iJ lJ jQ jR jW jK pJ bM aY jO gR gY mK jZ iY bG mJ jB mQ lY eJ bY bW aG jG bQ dG jY m_length qG v_7 eY aJ aB bU dN aR aE bJ aW bT gJ dU bL bR bO mY pW m_x jA pY oY pR rG rQ) := hD
  refine lv_aload_n hx hb eX10_sum_32.2.2.2.2.2.2.2.2.2.2.2.2.2.1 rfl (lv_at hl 1 rfl) ?_
  refine lv_iload_n hx hb eX10_sum_32.2.2.2.2.2.2.2.2.2.2.2.2.2.2.1 rfl (lv_at hl 2 rfl) ?_
  have hm := mgk (wc := (wd_X10_product cI cC cZ cB cJ a_m oJ uD dY iJ lJ jQ jR jW jK pJ bM aY jO gR gY mK jZ iY bG mJ jB mQ lY eJ bY bW aG jG bQ dG jY m_length qG v_7 eY aJ aB bU dN aR aE bJ aW bT gJ dU bL bR bO mY pW m_x jA pY oY pR rG rQ)) hP aAY 8 rfl rfl rfl
  refine g_calli hP hD hS hA (mixT aAY) (mixF aAY) hm.1 hm.2 (nd_F _) (dis_g _) (g_runV (As := [.int x1]) (rest := []) C0 hP hD hS (mixT aAY) hm.1 (nd_T _) 0 10 rfl rfl (c_X10_product l rn WT WH hT hH dC dI cI cC cZ cB cJ a_m oJ uD dY iJ lJ jQ jR jW jK pJ bM aY jO gR gY mK jZ iY bG mJ jB mQ lY eJ bY H.size x1 bW aG jG bQ dG jY m_length qG v_7 eY aJ aB bU dN aR aE bJ aW bT gJ dU bL bR bO mY pW m_x jA pY oY pR rG rQ _ hp) q_724 q_727 q_725 q_726 q_642 h_X10_product rfl rfl ⟨(show 6 * rn + 4 + 1 ≤ 6 * rn + 5 by omega), (show 8 + (5 + 11) + (200 * rn + 87) ≤ 200 * rn + 111 by omega)⟩ rfl rfl hl.1 rfl (lv_room (Nat.le_of_ble_eq_true rfl)) eX10_sum_32.2.2.2.2.2.2.2.2.2.2.2.2.2.2.2 ⟨Nat.zero_le _, Nat.zero_le _⟩) (fun r_8 u H locs hp hP hD hS => ?_)
  obtain ⟨aAb, yJ⟩ := u
  have hPD := PDm (ws' := (wd_X10_sum cI cC cZ cB cJ a_m oJ uD dY iJ lJ jQ jR jW jK pJ bM aY jO gR gY mK jZ iY bG mJ jB mQ lY eJ bY bW aG jG bQ dG jY m_length qG aAb yJ aJ aB bU dN aR aE bJ aW bT gJ dU bL bR bO mY pW m_x jA pY oY pR rG rQ)) hP hD 8 rfl rfl rfl
  have hP := hPD.1
  have hD := hPD.2
  refine lv_istore (lv' := [(4, .int r_8), (3, .int k0), (0, .ref a_m), (1, .int x1), (2, .int x2)]) hx hb eX10_sum_61.1 hl (by decide) rfl (fun ls hl => ?_)
  refine lv_iload_n hx hb eX10_sum_61.2.1 rfl (lv_at hl 1 rfl) ?_
  refine lv_if_eq (tgt := 74) hx hb eX10_sum_61.2.2.1 (by decide) (fun hc => ?_) (fun hc => ?_)
  · have hp := hp.1 hc
    refine lv_iload_n hx hb eX10_sum_61.2.2.2.2.2.2.2.1 rfl (lv_at hl 4 rfl) ?_
    refine lv_iload hx hb eX10_sum_61.2.2.2.2.2.2.2.2.1 (lv_at hl 0 rfl) ?_
    refine lv_isub hx hb eX10_sum_61.2.2.2.2.2.2.2.2.2.1 ?_
    refine lv_topi (fun v_11 ev_11 => ?_)
    have hp := hp v_11 ev_11
    exact ks_X10_sum_78 C0 hT hH hK6 x1 v_11 aAb yJ H locs ls hp hP hD hS (lv_sub hl [2, 3] rfl)
  · have hp := hp.2 hc
    refine lv_iload_n hx hb eX10_sum_61.2.2.2.1 rfl (lv_at hl 4 rfl) ?_
    refine lv_iload hx hb eX10_sum_61.2.2.2.2.1 (lv_at hl 0 rfl) ?_
    refine lv_iadd hx hb eX10_sum_61.2.2.2.2.2.1 ?_
    refine lv_topi (fun v_12 ev_12 => ?_)
    have hp := hp v_12 ev_12
    refine lv_goto (tgt := 78) hx hb eX10_sum_61.2.2.2.2.2.2.1 (by decide) ?_
    exact ks_X10_sum_78 C0 hT hH hK6 x1 v_12 aAb yJ H locs ls hp hP hD hS (lv_sub hl [2, 3] rfl)
noncomputable def ws_X10_sum_31 (WT WH : TY_X10) (post : Int32 → Int32 → Int32 → Prop) (K6 : Int32 → Int32 → Int32 → Int32 → Prop) (jY : Nat) (m_length qG dN aR aE bJ aW : Int32) (m_x jA pY oY pR rG rQ : Nat → Int32) (x1 x2 uW eY : Int32) : Prop := wp_X10_here (fun r_6 => (¬ r_6 = 43 → ws_X10_sum_45 WT WH post K6 jY m_length qG dN aR aE bJ aW m_x jA pY oY pR rG rQ x1 x2 0 uW eY) ∧ (r_6 = 43 → ws_X10_sum_45 WT WH post K6 jY m_length qG dN aR aE bJ aW m_x jA pY oY pR rG rQ x1 x2 1 uW eY)) jY m_length qG uW rG rQ
set_option maxHeartbeats 4000000 in
set_option maxRecDepth 100000 in
theorem ks_X10_sum_31 (C0 : gc cX10_sum (some .int) 5 RX10 (dC, dI) (tyl cI cC cZ cB cJ) A p s m args meth c) (hT : CT_X10_thing l WT (6 * rn - 3) (200 * rn - 136)) (hH : CT_X10_held l WH (6 * rn) (200 * rn - 65)) {K6 : Int32 → Int32 → Int32 → Int32 → Prop} (hK6 : ∀ (x1 : Int32) (x2 : Int32) (uW : Int32) (eY : Int32) (H : Heap) (locs : List Loc) (ls : Array Slot), K6 x1 x2 uW eY → va_P (dC, dI) classes (wd_X10_sum cI cC cZ cB cJ a_m oJ uD dY iJ lJ jQ jR jW jK pJ bM aY jO gR gY mK jZ iY bG mJ jB mQ lY eJ bY bW aG jG bQ dG jY m_length qG uW eY aJ aB bU dN aR aE bJ aW bT gJ dU bL bR bO mY pW m_x jA pY oY pR rG rQ) H → va_D A (wd_X10_sum cI cC cZ cB cJ a_m oJ uD dY iJ lJ jQ jR jW jK pJ bM aY jO gR gY mK jZ iY bG mJ jB mQ lY eJ bY bW aG jG bQ dG jY m_length qG uW eY aJ aB bU dN aR aE bJ aW bT gJ dU bL bR bO mY pW m_x jA pY oY pR rG rQ) → va_S A s.heap H locs → lv_has ls 5 [(0, .ref a_m), (1, .int x1), (2, .int x2)] → W p l e (rm_X10_sum rn) s m args below meth c H locs 0 0 (MQ below (q_X10_sum dC dI cI cC cZ cB cJ A a_m oJ uD dY iJ lJ jQ jR jW jK pJ bM aY jO gR gY mK jZ iY bG mJ jB mQ lY eJ bY bW aG jG bQ dG jY m_length qG aJ aB bU dN aR aE bJ aW bT gJ dU bL bR bO mY pW m_x jA pY oY pR rG rQ post) args s 0 0 A) (F0 m 6 ls [])) : ∀ (x1 x2 uW eY : Int32) (H : Heap) (locs : List Loc) (ls : Array Slot), (ws_X10_sum_31 WT WH post K6 jY m_length qG dN aR aE bJ aW m_x jA pY oY pR rG rQ) x1 x2 uW eY → va_P (dC, dI) classes (wd_X10_sum cI cC cZ cB cJ a_m oJ uD dY iJ lJ jQ jR jW jK pJ bM aY jO gR gY mK jZ iY bG mJ jB mQ lY eJ bY bW aG jG bQ dG jY m_length qG uW eY aJ aB bU dN aR aE bJ aW bT gJ dU bL bR bO mY pW m_x jA pY oY pR rG rQ) H → va_D A (wd_X10_sum cI cC cZ cB cJ a_m oJ uD dY iJ lJ jQ jR jW jK pJ bM aY jO gR gY mK jZ iY bG mJ jB mQ lY eJ bY bW aG jG bQ dG jY m_length qG uW eY aJ aB bU dN aR aE bJ aW bT gJ dU bL bR bO mY pW m_x jA pY oY pR rG rQ) → va_S A s.heap H locs → lv_has ls 5 [(0, .ref a_m), (1, .int x1), (2, .int x2)] → W p l e (rm_X10_sum rn) s m args below meth c H locs 0 0 (MQ below (q_X10_sum dC dI cI cC cZ cB cJ A a_m oJ uD dY iJ lJ jQ jR jW jK pJ bM aY jO gR gY mK jZ iY bG mJ jB mQ lY eJ bY bW aG jG bQ dG jY m_length qG aJ aB bU dN aR aE bJ aW bT gJ dU bL bR bO mY pW m_x jA pY oY pR rG rQ post) args s 0 0 A) (F0 m 31 ls []) := by
  obtain ⟨hx, hb, hr, hml, hown, hts, hlocks, hA, hK, hN, tL, tM, hZL, hTL, hZM, hTM, hZX⟩ := id C0
  intro x1 x2 uW eY H locs ls hp hP hD hS hl
  unfold ws_X10_sum_31 at hp
  refine lv_aload_n hx hb eX10_sum_0.2.2.2.2.2.2.2.2.2.2.2.2.2.2.2 rfl (lv_at hl 0 rfl) ?_
  have hm := mgk (wc := (wd_X10_here cI cC cZ cB cJ a_m oJ uD dY iJ lJ jQ jR jW jK pJ bM aY jO gR gY mK jZ iY bG mJ jB mQ lY eJ bY bW aG jG bQ dG jY m_length qG uW eY aJ aB bU dN aR aE bJ aW bT gJ dU bL bR bO mY pW rG rQ)) hP aAt 8 rfl rfl rfl
  refine g_calli hP hD hS hA (mixT aAt) (mixF aAt) hm.1 hm.2 (nd_F _) (dis_g _) (g_runV (As := []) (rest := []) C0 hP hD hS (mixT aAt) hm.1 (nd_T _) 0 10 rfl rfl (c_X10_here l dC dI cI cC cZ cB cJ a_m oJ uD dY iJ lJ jQ jR jW jK pJ bM aY jO gR gY mK jZ iY bG mJ jB mQ lY eJ bY H.size bW aG jG bQ dG jY m_length qG uW eY aJ aB bU dN aR aE bJ aW bT gJ dU bL bR bO mY pW rG rQ _ hp) q_658 q_661 q_659 q_660 q_642 h_X10_here rfl rfl ⟨(show 0 + 1 ≤ 6 * rn + 5 by omega), (show 8 + (1 + 11) + (0) ≤ 200 * rn + 111 by omega)⟩ rfl rfl hl.1 rfl (lv_room (Nat.le_of_ble_eq_true rfl)) eX10_sum_32.1 ⟨Nat.zero_le _, Nat.zero_le _⟩) (fun r_6 u H locs hp hP hD hS => ?_)
  have hPD := PDm (ws' := (wd_X10_sum cI cC cZ cB cJ a_m oJ uD dY iJ lJ jQ jR jW jK pJ bM aY jO gR gY mK jZ iY bG mJ jB mQ lY eJ bY bW aG jG bQ dG jY m_length qG uW eY aJ aB bU dN aR aE bJ aW bT gJ dU bL bR bO mY pW m_x jA pY oY pR rG rQ)) hP hD 8 rfl rfl rfl
  have hP := hPD.1
  have hD := hPD.2
  refine lv_bipush (v := 43) hx hb eX10_sum_32.2.1 bp_43 ?_
  refine lv_icmp_ne (tgt := 44) hx hb eX10_sum_32.2.2.1 (by decide) (fun hc => ?_) (fun hc => ?_)
  · have hp := hp.1 hc
    refine lv_iconst (v := 0) hx hb eX10_sum_32.2.2.2.2.2.1 ic_0 ?_
    exact ks_X10_sum_45 C0 hT hH hK6 x1 x2 0 uW eY H locs ls hp hP hD hS (lv_sub hl [0, 1, 2] rfl)
  · have hp := hp.2 hc
    refine lv_iconst (v := 1) hx hb eX10_sum_32.2.2.2.1 ic_1 ?_
    refine lv_goto (tgt := 45) hx hb eX10_sum_32.2.2.2.2.1 (by decide) ?_
    exact ks_X10_sum_45 C0 hT hH hK6 x1 x2 1 uW eY H locs ls hp hP hD hS (lv_sub hl [0, 1, 2] rfl)
noncomputable def ws_X10_sum_6 (WT WH : TY_X10) (post : Int32 → Int32 → Int32 → Prop) (next : Int32 → Int32 → Int32 → Int32 → Prop) (jY : Nat) (m_length qG dN aR aE bJ aW : Int32) (m_x jA pY oY pR rG rQ : Nat → Int32) (x1 x2 uW eY : Int32) : Prop := wp_X10_fine (fun r_4 => (r_4 = 0 → post x2 uW eY) ∧ (¬ r_4 = 0 → wp_X10_here (fun r_5 => (r_5 = 43 → ws_X10_sum_31 WT WH post next jY m_length qG dN aR aE bJ aW m_x jA pY oY pR rG rQ x1 x2 uW eY) ∧ (¬ r_5 = 43 → wp_X10_here (fun r_13 => (¬ r_13 = 45 → post x2 uW eY) ∧ (r_13 = 45 → ws_X10_sum_31 WT WH post next jY m_length qG dN aR aE bJ aW m_x jA pY oY pR rG rQ x1 x2 uW eY)) jY m_length qG uW rG rQ)) jY m_length qG uW rG rQ)) eY
noncomputable def wb_X10_sum_6 (WT WH : TY_X10) (post : Int32 → Int32 → Int32 → Prop) (jY : Nat) (m_length qG dN aR aE bJ aW : Int32) (m_x jA pY oY pR rG rQ : Nat → Int32) : Nat → Int32 → Int32 → Int32 → Int32 → Prop := fun n => Nat.rec (motive := fun _ => Int32 → Int32 → Int32 → Int32 → Prop) (fun _ _ _ _ => False) (fun _ ih => ws_X10_sum_6 WT WH post ih jY m_length qG dN aR aE bJ aW m_x jA pY oY pR rG rQ) n
set_option maxHeartbeats 4000000 in
set_option maxRecDepth 100000 in
theorem ks_X10_sum_6 (C0 : gc cX10_sum (some .int) 5 RX10 (dC, dI) (tyl cI cC cZ cB cJ) A p s m args meth c) (hT : CT_X10_thing l WT (6 * rn - 3) (200 * rn - 136)) (hH : CT_X10_held l WH (6 * rn) (200 * rn - 65)) {next : Int32 → Int32 → Int32 → Int32 → Prop} (hKn : ∀ (x1 : Int32) (x2 : Int32) (uW : Int32) (eY : Int32) (H : Heap) (locs : List Loc) (ls : Array Slot), next x1 x2 uW eY → va_P (dC, dI) classes (wd_X10_sum cI cC cZ cB cJ a_m oJ uD dY iJ lJ jQ jR jW jK pJ bM aY jO gR gY mK jZ iY bG mJ jB mQ lY eJ bY bW aG jG bQ dG jY m_length qG uW eY aJ aB bU dN aR aE bJ aW bT gJ dU bL bR bO mY pW m_x jA pY oY pR rG rQ) H → va_D A (wd_X10_sum cI cC cZ cB cJ a_m oJ uD dY iJ lJ jQ jR jW jK pJ bM aY jO gR gY mK jZ iY bG mJ jB mQ lY eJ bY bW aG jG bQ dG jY m_length qG uW eY aJ aB bU dN aR aE bJ aW bT gJ dU bL bR bO mY pW m_x jA pY oY pR rG rQ) → va_S A s.heap H locs → lv_has ls 5 [(0, .ref a_m), (1, .int x1), (2, .int x2)] → W p l e (rm_X10_sum rn) s m args below meth c H locs 0 0 (MQ below (q_X10_sum dC dI cI cC cZ cB cJ A a_m oJ uD dY iJ lJ jQ jR jW jK pJ bM aY jO gR gY mK jZ iY bG mJ jB mQ lY eJ bY bW aG jG bQ dG jY m_length qG aJ aB bU dN aR aE bJ aW bT gJ dU bL bR bO mY pW m_x jA pY oY pR rG rQ post) args s 0 0 A) (F0 m 6 ls [])) : ∀ (x1 x2 uW eY : Int32) (H : Heap) (locs : List Loc) (ls : Array Slot), (ws_X10_sum_6 WT WH post next jY m_length qG dN aR aE bJ aW m_x jA pY oY pR rG rQ) x1 x2 uW eY → va_P (dC, dI) classes (wd_X10_sum cI cC cZ cB cJ a_m oJ uD dY iJ lJ jQ jR jW jK pJ bM aY jO gR gY mK jZ iY bG mJ jB mQ lY eJ bY bW aG jG bQ dG jY m_length qG uW eY aJ aB bU dN aR aE bJ aW bT gJ dU bL bR bO mY pW m_x jA pY oY pR rG rQ) H → va_D A (wd_X10_sum cI cC cZ cB cJ a_m oJ uD dY iJ lJ jQ jR jW jK pJ bM aY jO gR gY mK jZ iY bG mJ jB mQ lY eJ bY bW aG jG bQ dG jY m_length qG uW eY aJ aB bU dN aR aE bJ aW bT gJ dU bL bR bO mY pW m_x jA pY oY pR rG rQ) → va_S A s.heap H locs → lv_has ls 5 [(0, .ref a_m), (1, .int x1), (2, .int x2)] → W p l e (rm_X10_sum rn) s m args below meth c H locs 0 0 (MQ below (q_X10_sum dC dI cI cC cZ cB cJ A a_m oJ uD dY iJ lJ jQ jR jW jK pJ bM aY jO gR gY mK jZ iY bG mJ jB mQ lY eJ bY bW aG jG bQ dG jY m_length qG aJ aB bU dN aR aE bJ aW bT gJ dU bL bR bO mY pW m_x jA pY oY pR rG rQ post) args s 0 0 A) (F0 m 6 ls []) := by
  obtain ⟨hx, hb, hr, hml, hown, hts, hlocks, hA, hK, hN, tL, tM, hZL, hTL, hZM, hTM, hZX⟩ := id C0
  intro x1 x2 uW eY H locs ls hp hP hD hS hl
  unfold ws_X10_sum_6 at hp
  refine lv_aload_n hx hb eX10_sum_0.2.2.2.2.1 rfl (lv_at hl 0 rfl) ?_
  have hm := mgk (wc := (wd_X10_fine cI cC cZ cB cJ a_m oJ uD dY iJ lJ jQ jR jW jK pJ bM aY jO gR gY mK jZ iY bG mJ jB mQ lY eJ bY bW aG jG bQ dG jY m_length qG uW eY aJ aB bU dN aR aE bJ aW bT gJ dU bL bR bO mY pW)) hP aBV 8 rfl rfl rfl
  refine g_calli hP hD hS hA (mixT aBV) (mixF aBV) hm.1 hm.2 (nd_F _) (dis_g _) (g_runV (As := []) (rest := []) C0 hP hD hS (mixT aBV) hm.1 (nd_T _) 0 10 rfl rfl (c_X10_fine l dC dI cI cC cZ cB cJ a_m oJ uD dY iJ lJ jQ jR jW jK pJ bM aY jO gR gY mK jZ iY bG mJ jB mQ lY eJ bY H.size bW aG jG bQ dG jY m_length qG uW eY aJ aB bU dN aR aE bJ aW bT gJ dU bL bR bO mY pW _ hp) q_650 q_653 q_651 q_652 q_642 h_X10_fine rfl rfl ⟨(show 0 + 1 ≤ 6 * rn + 5 by omega), (show 8 + (1 + 11) + (0) ≤ 200 * rn + 111 by omega)⟩ rfl rfl hl.1 rfl (lv_room (Nat.le_of_ble_eq_true rfl)) eX10_sum_0.2.2.2.2.2.1 ⟨Nat.zero_le _, Nat.zero_le _⟩) (fun r_4 u H locs hp hP hD hS => ?_)
  have hPD := PDm (ws' := (wd_X10_sum cI cC cZ cB cJ a_m oJ uD dY iJ lJ jQ jR jW jK pJ bM aY jO gR gY mK jZ iY bG mJ jB mQ lY eJ bY bW aG jG bQ dG jY m_length qG uW eY aJ aB bU dN aR aE bJ aW bT gJ dU bL bR bO mY pW m_x jA pY oY pR rG rQ)) hP hD 8 rfl rfl rfl
  have hP := hPD.1
  have hD := hPD.2
  refine lv_if_eq (tgt := 82) hx hb eX10_sum_0.2.2.2.2.2.2.1 (by decide) (fun hc => ?_) (fun hc => ?_)
  · have hp := hp.1 hc
    refine lv_iload_n hx hb eX10_sum_61.2.2.2.2.2.2.2.2.2.2.2.2.1 rfl (lv_at hl 2 rfl) ?_
    exact W.iret (v := x2) hx hb hr (fun t ht hW => ⟨⟨x2, (uW, eY), rfl, hp, by rw [ht]; exact hP, va_K.moved hW.alike hK, hD⟩, hS.F ht⟩) hS.2.2 eX10_sum_61.2.2.2.2.2.2.2.2.2.2.2.2.2
  · have hp := hp.2 hc
    refine lv_aload_n hx hb eX10_sum_0.2.2.2.2.2.2.2.1 rfl (lv_at hl 0 rfl) ?_
    have hm := mgk (wc := (wd_X10_here cI cC cZ cB cJ a_m oJ uD dY iJ lJ jQ jR jW jK pJ bM aY jO gR gY mK jZ iY bG mJ jB mQ lY eJ bY bW aG jG bQ dG jY m_length qG uW eY aJ aB bU dN aR aE bJ aW bT gJ dU bL bR bO mY pW rG rQ)) hP aAt 8 rfl rfl rfl
    refine g_calli hP hD hS hA (mixT aAt) (mixF aAt) hm.1 hm.2 (nd_F _) (dis_g _) (g_runV (As := []) (rest := []) C0 hP hD hS (mixT aAt) hm.1 (nd_T _) 0 10 rfl rfl (c_X10_here l dC dI cI cC cZ cB cJ a_m oJ uD dY iJ lJ jQ jR jW jK pJ bM aY jO gR gY mK jZ iY bG mJ jB mQ lY eJ bY H.size bW aG jG bQ dG jY m_length qG uW eY aJ aB bU dN aR aE bJ aW bT gJ dU bL bR bO mY pW rG rQ _ hp) q_658 q_661 q_659 q_660 q_642 h_X10_here rfl rfl ⟨(show 0 + 1 ≤ 6 * rn + 5 by omega), (show 8 + (1 + 11) + (0) ≤ 200 * rn + 111 by omega)⟩ rfl rfl hl.1 rfl (lv_room (Nat.le_of_ble_eq_true rfl)) eX10_sum_0.2.2.2.2.2.2.2.2.1 ⟨Nat.zero_le _, Nat.zero_le _⟩) (fun r_5 u H locs hp hP hD hS => ?_)
    have hPD := PDm (ws' := (wd_X10_sum cI cC cZ cB cJ a_m oJ uD dY iJ lJ jQ jR jW jK pJ bM aY jO gR gY mK jZ iY bG mJ jB mQ lY eJ bY bW aG jG bQ dG jY m_length qG uW eY aJ aB bU dN aR aE bJ aW bT gJ dU bL bR bO mY pW m_x jA pY oY pR rG rQ)) hP hD 8 rfl rfl rfl
    have hP := hPD.1
    have hD := hPD.2
    refine lv_bipush (v := 43) hx hb eX10_sum_0.2.2.2.2.2.2.2.2.2.1 bp_43 ?_
    refine lv_icmp_eq (tgt := 31) hx hb eX10_sum_0.2.2.2.2.2.2.2.2.2.2.1 (by decide) (fun hc => ?_) (fun hc => ?_)
    · have hp := hp.1 hc
      exact ks_X10_sum_31 C0 hT hH hKn x1 x2 uW eY H locs ls hp hP hD hS (lv_sub hl [0, 1, 2] rfl)
    · have hp := hp.2 hc
      refine lv_aload_n hx hb eX10_sum_0.2.2.2.2.2.2.2.2.2.2.2.1 rfl (lv_at hl 0 rfl) ?_
      have hm := mgk (wc := (wd_X10_here cI cC cZ cB cJ a_m oJ uD dY iJ lJ jQ jR jW jK pJ bM aY jO gR gY mK jZ iY bG mJ jB mQ lY eJ bY bW aG jG bQ dG jY m_length qG uW eY aJ aB bU dN aR aE bJ aW bT gJ dU bL bR bO mY pW rG rQ)) hP aAt 8 rfl rfl rfl
      refine g_calli hP hD hS hA (mixT aAt) (mixF aAt) hm.1 hm.2 (nd_F _) (dis_g _) (g_runV (As := []) (rest := []) C0 hP hD hS (mixT aAt) hm.1 (nd_T _) 0 10 rfl rfl (c_X10_here l dC dI cI cC cZ cB cJ a_m oJ uD dY iJ lJ jQ jR jW jK pJ bM aY jO gR gY mK jZ iY bG mJ jB mQ lY eJ bY H.size bW aG jG bQ dG jY m_length qG uW eY aJ aB bU dN aR aE bJ aW bT gJ dU bL bR bO mY pW rG rQ _ hp) q_658 q_661 q_659 q_660 q_642 h_X10_here rfl rfl ⟨(show 0 + 1 ≤ 6 * rn + 5 by omega), (show 8 + (1 + 11) + (0) ≤ 200 * rn + 111 by omega)⟩ rfl rfl hl.1 rfl (lv_room (Nat.le_of_ble_eq_true rfl)) eX10_sum_0.2.2.2.2.2.2.2.2.2.2.2.2.1 ⟨Nat.zero_le _, Nat.zero_le _⟩) (fun r_13 u H locs hp hP hD hS => ?_)
      have hPD := PDm (ws' := (wd_X10_sum cI cC cZ cB cJ a_m oJ uD dY iJ lJ jQ jR jW jK pJ bM aY jO gR gY mK jZ iY bG mJ jB mQ lY eJ bY bW aG jG bQ dG jY m_length qG uW eY aJ aB bU dN aR aE bJ aW bT gJ dU bL bR bO mY pW m_x jA pY oY pR rG rQ)) hP hD 8 rfl rfl rfl
      have hP := hPD.1
      have hD := hPD.2
      refine lv_bipush (v := 45) hx hb eX10_sum_0.2.2.2.2.2.2.2.2.2.2.2.2.2.1 bp_45 ?_
      refine lv_icmp_ne (tgt := 82) hx hb eX10_sum_0.2.2.2.2.2.2.2.2.2.2.2.2.2.2.1 (by decide) (fun hc => ?_) (fun hc => ?_)
      · have hp := hp.1 hc
        refine lv_iload_n hx hb eX10_sum_61.2.2.2.2.2.2.2.2.2.2.2.2.1 rfl (lv_at hl 2 rfl) ?_
        exact W.iret (v := x2) hx hb hr (fun t ht hW => ⟨⟨x2, (uW, eY), rfl, hp, by rw [ht]; exact hP, va_K.moved hW.alike hK, hD⟩, hS.F ht⟩) hS.2.2 eX10_sum_61.2.2.2.2.2.2.2.2.2.2.2.2.2
      · have hp := hp.2 hc
        exact ks_X10_sum_31 C0 hT hH hKn x1 x2 uW eY H locs ls hp hP hD hS (lv_sub hl [0, 1, 2] rfl)
set_option maxHeartbeats 4000000 in
set_option maxRecDepth 100000 in
theorem kb_X10_sum_6 (C0 : gc cX10_sum (some .int) 5 RX10 (dC, dI) (tyl cI cC cZ cB cJ) A p s m args meth c) (hT : CT_X10_thing l WT (6 * rn - 3) (200 * rn - 136)) (hH : CT_X10_held l WH (6 * rn) (200 * rn - 65)) : ∀ (n : Nat), ∀ (x1 x2 uW eY : Int32) (H : Heap) (locs : List Loc) (ls : Array Slot), (wb_X10_sum_6 WT WH post jY m_length qG dN aR aE bJ aW m_x jA pY oY pR rG rQ n) x1 x2 uW eY → va_P (dC, dI) classes (wd_X10_sum cI cC cZ cB cJ a_m oJ uD dY iJ lJ jQ jR jW jK pJ bM aY jO gR gY mK jZ iY bG mJ jB mQ lY eJ bY bW aG jG bQ dG jY m_length qG uW eY aJ aB bU dN aR aE bJ aW bT gJ dU bL bR bO mY pW m_x jA pY oY pR rG rQ) H → va_D A (wd_X10_sum cI cC cZ cB cJ a_m oJ uD dY iJ lJ jQ jR jW jK pJ bM aY jO gR gY mK jZ iY bG mJ jB mQ lY eJ bY bW aG jG bQ dG jY m_length qG uW eY aJ aB bU dN aR aE bJ aW bT gJ dU bL bR bO mY pW m_x jA pY oY pR rG rQ) → va_S A s.heap H locs → lv_has ls 5 [(0, .ref a_m), (1, .int x1), (2, .int x2)] → W p l e (rm_X10_sum rn) s m args below meth c H locs 0 0 (MQ below (q_X10_sum dC dI cI cC cZ cB cJ A a_m oJ uD dY iJ lJ jQ jR jW jK pJ bM aY jO gR gY mK jZ iY bG mJ jB mQ lY eJ bY bW aG jG bQ dG jY m_length qG aJ aB bU dN aR aE bJ aW bT gJ dU bL bR bO mY pW m_x jA pY oY pR rG rQ post) args s 0 0 A) (F0 m 6 ls []) := by
  intro n
  induction n with
  | zero =>
    intro x1 x2 uW eY H locs ls hp
    exact False.elim hp
  | succ n ih =>
    intro x1 x2 uW eY H locs ls hp
    exact ks_X10_sum_6 C0 hT hH ih x1 x2 uW eY H locs ls hp
end S_X10_sum
noncomputable def wp_X10_sum (WT WH : TY_X10) (post : Int32 → Int32 → Int32 → Prop) (p0 : Int32) (jY : Nat) (m_length qG uW eY dN aR aE bJ aW : Int32) (m_x jA pY oY pR rG rQ : Nat → Int32) : Prop := wp_X10_product WT WH (fun r_1 aAT zF => ∃ n : Nat, wb_X10_sum_6 WT WH post jY m_length qG dN aR aE bJ aW m_x jA pY oY pR rG rQ n p0 r_1 aAT zF) p0 jY m_length qG uW eY dN aR aE bJ aW m_x jA pY oY pR rG rQ
set_option maxHeartbeats 4000000 in
set_option maxRecDepth 100000 in
theorem c_X10_sum (l : Launch) (rn : Nat) (WT WH : TY_X10) (hT : CT_X10_thing l WT (6 * rn - 3) (200 * rn - 136)) (hH : CT_X10_held l WH (6 * rn) (200 * rn - 65)) (dC : Nat → ClassId) (dI : Nat → Nat → Nat) (cI cC cZ cB cJ : ClassId) (a_m oJ uD dY iJ lJ jQ jR jW jK pJ bM aY jO gR gY mK jZ iY bG mJ jB mQ lY eJ bY sz : Nat) (p0 bW aG jG bQ dG : Int32) (jY : Nat) (m_length qG uW eY aJ aB bU dN aR aE bJ aW bT gJ dU bL bR bO mY pW : Int32) (m_x jA pY oY pR rG rQ : Nat → Int32) (post : Int32 → Int32 → Int32 → Prop) (hw : wp_X10_sum WT WH post p0 jY m_length qG uW eY dN aR aE bJ aW m_x jA pY oY pR rG rQ) : Met l yX10_sum (gw yX10_sum cX10_sum 5 (some .int)) (rm_X10_sum rn) (va_Pc [.ref a_m, .int p0] (gPre (dC, dI) (tyl cI cC cZ cB cJ) (wd_X10_sum cI cC cZ cB cJ a_m oJ uD dY iJ lJ jQ jR jW jK pJ bM aY jO gR gY mK jZ iY bG mJ jB mQ lY eJ bY bW aG jG bQ dG jY m_length qG uW eY aJ aB bU dN aR aE bJ aW bT gJ dU bL bR bO mY pW m_x jA pY oY pR rG rQ) sz)) (q_X10_sum dC dI cI cC cZ cB cJ (va_A (wd_X10_sum cI cC cZ cB cJ a_m oJ uD dY iJ lJ jQ jR jW jK pJ bM aY jO gR gY mK jZ iY bG mJ jB mQ lY eJ bY bW aG jG bQ dG jY m_length qG uW eY aJ aB bU dN aR aE bJ aW bT gJ dU bL bR bO mY pW m_x jA pY oY pR rG rQ) sz) a_m oJ uD dY iJ lJ jQ jR jW jK pJ bM aY jO gR gY mK jZ iY bG mJ jB mQ lY eJ bY bW aG jG bQ dG jY m_length qG aJ aB bU dN aR aE bJ aW bT gJ dU bL bR bO mY pW m_x jA pY oY pR rG rQ post) 0 0 (va_A (wd_X10_sum cI cC cZ cB cJ a_m oJ uD dY iJ lJ jQ jR jW jK pJ bM aY jO gR gY mK jZ iY bG mJ jB mQ lY eJ bY bW aG jG bQ dG jY m_length qG uW eY aJ aB bU dN aR aE bJ aW bT gJ dU bL bR bO mY pW m_x jA pY oY pR rG rQ) sz) := by
  refine g_enter (own := RX10) (dC, dI) (tyl cI cC cZ cB cJ) (wd_X10_sum cI cC cZ cB cJ a_m oJ uD dY iJ lJ jQ jR jW jK pJ bM aY jO gR gY mK jZ iY bG mJ jB mQ lY eJ bY bW aG jG bQ dG jY m_length qG uW eY aJ aB bU dN aR aE bJ aW bT gJ dU bL bR bO mY pW m_x jA pY oY pR rG rQ) sz [.ref a_m, .int p0] (fun A => q_X10_sum dC dI cI cC cZ cB cJ A a_m oJ uD dY iJ lJ jQ jR jW jK pJ bM aY jO gR gY mK jZ iY bG mJ jB mQ lY eJ bY bW aG jG bQ dG jY m_length qG aJ aB bU dN aR aE bJ aW bT gJ dU bL bR bO mY pW m_x jA pY oY pR rG rQ post) pn_RX10 rfl (Nat.le_of_ble_eq_true rfl) ?_
  intro p e s m args below meth c A H locs ls C0 hP hD hS hl
  have hl : lv_has ls 5 [(0, .ref a_m), (1, .int p0)] := hl
  obtain ⟨hx, hb, hr, hml, hown, hts, hlocks, hA, hK, hN, tL, tM, hZL, hTL, hZM, hTM, hZX⟩ := id C0
  have hp := hw
  unfold wp_X10_sum at hp
  refine lv_aload_n hx hb eX10_sum_0.1 rfl (lv_at hl 0 rfl) ?_
  refine lv_iload_n hx hb eX10_sum_0.2.1 rfl (lv_at hl 1 rfl) ?_
  have hm := mgk (wc := (wd_X10_product cI cC cZ cB cJ a_m oJ uD dY iJ lJ jQ jR jW jK pJ bM aY jO gR gY mK jZ iY bG mJ jB mQ lY eJ bY bW aG jG bQ dG jY m_length qG uW eY aJ aB bU dN aR aE bJ aW bT gJ dU bL bR bO mY pW m_x jA pY oY pR rG rQ)) hP aAY 8 rfl rfl rfl
  refine g_calli hP hD hS hA (mixT aAY) (mixF aAY) hm.1 hm.2 (nd_F _) (dis_g _) (g_runV (As := [.int p0]) (rest := []) C0 hP hD hS (mixT aAY) hm.1 (nd_T _) 0 10 rfl rfl (c_X10_product l rn WT WH hT hH dC dI cI cC cZ cB cJ a_m oJ uD dY iJ lJ jQ jR jW jK pJ bM aY jO gR gY mK jZ iY bG mJ jB mQ lY eJ bY H.size p0 bW aG jG bQ dG jY m_length qG uW eY aJ aB bU dN aR aE bJ aW bT gJ dU bL bR bO mY pW m_x jA pY oY pR rG rQ _ hp) q_724 q_727 q_725 q_726 q_642 h_X10_product rfl rfl ⟨(show 6 * rn + 4 + 1 ≤ 6 * rn + 5 by omega), (show 8 + (5 + 11) + (200 * rn + 87) ≤ 200 * rn + 111 by omega)⟩ rfl rfl hl.1 rfl (lv_room (Nat.le_of_ble_eq_true rfl)) eX10_sum_0.2.2.1 ⟨Nat.zero_le _, Nat.zero_le _⟩) (fun r_1 u H locs hp hP hD hS => ?_)
  obtain ⟨aAT, zF⟩ := u
  have hPD := PDm (ws' := (wd_X10_sum cI cC cZ cB cJ a_m oJ uD dY iJ lJ jQ jR jW jK pJ bM aY jO gR gY mK jZ iY bG mJ jB mQ lY eJ bY bW aG jG bQ dG jY m_length qG aAT zF aJ aB bU dN aR aE bJ aW bT gJ dU bL bR bO mY pW m_x jA pY oY pR rG rQ)) hP hD 8 rfl rfl rfl
  have hP := hPD.1
  have hD := hPD.2
  refine lv_istore_n (lv' := [(2, .int r_1), (0, .ref a_m), (1, .int p0)]) hx hb eX10_sum_0.2.2.2.1 rfl hl (by decide) rfl (fun ls hl => ?_)
  obtain ⟨n9, hp⟩ := hp
  exact kb_X10_sum_6 C0 hT hH n9 p0 r_1 aAT zF H locs ls hp hP hD hS (lv_sub hl [1, 2, 0] rfl)
noncomputable abbrev wd_X10_held (cI cC cZ cB cJ : ClassId) (a_m oJ uD dY iJ lJ jQ jR jW jK pJ bM aY jO gR gY mK jZ iY bG mJ jB mQ lY eJ bY : Nat) (bW aG jG bQ dG : Int32) (jY : Nat) (m_length qG uW eY aJ aB bU dN aR aE bJ aW bT gJ dU bL bR bO mY pW : Int32) (m_x jA pY oY pR rG rQ : Nat → Int32) : va_W := [(a_m, .inr (10, [.ref oJ, .int bW, .ref uD, .ref dY, .ref iJ, .ref lJ, .int aG, .ref jQ, .ref jR, .ref jW, .ref jK, .int jG, .ref pJ, .int bQ, .int dG, rdv jK jO jY, .int m_length, .int qG, .int uW, .int eY, .ref bM, .ref aY, .int aJ, .int aB, .ref jO, .int bU, .int dN, .int aR, .int aE, .int bJ, .int aW, .ref gR, .int bT, .ref gY, .ref mK, .int gJ, .ref jZ, .int dU, .ref iY, .ref bG, .int bL, .int bR, .int bO, .ref mJ, .ref jB, .ref mQ, .int mY, .int pW, .ref lY, .ref eJ, .ref bY])), (uD, .inl (cI, 16, .inl m_x)), (dY, .inl (cI, 16, .inl jA)), (iJ, .inl (cI, 16, .inl pY)), (jQ, .inl (cI, 8, .inl oY)), (jR, .inl (cI, 8, .inl pR)), (jK, .inl (cB, 80, .inl rG)), (jO, .inl (cB, 40, .inl rQ))]
noncomputable abbrev q_X10_held (dC : Nat → ClassId) (dI : Nat → Nat → Nat) (cI cC cZ cB cJ : ClassId) (A : Nat → Prop) (a_m oJ uD dY iJ lJ jQ jR jW jK pJ bM aY jO gR gY mK jZ iY bG mJ jB mQ lY eJ bY : Nat) (bW aG jG bQ dG : Int32) (jY : Nat) (m_length qG aJ aB bU dN aR aE bJ aW bT gJ dU bL bR bO mY pW : Int32) (m_x jA pY oY pR rG rQ : Nat → Int32) (post : Int32 → Int32 → Int32 → Prop) : Array Value → State → Outcome → State → Prop := va_Qi (fun (r : Int32) (u : Int32 × Int32) => post r u.1 u.2) (fun u t => gB (dC, dI) (tyl cI cC cZ cB cJ) A (wd_X10_held cI cC cZ cB cJ a_m oJ uD dY iJ lJ jQ jR jW jK pJ bM aY jO gR gY mK jZ iY bG mJ jB mQ lY eJ bY bW aG jG bQ dG jY m_length qG u.1 u.2 aJ aB bU dN aR aE bJ aW bT gJ dU bL bR bO mY pW m_x jA pY oY pR rG rQ) t) A
noncomputable abbrev rm_X10_held (rn : Nat) : Room := { frames := 6 * rn + 6, cells := 0, slots := 0, locals := 200 * rn + 135 }
noncomputable def wp_X10_held (WT WH : TY_X10) (post : Int32 → Int32 → Int32 → Prop) (p0 : Int32) (jY : Nat) (m_length qG uW eY dN aR aE bJ aW : Int32) (m_x jA pY oY pR rG rQ : Nat → Int32) : Prop := wp_X10_sum WT WH (fun r_1 aAT zF => wp_X10_passes (fun r_4 m_at_5 => (r_4 = 0 → wp_X10_passes (fun r_6 m_at_7 => (r_6 = 0 → wp_X10_passes (fun r_8 aAb => (r_8 = 0 → post r_1 aAb zF) ∧ (¬ r_8 = 0 → wp_X10_sum WT WH (fun r_10 aGk aAQ => (¬ r_1 = r_10 → post 0 aGk aAQ) ∧ (r_1 = r_10 → post 1 aGk aAQ)) p0 jY m_length qG aAb zF dN aR aE bJ aW m_x jA pY oY pR rG rQ)) 61 jY m_length qG m_at_7 zF rG rQ) ∧ (¬ r_6 = 0 → wp_X10_sum WT WH (fun r_13 aIA aBJ => (r_1 ≤ r_13 → post 0 aIA aBJ) ∧ (¬ r_1 ≤ r_13 → post 1 aIA aBJ)) p0 jY m_length qG m_at_7 zF dN aR aE bJ aW m_x jA pY oY pR rG rQ)) 62 jY m_length qG m_at_5 zF rG rQ) ∧ (¬ r_4 = 0 → wp_X10_sum WT WH (fun r_16 m_at_17 aEC => (r_16 ≤ r_1 → post 0 m_at_17 aEC) ∧ (¬ r_16 ≤ r_1 → post 1 m_at_17 aEC)) p0 jY m_length qG m_at_5 zF dN aR aE bJ aW m_x jA pY oY pR rG rQ)) 60 jY m_length qG aAT zF rG rQ) p0 jY m_length qG uW eY dN aR aE bJ aW m_x jA pY oY pR rG rQ
set_option maxHeartbeats 4000000 in
set_option maxRecDepth 100000 in
theorem c_X10_held (l : Launch) (rn : Nat) (WT WH : TY_X10) (hT : CT_X10_thing l WT (6 * rn - 3) (200 * rn - 136)) (hH : CT_X10_held l WH (6 * rn) (200 * rn - 65)) (dC : Nat → ClassId) (dI : Nat → Nat → Nat) (cI cC cZ cB cJ : ClassId) (a_m oJ uD dY iJ lJ jQ jR jW jK pJ bM aY jO gR gY mK jZ iY bG mJ jB mQ lY eJ bY sz : Nat) (p0 bW aG jG bQ dG : Int32) (jY : Nat) (m_length qG uW eY aJ aB bU dN aR aE bJ aW bT gJ dU bL bR bO mY pW : Int32) (m_x jA pY oY pR rG rQ : Nat → Int32) (post : Int32 → Int32 → Int32 → Prop) (hw : wp_X10_held WT WH post p0 jY m_length qG uW eY dN aR aE bJ aW m_x jA pY oY pR rG rQ) : Met l yX10_held (gw yX10_held cX10_held 3 (some .int)) (rm_X10_held rn) (va_Pc [.ref a_m, .int p0] (gPre (dC, dI) (tyl cI cC cZ cB cJ) (wd_X10_held cI cC cZ cB cJ a_m oJ uD dY iJ lJ jQ jR jW jK pJ bM aY jO gR gY mK jZ iY bG mJ jB mQ lY eJ bY bW aG jG bQ dG jY m_length qG uW eY aJ aB bU dN aR aE bJ aW bT gJ dU bL bR bO mY pW m_x jA pY oY pR rG rQ) sz)) (q_X10_held dC dI cI cC cZ cB cJ (va_A (wd_X10_held cI cC cZ cB cJ a_m oJ uD dY iJ lJ jQ jR jW jK pJ bM aY jO gR gY mK jZ iY bG mJ jB mQ lY eJ bY bW aG jG bQ dG jY m_length qG uW eY aJ aB bU dN aR aE bJ aW bT gJ dU bL bR bO mY pW m_x jA pY oY pR rG rQ) sz) a_m oJ uD dY iJ lJ jQ jR jW jK pJ bM aY jO gR gY mK jZ iY bG mJ jB mQ lY eJ bY bW aG jG bQ dG jY m_length qG aJ aB bU dN aR aE bJ aW bT gJ dU bL bR bO mY pW m_x jA pY oY pR rG rQ post) 0 0 (va_A (wd_X10_held cI cC cZ cB cJ a_m oJ uD dY iJ lJ jQ jR jW jK pJ bM aY jO gR gY mK jZ iY bG mJ jB mQ lY eJ bY bW aG jG bQ dG jY m_length qG uW eY aJ aB bU dN aR aE bJ aW bT gJ dU bL bR bO mY pW m_x jA pY oY pR rG rQ) sz) := by
  refine g_enter (own := RX10) (dC, dI) (tyl cI cC cZ cB cJ) (wd_X10_held cI cC cZ cB cJ a_m oJ uD dY iJ lJ jQ jR jW jK pJ bM aY jO gR gY mK jZ iY bG mJ jB mQ lY eJ bY bW aG jG bQ dG jY m_length qG uW eY aJ aB bU dN aR aE bJ aW bT gJ dU bL bR bO mY pW m_x jA pY oY pR rG rQ) sz [.ref a_m, .int p0] (fun A => q_X10_held dC dI cI cC cZ cB cJ A a_m oJ uD dY iJ lJ jQ jR jW jK pJ bM aY jO gR gY mK jZ iY bG mJ jB mQ lY eJ bY bW aG jG bQ dG jY m_length qG aJ aB bU dN aR aE bJ aW bT gJ dU bL bR bO mY pW m_x jA pY oY pR rG rQ post) pn_RX10 rfl (Nat.le_of_ble_eq_true rfl) ?_
  intro p e s m args below meth c A H locs ls C0 hP hD hS hl
  have hl : lv_has ls 3 [(0, .ref a_m), (1, .int p0)] := hl
  obtain ⟨hx, hb, hr, hml, hown, hts, hlocks, hA, hK, hN, tL, tM, hZL, hTL, hZM, hTM, hZX⟩ := id C0
  have hp := hw
  unfold wp_X10_held at hp
  refine lv_aload_n hx hb eX10_held_0.1 rfl (lv_at hl 0 rfl) ?_
  refine lv_iload_n hx hb eX10_held_0.2.1 rfl (lv_at hl 1 rfl) ?_
  have hm := mgk (wc := (wd_X10_sum cI cC cZ cB cJ a_m oJ uD dY iJ lJ jQ jR jW jK pJ bM aY jO gR gY mK jZ iY bG mJ jB mQ lY eJ bY bW aG jG bQ dG jY m_length qG uW eY aJ aB bU dN aR aE bJ aW bT gJ dU bL bR bO mY pW m_x jA pY oY pR rG rQ)) hP aAY 8 rfl rfl rfl
  refine g_calli hP hD hS hA (mixT aAY) (mixF aAY) hm.1 hm.2 (nd_F _) (dis_g _) (g_runV (As := [.int p0]) (rest := []) C0 hP hD hS (mixT aAY) hm.1 (nd_T _) 0 10 rfl rfl (c_X10_sum l rn WT WH hT hH dC dI cI cC cZ cB cJ a_m oJ uD dY iJ lJ jQ jR jW jK pJ bM aY jO gR gY mK jZ iY bG mJ jB mQ lY eJ bY H.size p0 bW aG jG bQ dG jY m_length qG uW eY aJ aB bU dN aR aE bJ aW bT gJ dU bL bR bO mY pW m_x jA pY oY pR rG rQ _ hp) q_728 q_731 q_729 q_730 q_642 h_X10_sum rfl rfl ⟨(show 6 * rn + 5 + 1 ≤ 6 * rn + 6 by omega), (show 8 + (5 + 11) + (200 * rn + 111) ≤ 200 * rn + 135 by omega)⟩ rfl rfl hl.1 rfl (lv_room (Nat.le_of_ble_eq_true rfl)) eX10_held_0.2.2.1 ⟨Nat.zero_le _, Nat.zero_le _⟩) (fun r_1 u H locs hp hP hD hS => ?_)
  obtain ⟨aAT, zF⟩ := u
  have hPD := PDm (ws' := (wd_X10_held cI cC cZ cB cJ a_m oJ uD dY iJ lJ jQ jR jW jK pJ bM aY jO gR gY mK jZ iY bG mJ jB mQ lY eJ bY bW aG jG bQ dG jY m_length qG aAT zF aJ aB bU dN aR aE bJ aW bT gJ dU bL bR bO mY pW m_x jA pY oY pR rG rQ)) hP hD 8 rfl rfl rfl
  have hP := hPD.1
  have hD := hPD.2
  refine lv_istore_n (lv' := [(2, .int r_1), (0, .ref a_m), (1, .int p0)]) hx hb eX10_held_0.2.2.2.1 rfl hl (by decide) rfl (fun ls hl => ?_)
  refine lv_aload_n hx hb eX10_held_0.2.2.2.2.1 rfl (lv_at hl 1 rfl) ?_
  refine lv_bipush (v := 60) hx hb eX10_held_0.2.2.2.2.2.1 bp_60 ?_
  have hm := mgk (wc := (wd_X10_passes cI cC cZ cB cJ a_m oJ uD dY iJ lJ jQ jR jW jK pJ bM aY jO gR gY mK jZ iY bG mJ jB mQ lY eJ bY bW aG jG bQ dG jY m_length qG aAT zF aJ aB bU dN aR aE bJ aW bT gJ dU bL bR bO mY pW rG rQ)) hP aAt 8 rfl rfl rfl
  refine g_calli hP hD hS hA (mixT aAt) (mixF aAt) hm.1 hm.2 (nd_F _) (dis_g _) (g_runV (As := [.int 60]) (rest := []) C0 hP hD hS (mixT aAt) hm.1 (nd_T _) 0 10 rfl rfl (c_X10_passes l dC dI cI cC cZ cB cJ a_m oJ uD dY iJ lJ jQ jR jW jK pJ bM aY jO gR gY mK jZ iY bG mJ jB mQ lY eJ bY H.size 60 bW aG jG bQ dG jY m_length qG aAT zF aJ aB bU dN aR aE bJ aW bT gJ dU bL bR bO mY pW rG rQ _ hp) q_662 q_665 q_663 q_664 q_642 h_X10_passes rfl rfl ⟨(show 1 + 1 ≤ 6 * rn + 6 by omega), (show 8 + (2 + 11) + (20) ≤ 200 * rn + 135 by omega)⟩ rfl rfl hl.1 rfl (lv_room (Nat.le_of_ble_eq_true rfl)) eX10_held_0.2.2.2.2.2.2.1 ⟨Nat.zero_le _, Nat.zero_le _⟩) (fun r_4 u H locs hp hP hD hS => ?_)
  obtain ⟨m_at_5, rfl⟩ : ∃ z, z = u := ⟨_, rfl⟩
  have hPD := PDm (ws' := (wd_X10_held cI cC cZ cB cJ a_m oJ uD dY iJ lJ jQ jR jW jK pJ bM aY jO gR gY mK jZ iY bG mJ jB mQ lY eJ bY bW aG jG bQ dG jY m_length qG m_at_5 zF aJ aB bU dN aR aE bJ aW bT gJ dU bL bR bO mY pW m_x jA pY oY pR rG rQ)) hP hD 8 rfl rfl rfl
  have hP := hPD.1
  have hD := hPD.2
  refine lv_if_eq (tgt := 30) hx hb eX10_held_0.2.2.2.2.2.2.2.1 (by decide) (fun hc => ?_) (fun hc => ?_)
  · have hp := hp.1 hc
    refine lv_aload_n hx hb eX10_held_29.2.1 rfl (lv_at hl 1 rfl) ?_
    refine lv_bipush (v := 62) hx hb eX10_held_29.2.2.1 bp_62 ?_
    have hm := mgk (wc := (wd_X10_passes cI cC cZ cB cJ a_m oJ uD dY iJ lJ jQ jR jW jK pJ bM aY jO gR gY mK jZ iY bG mJ jB mQ lY eJ bY bW aG jG bQ dG jY m_length qG m_at_5 zF aJ aB bU dN aR aE bJ aW bT gJ dU bL bR bO mY pW rG rQ)) hP aAt 8 rfl rfl rfl
    refine g_calli hP hD hS hA (mixT aAt) (mixF aAt) hm.1 hm.2 (nd_F _) (dis_g _) (g_runV (As := [.int 62]) (rest := []) C0 hP hD hS (mixT aAt) hm.1 (nd_T _) 0 10 rfl rfl (c_X10_passes l dC dI cI cC cZ cB cJ a_m oJ uD dY iJ lJ jQ jR jW jK pJ bM aY jO gR gY mK jZ iY bG mJ jB mQ lY eJ bY H.size 62 bW aG jG bQ dG jY m_length qG m_at_5 zF aJ aB bU dN aR aE bJ aW bT gJ dU bL bR bO mY pW rG rQ _ hp) q_662 q_665 q_663 q_664 q_642 h_X10_passes rfl rfl ⟨(show 1 + 1 ≤ 6 * rn + 6 by omega), (show 8 + (2 + 11) + (20) ≤ 200 * rn + 135 by omega)⟩ rfl rfl hl.1 rfl (lv_room (Nat.le_of_ble_eq_true rfl)) eX10_held_29.2.2.2.1 ⟨Nat.zero_le _, Nat.zero_le _⟩) (fun r_6 u H locs hp hP hD hS => ?_)
    obtain ⟨m_at_7, rfl⟩ : ∃ z, z = u := ⟨_, rfl⟩
    have hPD := PDm (ws' := (wd_X10_held cI cC cZ cB cJ a_m oJ uD dY iJ lJ jQ jR jW jK pJ bM aY jO gR gY mK jZ iY bG mJ jB mQ lY eJ bY bW aG jG bQ dG jY m_length qG m_at_7 zF aJ aB bU dN aR aE bJ aW bT gJ dU bL bR bO mY pW m_x jA pY oY pR rG rQ)) hP hD 8 rfl rfl rfl
    have hP := hPD.1
    have hD := hPD.2
    refine lv_if_eq (tgt := 54) hx hb eX10_held_29.2.2.2.2.1 (by decide) (fun hc => ?_) (fun hc => ?_)
    · have hp := hp.1 hc
      refine lv_aload_n hx hb eX10_held_29.2.2.2.2.2.2.2.2.2.2.2.2.2.2.1 rfl (lv_at hl 1 rfl) ?_
      refine lv_bipush (v := 61) hx hb eX10_held_29.2.2.2.2.2.2.2.2.2.2.2.2.2.2.2 bp_61 ?_
      have hm := mgk (wc := (wd_X10_passes cI cC cZ cB cJ a_m oJ uD dY iJ lJ jQ jR jW jK pJ bM aY jO gR gY mK jZ iY bG mJ jB mQ lY eJ bY bW aG jG bQ dG jY m_length qG m_at_7 zF aJ aB bU dN aR aE bJ aW bT gJ dU bL bR bO mY pW rG rQ)) hP aAt 8 rfl rfl rfl
      refine g_calli hP hD hS hA (mixT aAt) (mixF aAt) hm.1 hm.2 (nd_F _) (dis_g _) (g_runV (As := [.int 61]) (rest := []) C0 hP hD hS (mixT aAt) hm.1 (nd_T _) 0 10 rfl rfl (c_X10_passes l dC dI cI cC cZ cB cJ a_m oJ uD dY iJ lJ jQ jR jW jK pJ bM aY jO gR gY mK jZ iY bG mJ jB mQ lY eJ bY H.size 61 bW aG jG bQ dG jY m_length qG m_at_7 zF aJ aB bU dN aR aE bJ aW bT gJ dU bL bR bO mY pW rG rQ _ hp) q_662 q_665 q_663 q_664 q_642 h_X10_passes rfl rfl ⟨(show 1 + 1 ≤ 6 * rn + 6 by omega), (show 8 + (2 + 11) + (20) ≤ 200 * rn + 135 by omega)⟩ rfl rfl hl.1 rfl (lv_room (Nat.le_of_ble_eq_true rfl)) eX10_held_57.1 ⟨Nat.zero_le _, Nat.zero_le _⟩) (fun r_8 u H locs hp hP hD hS => ?_)
      obtain ⟨aAb, rfl⟩ : ∃ z, z = u := ⟨_, rfl⟩
      have hPD := PDm (ws' := (wd_X10_held cI cC cZ cB cJ a_m oJ uD dY iJ lJ jQ jR jW jK pJ bM aY jO gR gY mK jZ iY bG mJ jB mQ lY eJ bY bW aG jG bQ dG jY m_length qG aAb zF aJ aB bU dN aR aE bJ aW bT gJ dU bL bR bO mY pW m_x jA pY oY pR rG rQ)) hP hD 8 rfl rfl rfl
      have hP := hPD.1
      have hD := hPD.2
      refine lv_if_eq (tgt := 78) hx hb eX10_held_57.2.1 (by decide) (fun hc => ?_) (fun hc => ?_)
      · have hp := hp.1 hc
        refine lv_iload_n hx hb eX10_held_57.2.2.2.2.2.2.2.2.2.2.2.1 rfl (lv_at hl 0 rfl) ?_
        exact W.iret (v := r_1) hx hb hr (fun t ht hW => ⟨⟨r_1, (aAb, zF), rfl, hp, by rw [ht]; exact hP, va_K.moved hW.alike hK, hD⟩, hS.F ht⟩) hS.2.2 eX10_held_57.2.2.2.2.2.2.2.2.2.2.2.2
      · have hp := hp.2 hc
        refine lv_iload_n hx hb eX10_held_57.2.2.1 rfl (lv_at hl 0 rfl) ?_
        refine lv_aload_n hx hb eX10_held_57.2.2.2.1 rfl (lv_at hl 1 rfl) ?_
        refine lv_iload_n hx hb eX10_held_57.2.2.2.2.1 rfl (lv_at hl 2 rfl) ?_
        have hm := mgk (wc := (wd_X10_sum cI cC cZ cB cJ a_m oJ uD dY iJ lJ jQ jR jW jK pJ bM aY jO gR gY mK jZ iY bG mJ jB mQ lY eJ bY bW aG jG bQ dG jY m_length qG aAb zF aJ aB bU dN aR aE bJ aW bT gJ dU bL bR bO mY pW m_x jA pY oY pR rG rQ)) hP aAY 8 rfl rfl rfl
        refine g_calli hP hD hS hA (mixT aAY) (mixF aAY) hm.1 hm.2 (nd_F _) (dis_g _) (g_runV (As := [.int p0]) (rest := [.int r_1]) C0 hP hD hS (mixT aAY) hm.1 (nd_T _) 0 10 rfl rfl (c_X10_sum l rn WT WH hT hH dC dI cI cC cZ cB cJ a_m oJ uD dY iJ lJ jQ jR jW jK pJ bM aY jO gR gY mK jZ iY bG mJ jB mQ lY eJ bY H.size p0 bW aG jG bQ dG jY m_length qG aAb zF aJ aB bU dN aR aE bJ aW bT gJ dU bL bR bO mY pW m_x jA pY oY pR rG rQ _ hp) q_728 q_731 q_729 q_730 q_642 h_X10_sum rfl rfl ⟨(show 6 * rn + 5 + 1 ≤ 6 * rn + 6 by omega), (show 8 + (5 + 11) + (200 * rn + 111) ≤ 200 * rn + 135 by omega)⟩ rfl rfl hl.1 rfl (lv_room (Nat.le_of_ble_eq_true rfl)) eX10_held_57.2.2.2.2.2.1 ⟨Nat.zero_le _, Nat.zero_le _⟩) (fun r_10 u H locs hp hP hD hS => ?_)
        obtain ⟨aGk, aAQ⟩ := u
        have hPD := PDm (ws' := (wd_X10_held cI cC cZ cB cJ a_m oJ uD dY iJ lJ jQ jR jW jK pJ bM aY jO gR gY mK jZ iY bG mJ jB mQ lY eJ bY bW aG jG bQ dG jY m_length qG aGk aAQ aJ aB bU dN aR aE bJ aW bT gJ dU bL bR bO mY pW m_x jA pY oY pR rG rQ)) hP hD 8 rfl rfl rfl
        have hP := hPD.1
        have hD := hPD.2
        refine lv_icmp_ne (tgt := 76) hx hb eX10_held_57.2.2.2.2.2.2.1 (by decide) (fun hc => ?_) (fun hc => ?_)
        · have hp := hp.1 hc
          refine lv_iconst (v := 0) hx hb eX10_held_57.2.2.2.2.2.2.2.2.2.1 ic_0 ?_
          exact W.iret (v := 0) hx hb hr (fun t ht hW => ⟨⟨0, (aGk, aAQ), rfl, hp, by rw [ht]; exact hP, va_K.moved hW.alike hK, hD⟩, hS.F ht⟩) hS.2.2 eX10_held_57.2.2.2.2.2.2.2.2.2.2.1
        · have hp := hp.2 hc
          refine lv_iconst (v := 1) hx hb eX10_held_57.2.2.2.2.2.2.2.1 ic_1 ?_
          refine lv_goto (tgt := 77) hx hb eX10_held_57.2.2.2.2.2.2.2.2.1 (by decide) ?_
          exact W.iret (v := 1) hx hb hr (fun t ht hW => ⟨⟨1, (aGk, aAQ), rfl, hp, by rw [ht]; exact hP, va_K.moved hW.alike hK, hD⟩, hS.F ht⟩) hS.2.2 eX10_held_57.2.2.2.2.2.2.2.2.2.2.1
    · have hp := hp.2 hc
      refine lv_iload_n hx hb eX10_held_29.2.2.2.2.2.1 rfl (lv_at hl 0 rfl) ?_
      refine lv_aload_n hx hb eX10_held_29.2.2.2.2.2.2.1 rfl (lv_at hl 1 rfl) ?_
      refine lv_iload_n hx hb eX10_held_29.2.2.2.2.2.2.2.1 rfl (lv_at hl 2 rfl) ?_
      have hm := mgk (wc := (wd_X10_sum cI cC cZ cB cJ a_m oJ uD dY iJ lJ jQ jR jW jK pJ bM aY jO gR gY mK jZ iY bG mJ jB mQ lY eJ bY bW aG jG bQ dG jY m_length qG m_at_7 zF aJ aB bU dN aR aE bJ aW bT gJ dU bL bR bO mY pW m_x jA pY oY pR rG rQ)) hP aAY 8 rfl rfl rfl
      refine g_calli hP hD hS hA (mixT aAY) (mixF aAY) hm.1 hm.2 (nd_F _) (dis_g _) (g_runV (As := [.int p0]) (rest := [.int r_1]) C0 hP hD hS (mixT aAY) hm.1 (nd_T _) 0 10 rfl rfl (c_X10_sum l rn WT WH hT hH dC dI cI cC cZ cB cJ a_m oJ uD dY iJ lJ jQ jR jW jK pJ bM aY jO gR gY mK jZ iY bG mJ jB mQ lY eJ bY H.size p0 bW aG jG bQ dG jY m_length qG m_at_7 zF aJ aB bU dN aR aE bJ aW bT gJ dU bL bR bO mY pW m_x jA pY oY pR rG rQ _ hp) q_728 q_731 q_729 q_730 q_642 h_X10_sum rfl rfl ⟨(show 6 * rn + 5 + 1 ≤ 6 * rn + 6 by omega), (show 8 + (5 + 11) + (200 * rn + 111) ≤ 200 * rn + 135 by omega)⟩ rfl rfl hl.1 rfl (lv_room (Nat.le_of_ble_eq_true rfl)) eX10_held_29.2.2.2.2.2.2.2.2.1 ⟨Nat.zero_le _, Nat.zero_le _⟩) (fun r_13 u H locs hp hP hD hS => ?_)
      obtain ⟨aIA, aBJ⟩ := u
      have hPD := PDm (ws' := (wd_X10_held cI cC cZ cB cJ a_m oJ uD dY iJ lJ jQ jR jW jK pJ bM aY jO gR gY mK jZ iY bG mJ jB mQ lY eJ bY bW aG jG bQ dG jY m_length qG aIA aBJ aJ aB bU dN aR aE bJ aW bT gJ dU bL bR bO mY pW m_x jA pY oY pR rG rQ)) hP hD 8 rfl rfl rfl
      have hP := hPD.1
      have hD := hPD.2
      refine lv_icmp_le (tgt := 52) hx hb eX10_held_29.2.2.2.2.2.2.2.2.2.1 (by decide) (fun hc => ?_) (fun hc => ?_)
      · have hp := hp.1 hc
        refine lv_iconst (v := 0) hx hb eX10_held_29.2.2.2.2.2.2.2.2.2.2.2.2.1 ic_0 ?_
        exact W.iret (v := 0) hx hb hr (fun t ht hW => ⟨⟨0, (aIA, aBJ), rfl, hp, by rw [ht]; exact hP, va_K.moved hW.alike hK, hD⟩, hS.F ht⟩) hS.2.2 eX10_held_29.2.2.2.2.2.2.2.2.2.2.2.2.2.1
      · have hp := hp.2 hc
        refine lv_iconst (v := 1) hx hb eX10_held_29.2.2.2.2.2.2.2.2.2.2.1 ic_1 ?_
        refine lv_goto (tgt := 53) hx hb eX10_held_29.2.2.2.2.2.2.2.2.2.2.2.1 (by decide) ?_
        exact W.iret (v := 1) hx hb hr (fun t ht hW => ⟨⟨1, (aIA, aBJ), rfl, hp, by rw [ht]; exact hP, va_K.moved hW.alike hK, hD⟩, hS.F ht⟩) hS.2.2 eX10_held_29.2.2.2.2.2.2.2.2.2.2.2.2.2.1
  · have hp := hp.2 hc
    refine lv_iload_n hx hb eX10_held_0.2.2.2.2.2.2.2.2.1 rfl (lv_at hl 0 rfl) ?_
    refine lv_aload_n hx hb eX10_held_0.2.2.2.2.2.2.2.2.2.1 rfl (lv_at hl 1 rfl) ?_
    refine lv_iload_n hx hb eX10_held_0.2.2.2.2.2.2.2.2.2.2.1 rfl (lv_at hl 2 rfl) ?_
    have hm := mgk (wc := (wd_X10_sum cI cC cZ cB cJ a_m oJ uD dY iJ lJ jQ jR jW jK pJ bM aY jO gR gY mK jZ iY bG mJ jB mQ lY eJ bY bW aG jG bQ dG jY m_length qG m_at_5 zF aJ aB bU dN aR aE bJ aW bT gJ dU bL bR bO mY pW m_x jA pY oY pR rG rQ)) hP aAY 8 rfl rfl rfl
    refine g_calli hP hD hS hA (mixT aAY) (mixF aAY) hm.1 hm.2 (nd_F _) (dis_g _) (g_runV (As := [.int p0]) (rest := [.int r_1]) C0 hP hD hS (mixT aAY) hm.1 (nd_T _) 0 10 rfl rfl (c_X10_sum l rn WT WH hT hH dC dI cI cC cZ cB cJ a_m oJ uD dY iJ lJ jQ jR jW jK pJ bM aY jO gR gY mK jZ iY bG mJ jB mQ lY eJ bY H.size p0 bW aG jG bQ dG jY m_length qG m_at_5 zF aJ aB bU dN aR aE bJ aW bT gJ dU bL bR bO mY pW m_x jA pY oY pR rG rQ _ hp) q_728 q_731 q_729 q_730 q_642 h_X10_sum rfl rfl ⟨(show 6 * rn + 5 + 1 ≤ 6 * rn + 6 by omega), (show 8 + (5 + 11) + (200 * rn + 111) ≤ 200 * rn + 135 by omega)⟩ rfl rfl hl.1 rfl (lv_room (Nat.le_of_ble_eq_true rfl)) eX10_held_0.2.2.2.2.2.2.2.2.2.2.2.1 ⟨Nat.zero_le _, Nat.zero_le _⟩) (fun r_16 u H locs hp hP hD hS => ?_)
    obtain ⟨m_at_17, aEC⟩ := u
    have hPD := PDm (ws' := (wd_X10_held cI cC cZ cB cJ a_m oJ uD dY iJ lJ jQ jR jW jK pJ bM aY jO gR gY mK jZ iY bG mJ jB mQ lY eJ bY bW aG jG bQ dG jY m_length qG m_at_17 aEC aJ aB bU dN aR aE bJ aW bT gJ dU bL bR bO mY pW m_x jA pY oY pR rG rQ)) hP hD 8 rfl rfl rfl
    have hP := hPD.1
    have hD := hPD.2
    refine lv_icmp_ge (tgt := 28) hx hb eX10_held_0.2.2.2.2.2.2.2.2.2.2.2.2.1 (by decide) (fun hc => ?_) (fun hc => ?_)
    · have hp := hp.1 hc
      refine lv_iconst (v := 0) hx hb eX10_held_0.2.2.2.2.2.2.2.2.2.2.2.2.2.2.2 ic_0 ?_
      exact W.iret (v := 0) hx hb hr (fun t ht hW => ⟨⟨0, (m_at_17, aEC), rfl, hp, by rw [ht]; exact hP, va_K.moved hW.alike hK, hD⟩, hS.F ht⟩) hS.2.2 eX10_held_29.1
    · have hp := hp.2 hc
      refine lv_iconst (v := 1) hx hb eX10_held_0.2.2.2.2.2.2.2.2.2.2.2.2.2.1 ic_1 ?_
      refine lv_goto (tgt := 29) hx hb eX10_held_0.2.2.2.2.2.2.2.2.2.2.2.2.2.2.1 (by decide) ?_
      exact W.iret (v := 1) hx hb hr (fun t ht hW => ⟨⟨1, (m_at_17, aEC), rfl, hp, by rw [ht]; exact hP, va_K.moved hW.alike hK, hD⟩, hS.F ht⟩) hS.2.2 eX10_held_29.1
noncomputable abbrev wd_X10_heldR (cI cC cZ cB cJ : ClassId) (a_m oJ uD dY iJ lJ jQ jR jW jK pJ bM aY jO gR gY mK jZ iY bG mJ jB mQ lY eJ bY : Nat) (bW aG jG bQ dG : Int32) (jY : Nat) (m_length qG uW eY aJ aB bU dN aR aE bJ aW bT gJ dU bL bR bO mY pW : Int32) (m_x jA pY oY pR rG rQ : Nat → Int32) : va_W := [(a_m, .inr (10, [.ref oJ, .int bW, .ref uD, .ref dY, .ref iJ, .ref lJ, .int aG, .ref jQ, .ref jR, .ref jW, .ref jK, .int jG, .ref pJ, .int bQ, .int dG, rdv jK jO jY, .int m_length, .int qG, .int uW, .int eY, .ref bM, .ref aY, .int aJ, .int aB, .ref jO, .int bU, .int dN, .int aR, .int aE, .int bJ, .int aW, .ref gR, .int bT, .ref gY, .ref mK, .int gJ, .ref jZ, .int dU, .ref iY, .ref bG, .int bL, .int bR, .int bO, .ref mJ, .ref jB, .ref mQ, .int mY, .int pW, .ref lY, .ref eJ, .ref bY])), (uD, .inl (cI, 16, .inl m_x)), (dY, .inl (cI, 16, .inl jA)), (iJ, .inl (cI, 16, .inl pY)), (jQ, .inl (cI, 8, .inl oY)), (jR, .inl (cI, 8, .inl pR)), (jK, .inl (cB, 80, .inl rG)), (jO, .inl (cB, 40, .inl rQ))]
noncomputable abbrev q_X10_heldR (dC : Nat → ClassId) (dI : Nat → Nat → Nat) (cI cC cZ cB cJ : ClassId) (A : Nat → Prop) (a_m oJ uD dY iJ lJ jQ jR jW jK pJ bM aY jO gR gY mK jZ iY bG mJ jB mQ lY eJ bY : Nat) (bW aG jG bQ dG : Int32) (jY : Nat) (m_length qG aJ aB bU dN aR aE bJ aW bT gJ dU bL bR bO mY pW : Int32) (m_x jA pY oY pR rG rQ : Nat → Int32) (post : Int32 → Int32 → Int32 → Prop) : Array Value → State → Outcome → State → Prop := va_Qi (fun (r : Int32) (u : Int32 × Int32) => post r u.1 u.2) (fun u t => gB (dC, dI) (tyl cI cC cZ cB cJ) A (wd_X10_heldR cI cC cZ cB cJ a_m oJ uD dY iJ lJ jQ jR jW jK pJ bM aY jO gR gY mK jZ iY bG mJ jB mQ lY eJ bY bW aG jG bQ dG jY m_length qG u.1 u.2 aJ aB bU dN aR aE bJ aW bT gJ dU bL bR bO mY pW m_x jA pY oY pR rG rQ) t) A
noncomputable abbrev rm_X10_heldR : Room := { frames := 264, cells := 0, slots := 0, locals := 8735 }
noncomputable def rr_X10 : Nat → TY_X10 × TY_X10 := fun n => Nat.rec (motive := fun _ => TY_X10 × TY_X10) ((fun _ _ _ _ _ _ _ _ _ _ _ _ _ _ _ _ _ _ _ => False), (fun _ _ _ _ _ _ _ _ _ _ _ _ _ _ _ _ _ _ _ => False)) (fun _ p => (wp_X10_thing p.1 p.2, wp_X10_held p.1 p.2)) n
set_option maxHeartbeats 4000000 in
theorem rr_X10_ok (l : Launch) : ∀ n, CT_X10_thing l (rr_X10 n).1 (6 * n - 3) (200 * n - 136) ∧ CT_X10_held l (rr_X10 n).2 (6 * n) (200 * n - 65) := by
  intro n
  induction n with
  | zero =>
    constructor
    · intro dC dI cI cC cZ cB cJ a_m oJ uD dY iJ lJ jQ jR jW jK pJ bM aY jO gR gY mK jZ iY bG mJ jB mQ lY eJ bY sz p0 bW aG jG bQ dG jY m_length qG uW eY aJ aB bU dN aR aE bJ aW bT gJ dU bL bR bO mY pW m_x jA pY oY pR rG rQ post h; exact False.elim h
    · intro dC dI cI cC cZ cB cJ a_m oJ uD dY iJ lJ jQ jR jW jK pJ bM aY jO gR gY mK jZ iY bG mJ jB mQ lY eJ bY sz p0 bW aG jG bQ dG jY m_length qG uW eY aJ aB bU dN aR aE bJ aW bT gJ dU bL bR bO mY pW m_x jA pY oY pR rG rQ post h; exact False.elim h
  | succ n ih =>
    have h1 : CT_X10_thing l (rr_X10 (n + 1)).1 (6 * n + 3) (200 * n + 64) := fun dC dI cI cC cZ cB cJ a_m oJ uD dY iJ lJ jQ jR jW jK pJ bM aY jO gR gY mK jZ iY bG mJ jB mQ lY eJ bY sz p0 bW aG jG bQ dG jY m_length qG uW eY aJ aB bU dN aR aE bJ aW bT gJ dU bL bR bO mY pW m_x jA pY oY pR rG rQ post h => c_X10_thing l n _ _ ih.1 ih.2 dC dI cI cC cZ cB cJ a_m oJ uD dY iJ lJ jQ jR jW jK pJ bM aY jO gR gY mK jZ iY bG mJ jB mQ lY eJ bY sz p0 bW aG jG bQ dG jY m_length qG uW eY aJ aB bU dN aR aE bJ aW bT gJ dU bL bR bO mY pW m_x jA pY oY pR rG rQ post h
    have h2 : CT_X10_held l (rr_X10 (n + 1)).2 (6 * n + 6) (200 * n + 135) := fun dC dI cI cC cZ cB cJ a_m oJ uD dY iJ lJ jQ jR jW jK pJ bM aY jO gR gY mK jZ iY bG mJ jB mQ lY eJ bY sz p0 bW aG jG bQ dG jY m_length qG uW eY aJ aB bU dN aR aE bJ aW bT gJ dU bL bR bO mY pW m_x jA pY oY pR rG rQ post h => c_X10_held l n _ _ ih.1 ih.2 dC dI cI cC cZ cB cJ a_m oJ uD dY iJ lJ jQ jR jW jK pJ bM aY jO gR gY mK jZ iY bG mJ jB mQ lY eJ bY sz p0 bW aG jG bQ dG jY m_length qG uW eY aJ aB bU dN aR aE bJ aW bT gJ dU bL bR bO mY pW m_x jA pY oY pR rG rQ post h
    have e1 : 6 * (n + 1) - 3 = 6 * n + 3 := by omega
    have e2 : 200 * (n + 1) - 136 = 200 * n + 64 := by omega
    have e3 : 6 * (n + 1) = 6 * n + 6 := by omega
    have e4 : 200 * (n + 1) - 65 = 200 * n + 135 := by omega
    rw [e1, e2, e3, e4]
    exact ⟨h1, h2⟩
noncomputable def wp_X10_heldR (post : Int32 → Int32 → Int32 → Prop) (p0 : Int32) (jY : Nat) (m_length qG uW eY dN aR aE bJ aW : Int32) (m_x jA pY oY pR rG rQ : Nat → Int32) : Prop := wp_X10_held (rr_X10 43).1 (rr_X10 43).2 post p0 jY m_length qG uW eY dN aR aE bJ aW m_x jA pY oY pR rG rQ
set_option maxHeartbeats 4000000 in
theorem c_X10_heldR (l : Launch) (dC : Nat → ClassId) (dI : Nat → Nat → Nat) (cI cC cZ cB cJ : ClassId) (a_m oJ uD dY iJ lJ jQ jR jW jK pJ bM aY jO gR gY mK jZ iY bG mJ jB mQ lY eJ bY sz : Nat) (p0 bW aG jG bQ dG : Int32) (jY : Nat) (m_length qG uW eY aJ aB bU dN aR aE bJ aW bT gJ dU bL bR bO mY pW : Int32) (m_x jA pY oY pR rG rQ : Nat → Int32) (post : Int32 → Int32 → Int32 → Prop) (hw : wp_X10_heldR post p0 jY m_length qG uW eY dN aR aE bJ aW m_x jA pY oY pR rG rQ) : Met l yX10_held (gw yX10_held cX10_held 3 (some .int)) rm_X10_heldR (va_Pc [.ref a_m, .int p0] (gPre (dC, dI) (tyl cI cC cZ cB cJ) (wd_X10_heldR cI cC cZ cB cJ a_m oJ uD dY iJ lJ jQ jR jW jK pJ bM aY jO gR gY mK jZ iY bG mJ jB mQ lY eJ bY bW aG jG bQ dG jY m_length qG uW eY aJ aB bU dN aR aE bJ aW bT gJ dU bL bR bO mY pW m_x jA pY oY pR rG rQ) sz)) (q_X10_heldR dC dI cI cC cZ cB cJ (va_A (wd_X10_heldR cI cC cZ cB cJ a_m oJ uD dY iJ lJ jQ jR jW jK pJ bM aY jO gR gY mK jZ iY bG mJ jB mQ lY eJ bY bW aG jG bQ dG jY m_length qG uW eY aJ aB bU dN aR aE bJ aW bT gJ dU bL bR bO mY pW m_x jA pY oY pR rG rQ) sz) a_m oJ uD dY iJ lJ jQ jR jW jK pJ bM aY jO gR gY mK jZ iY bG mJ jB mQ lY eJ bY bW aG jG bQ dG jY m_length qG aJ aB bU dN aR aE bJ aW bT gJ dU bL bR bO mY pW m_x jA pY oY pR rG rQ post) 0 0 (va_A (wd_X10_heldR cI cC cZ cB cJ a_m oJ uD dY iJ lJ jQ jR jW jK pJ bM aY jO gR gY mK jZ iY bG mJ jB mQ lY eJ bY bW aG jG bQ dG jY m_length qG uW eY aJ aB bU dN aR aE bJ aW bT gJ dU bL bR bO mY pW m_x jA pY oY pR rG rQ) sz) := c_X10_held l 43 _ _ (rr_X10_ok l 43).1 (rr_X10_ok l 43).2 dC dI cI cC cZ cB cJ a_m oJ uD dY iJ lJ jQ jR jW jK pJ bM aY jO gR gY mK jZ iY bG mJ jB mQ lY eJ bY sz p0 bW aG jG bQ dG jY m_length qG uW eY aJ aB bU dN aR aE bJ aW bT gJ dU bL bR bO mY pW m_x jA pY oY pR rG rQ post hw
noncomputable abbrev wd_X10_rule (cI cC cZ cB cJ : ClassId) (a_m oJ uD dY iJ lJ jQ jR jW jK pJ bM aY jO gR gY mK jZ iY bG mJ jB mQ lY eJ bY : Nat) (bW aG jG bQ dG : Int32) (jY : Nat) (m_length qG uW eY aJ aB bU dN aR aE bJ aW bT gJ dU bL bR bO mY pW : Int32) (m_x jA pY oY pR rG rQ : Nat → Int32) : va_W := [(a_m, .inr (10, [.ref oJ, .int bW, .ref uD, .ref dY, .ref iJ, .ref lJ, .int aG, .ref jQ, .ref jR, .ref jW, .ref jK, .int jG, .ref pJ, .int bQ, .int dG, rdv jK jO jY, .int m_length, .int qG, .int uW, .int eY, .ref bM, .ref aY, .int aJ, .int aB, .ref jO, .int bU, .int dN, .int aR, .int aE, .int bJ, .int aW, .ref gR, .int bT, .ref gY, .ref mK, .int gJ, .ref jZ, .int dU, .ref iY, .ref bG, .int bL, .int bR, .int bO, .ref mJ, .ref jB, .ref mQ, .int mY, .int pW, .ref lY, .ref eJ, .ref bY])), (uD, .inl (cI, 16, .inl m_x)), (dY, .inl (cI, 16, .inl jA)), (iJ, .inl (cI, 16, .inl pY)), (jQ, .inl (cI, 8, .inl oY)), (jR, .inl (cI, 8, .inl pR)), (jK, .inl (cB, 80, .inl rG)), (jO, .inl (cB, 40, .inl rQ))]
noncomputable abbrev q_X10_rule (dC : Nat → ClassId) (dI : Nat → Nat → Nat) (cI cC cZ cB cJ : ClassId) (A : Nat → Prop) (a_m oJ uD dY iJ lJ jQ jR jW jK pJ bM aY jO gR gY mK jZ iY bG mJ jB mQ lY eJ bY : Nat) (bW aG bQ aJ aB aR aE bJ aW bT gJ dU bL bR bO mY pW : Int32) (m_x jA pY oY pR rG : Nat → Int32) (post : Int32 → Int32 → Int32 → Nat → Int32 → Int32 → Int32 → Int32 → Int32 → Int32 → (Nat → Int32) → Prop) : Array Value → State → Outcome → State → Prop := va_Qi (fun (r : Int32) (u : Int32 × Int32 × Nat × Int32 × Int32 × Int32 × Int32 × Int32 × Int32 × (Nat → Int32)) => post r u.1 u.2.1 u.2.2.1 u.2.2.2.1 u.2.2.2.2.1 u.2.2.2.2.2.1 u.2.2.2.2.2.2.1 u.2.2.2.2.2.2.2.1 u.2.2.2.2.2.2.2.2.1 u.2.2.2.2.2.2.2.2.2) (fun u t => gB (dC, dI) (tyl cI cC cZ cB cJ) A (wd_X10_rule cI cC cZ cB cJ a_m oJ uD dY iJ lJ jQ jR jW jK pJ bM aY jO gR gY mK jZ iY bG mJ jB mQ lY eJ bY bW aG u.1 bQ u.2.1 u.2.2.1 u.2.2.2.1 u.2.2.2.2.1 u.2.2.2.2.2.1 u.2.2.2.2.2.2.1 aJ aB u.2.2.2.2.2.2.2.1 u.2.2.2.2.2.2.2.2.1 aR aE bJ aW bT gJ dU bL bR bO mY pW m_x jA pY oY pR rG u.2.2.2.2.2.2.2.2.2) t) A
noncomputable abbrev rm_X10_rule : Room := { frames := 265, cells := 0, slots := 0, locals := 8757 }
section S_X10_rule
variable {p : Program} {l : Launch} {e : Env} {s : State} {m : MethodId} {args : Array Value} {below : List Frame} {meth : Method} {c : Code} {dC : Nat → ClassId} {dI : Nat → Nat → Nat} {cI cC cZ cB cJ : ClassId} {A : Nat → Prop} {a_m oJ uD dY iJ lJ jQ jR jW jK pJ bM aY jO gR gY mK jZ iY bG mJ jB mQ lY eJ bY : Nat} {bW aG bQ aJ aB aR aE bJ aW bT gJ dU bL bR bO mY pW : Int32} {m_x jA pY oY pR rG : Nat → Int32} {post : Int32 → Int32 → Int32 → Nat → Int32 → Int32 → Int32 → Int32 → Int32 → Int32 → (Nat → Int32) → Prop}
noncomputable def ws_X10_rule_73 (post : Int32 → Int32 → Int32 → Nat → Int32 → Int32 → Int32 → Int32 → Int32 → Int32 → (Nat → Int32) → Prop) (next : Int32 → Int32 → Int32 → Int32 → Nat → Int32 → Int32 → Int32 → Int32 → Int32 → Int32 → (Nat → Int32) → Prop) (aR aE bJ aW : Int32) (m_x jA pY oY pR rG : Nat → Int32) (x1 x2 jG dG : Int32) (jY : Nat) (m_length qG uW eY bU dN : Int32) (rQ : Nat → Int32) : Prop := (x1 ≤ x2 → post 0 jG dG jY m_length qG uW eY x1 dN rQ) ∧ (¬ x1 ≤ x2 → vp_in x2 80 ∧ (∀ v_6 : Int32, v_6 = rG x2.toNatClampNeg → vp_in x2 40 ∧ (∀ v_7 : Int32, v_7 = x2 + 1 → next x1 v_7 jG dG jY m_length qG uW eY bU dN (upd rQ x2.toNatClampNeg (vp_nar .byte v_6)))))
noncomputable def wb_X10_rule_73 (post : Int32 → Int32 → Int32 → Nat → Int32 → Int32 → Int32 → Int32 → Int32 → Int32 → (Nat → Int32) → Prop) (aR aE bJ aW : Int32) (m_x jA pY oY pR rG : Nat → Int32) : Nat → Int32 → Int32 → Int32 → Int32 → Nat → Int32 → Int32 → Int32 → Int32 → Int32 → Int32 → (Nat → Int32) → Prop := fun n => Nat.rec (motive := fun _ => Int32 → Int32 → Int32 → Int32 → Nat → Int32 → Int32 → Int32 → Int32 → Int32 → Int32 → (Nat → Int32) → Prop) (fun _ _ _ _ _ _ _ _ _ _ _ _ => False) (fun _ ih => ws_X10_rule_73 post ih aR aE bJ aW m_x jA pY oY pR rG) n
set_option maxHeartbeats 4000000 in
set_option maxRecDepth 100000 in
theorem ks_X10_rule_73 (C0 : gc cX10_rule (some .int) 3 RX10 (dC, dI) (tyl cI cC cZ cB cJ) A p s m args meth c) {next : Int32 → Int32 → Int32 → Int32 → Nat → Int32 → Int32 → Int32 → Int32 → Int32 → Int32 → (Nat → Int32) → Prop} (hKn : ∀ (x1 : Int32) (x2 : Int32) (jG : Int32) (dG : Int32) (jY : Nat) (m_length : Int32) (qG : Int32) (uW : Int32) (eY : Int32) (bU : Int32) (dN : Int32) (rQ : Nat → Int32) (H : Heap) (locs : List Loc) (ls : Array Slot), next x1 x2 jG dG jY m_length qG uW eY bU dN rQ → va_P (dC, dI) classes (wd_X10_rule cI cC cZ cB cJ a_m oJ uD dY iJ lJ jQ jR jW jK pJ bM aY jO gR gY mK jZ iY bG mJ jB mQ lY eJ bY bW aG jG bQ dG jY m_length qG uW eY aJ aB bU dN aR aE bJ aW bT gJ dU bL bR bO mY pW m_x jA pY oY pR rG rQ) H → va_D A (wd_X10_rule cI cC cZ cB cJ a_m oJ uD dY iJ lJ jQ jR jW jK pJ bM aY jO gR gY mK jZ iY bG mJ jB mQ lY eJ bY bW aG jG bQ dG jY m_length qG uW eY aJ aB bU dN aR aE bJ aW bT gJ dU bL bR bO mY pW m_x jA pY oY pR rG rQ) → va_S A s.heap H locs → lv_has ls 3 [(0, .ref a_m), (1, .int x1), (2, .int x2)] → W p l e rm_X10_rule s m args below meth c H locs 0 0 (MQ below (q_X10_rule dC dI cI cC cZ cB cJ A a_m oJ uD dY iJ lJ jQ jR jW jK pJ bM aY jO gR gY mK jZ iY bG mJ jB mQ lY eJ bY bW aG bQ aJ aB aR aE bJ aW bT gJ dU bL bR bO mY pW m_x jA pY oY pR rG post) args s 0 0 A) (F0 m 73 ls [])) : ∀ (x1 x2 jG dG : Int32) (jY : Nat) (m_length qG uW eY bU dN : Int32) (rQ : Nat → Int32) (H : Heap) (locs : List Loc) (ls : Array Slot), (ws_X10_rule_73 post next aR aE bJ aW m_x jA pY oY pR rG) x1 x2 jG dG jY m_length qG uW eY bU dN rQ → va_P (dC, dI) classes (wd_X10_rule cI cC cZ cB cJ a_m oJ uD dY iJ lJ jQ jR jW jK pJ bM aY jO gR gY mK jZ iY bG mJ jB mQ lY eJ bY bW aG jG bQ dG jY m_length qG uW eY aJ aB bU dN aR aE bJ aW bT gJ dU bL bR bO mY pW m_x jA pY oY pR rG rQ) H → va_D A (wd_X10_rule cI cC cZ cB cJ a_m oJ uD dY iJ lJ jQ jR jW jK pJ bM aY jO gR gY mK jZ iY bG mJ jB mQ lY eJ bY bW aG jG bQ dG jY m_length qG uW eY aJ aB bU dN aR aE bJ aW bT gJ dU bL bR bO mY pW m_x jA pY oY pR rG rQ) → va_S A s.heap H locs → lv_has ls 3 [(0, .ref a_m), (1, .int x1), (2, .int x2)] → W p l e rm_X10_rule s m args below meth c H locs 0 0 (MQ below (q_X10_rule dC dI cI cC cZ cB cJ A a_m oJ uD dY iJ lJ jQ jR jW jK pJ bM aY jO gR gY mK jZ iY bG mJ jB mQ lY eJ bY bW aG bQ aJ aB aR aE bJ aW bT gJ dU bL bR bO mY pW m_x jA pY oY pR rG post) args s 0 0 A) (F0 m 73 ls []) := by
  obtain ⟨hx, hb, hr, hml, hown, hts, hlocks, hA, hK, hN, tL, tM, hZL, hTL, hZM, hTM, hZX⟩ := id C0
  intro x1 x2 jG dG jY m_length qG uW eY bU dN rQ H locs ls hp hP hD hS hl
  unfold ws_X10_rule_73 at hp
  refine lv_iload_n hx hb eX10_rule_57.2.2.2.2.2.2.2.2.2.2.1 rfl (lv_at hl 2 rfl) ?_
  refine lv_iload_n hx hb eX10_rule_57.2.2.2.2.2.2.2.2.2.2.2.1 rfl (lv_at hl 1 rfl) ?_
  refine lv_icmp_ge (tgt := 96) hx hb eX10_rule_57.2.2.2.2.2.2.2.2.2.2.2.2.1 (by decide) (fun hc => ?_) (fun hc => ?_)
  · have hp := hp.1 hc
    refine lv_aload_n hx hb eX10_rule_83.2.2.2.2.2.2.2.1 rfl (lv_at hl 0 rfl) ?_
    refine lv_iload_n hx hb eX10_rule_83.2.2.2.2.2.2.2.2.1 rfl (lv_at hl 1 rfl) ?_
    refine va_put (D := (dC, dI)) (ci := 10) (v := .int x1) (ty := .int) (C := RX10) (T := TX10) (N := 51) hx hb hts i_X10 tyX10 tyX10_ok nmX10 hown hK hP hD hS 0 rfl rfl 25 (Nat.le_of_ble_eq_true rfl) (hts _ q_732) (fun _ h9 => h9) rfl (tyX10_ok 25 (Nat.le_of_ble_eq_true rfl)) rfl rfl (Nat.le_of_ble_eq_true rfl) eX10_rule_83.2.2.2.2.2.2.2.2.2.1 (fun H locs hP hD hS => ?_)
    have hP : va_P (dC, dI) classes (wd_X10_rule cI cC cZ cB cJ a_m oJ uD dY iJ lJ jQ jR jW jK pJ bM aY jO gR gY mK jZ iY bG mJ jB mQ lY eJ bY bW aG jG bQ dG jY m_length qG uW eY aJ aB x1 dN aR aE bJ aW bT gJ dU bL bR bO mY pW m_x jA pY oY pR rG rQ) H := hP
    have hD : va_D A (wd_X10_rule cI cC cZ cB cJ a_m oJ uD dY iJ lJ jQ jR jW jK pJ bM aY jO gR gY mK jZ iY bG mJ jB mQ lY eJ bY bW aG jG bQ dG jY m_length qG uW eY aJ aB x1 dN aR aE bJ aW bT gJ dU bL bR bO mY pW m_x jA pY oY pR rG rQ) := hD
    refine lv_iconst (v := 0) hx hb eX10_rule_83.2.2.2.2.2.2.2.2.2.2.1 ic_0 ?_
    exact W.iret (v := 0) hx hb hr (fun t ht hW => ⟨⟨0, (jG, dG, jY, m_length, qG, uW, eY, x1, dN, rQ), rfl, hp, by rw [ht]; exact hP, va_K.moved hW.alike hK, hD⟩, hS.F ht⟩) hS.2.2 eX10_rule_83.2.2.2.2.2.2.2.2.2.2.2
  · have hp := hp.2 hc
    refine lv_aload_n hx hb eX10_rule_57.2.2.2.2.2.2.2.2.2.2.2.2.2.1 rfl (lv_at hl 0 rfl) ?_
    refine va_get (D := (dC, dI)) (ci := 10) (v := .ref jO) (C := RX10) (T := TX10) (N := 51) hx hb hts i_X10 hown hK hP 0 rfl rfl 24 (Nat.le_of_ble_eq_true rfl) (hts _ q_733) (fun _ h9 => h9) rfl eX10_rule_57.2.2.2.2.2.2.2.2.2.2.2.2.2.2.1 ?_
    refine lv_iload_n hx hb eX10_rule_57.2.2.2.2.2.2.2.2.2.2.2.2.2.2.2 rfl (lv_at hl 2 rfl) ?_
    refine lv_aload_n hx hb eX10_rule_83.1 rfl (lv_at hl 0 rfl) ?_
    refine va_get (D := (dC, dI)) (ci := 10) (v := .ref jK) (C := RX10) (T := TX10) (N := 51) hx hb hts i_X10 hown hK hP 0 rfl rfl 10 (Nat.le_of_ble_eq_true rfl) (hts _ q_640) (fun _ h9 => h9) rfl eX10_rule_83.2.1 ?_
    refine lv_iload_n hx hb eX10_rule_83.2.2.1 rfl (lv_at hl 2 rfl) ?_
    have hin := hp.1
    have hp := hp.2
    refine va_bald hx hb hK hP 6 3 rfl rfl hin eX10_rule_83.2.2.2.1 ?_
    refine lv_topi (fun v_6 ev_6 => ?_)
    have hp := hp v_6 ev_6
    have hin := hp.1
    have hp := hp.2
    refine va_bast hx hb hK hP hD hS 7 3 rfl rfl hin eX10_rule_83.2.2.2.2.1 (fun H locs hP hD hS => ?_)
    have hP : va_P (dC, dI) classes (wd_X10_rule cI cC cZ cB cJ a_m oJ uD dY iJ lJ jQ jR jW jK pJ bM aY jO gR gY mK jZ iY bG mJ jB mQ lY eJ bY bW aG jG bQ dG jY m_length qG uW eY aJ aB bU dN aR aE bJ aW bT gJ dU bL bR bO mY pW m_x jA pY oY pR rG (upd rQ x2.toNatClampNeg (vp_nar .byte v_6))) H := hP
    have hD : va_D A (wd_X10_rule cI cC cZ cB cJ a_m oJ uD dY iJ lJ jQ jR jW jK pJ bM aY jO gR gY mK jZ iY bG mJ jB mQ lY eJ bY bW aG jG bQ dG jY m_length qG uW eY aJ aB bU dN aR aE bJ aW bT gJ dU bL bR bO mY pW m_x jA pY oY pR rG (upd rQ x2.toNatClampNeg (vp_nar .byte v_6))) := hD
    obtain ⟨v_7, ev_7⟩ : ∃ y : Int32, y = x2 + 1 := ⟨_, rfl⟩
    refine lv_iinc (v := v_7) (lv' := [(2, .int v_7), (0, .ref a_m), (1, .int x1)]) hx hb eX10_rule_83.2.2.2.2.2.1 hl (k := 2) rfl (by rw [ev_7]; rfl) (by decide) rfl (fun ls hl => ?_)
    have hp := hp v_7 ev_7
    refine lv_goto (tgt := 73) hx hb eX10_rule_83.2.2.2.2.2.2.1 (by decide) ?_
    exact hKn x1 v_7 jG dG jY m_length qG uW eY bU dN (upd rQ x2.toNatClampNeg (vp_nar .byte v_6)) H locs ls hp hP hD hS (lv_sub hl [1, 2, 0] rfl)
set_option maxHeartbeats 4000000 in
set_option maxRecDepth 100000 in
theorem kb_X10_rule_73 (C0 : gc cX10_rule (some .int) 3 RX10 (dC, dI) (tyl cI cC cZ cB cJ) A p s m args meth c) : ∀ (n : Nat), ∀ (x1 x2 jG dG : Int32) (jY : Nat) (m_length qG uW eY bU dN : Int32) (rQ : Nat → Int32) (H : Heap) (locs : List Loc) (ls : Array Slot), (wb_X10_rule_73 post aR aE bJ aW m_x jA pY oY pR rG n) x1 x2 jG dG jY m_length qG uW eY bU dN rQ → va_P (dC, dI) classes (wd_X10_rule cI cC cZ cB cJ a_m oJ uD dY iJ lJ jQ jR jW jK pJ bM aY jO gR gY mK jZ iY bG mJ jB mQ lY eJ bY bW aG jG bQ dG jY m_length qG uW eY aJ aB bU dN aR aE bJ aW bT gJ dU bL bR bO mY pW m_x jA pY oY pR rG rQ) H → va_D A (wd_X10_rule cI cC cZ cB cJ a_m oJ uD dY iJ lJ jQ jR jW jK pJ bM aY jO gR gY mK jZ iY bG mJ jB mQ lY eJ bY bW aG jG bQ dG jY m_length qG uW eY aJ aB bU dN aR aE bJ aW bT gJ dU bL bR bO mY pW m_x jA pY oY pR rG rQ) → va_S A s.heap H locs → lv_has ls 3 [(0, .ref a_m), (1, .int x1), (2, .int x2)] → W p l e rm_X10_rule s m args below meth c H locs 0 0 (MQ below (q_X10_rule dC dI cI cC cZ cB cJ A a_m oJ uD dY iJ lJ jQ jR jW jK pJ bM aY jO gR gY mK jZ iY bG mJ jB mQ lY eJ bY bW aG bQ aJ aB aR aE bJ aW bT gJ dU bL bR bO mY pW m_x jA pY oY pR rG post) args s 0 0 A) (F0 m 73 ls []) := by
  intro n
  induction n with
  | zero =>
    intro x1 x2 jG dG jY m_length qG uW eY bU dN rQ H locs ls hp
    exact False.elim hp
  | succ n ih =>
    intro x1 x2 jG dG jY m_length qG uW eY bU dN rQ H locs ls hp
    exact ks_X10_rule_73 C0 ih x1 x2 jG dG jY m_length qG uW eY bU dN rQ H locs ls hp
noncomputable def ws_X10_rule_71 (post : Int32 → Int32 → Int32 → Nat → Int32 → Int32 → Int32 → Int32 → Int32 → Int32 → (Nat → Int32) → Prop) (aR aE bJ aW : Int32) (m_x jA pY oY pR rG : Nat → Int32) (x1 jG dG : Int32) (jY : Nat) (m_length qG uW eY bU dN : Int32) (rQ : Nat → Int32) : Prop := ∃ n : Nat, wb_X10_rule_73 post aR aE bJ aW m_x jA pY oY pR rG n x1 0 jG dG jY m_length qG uW eY bU dN rQ
set_option maxHeartbeats 4000000 in
set_option maxRecDepth 100000 in
theorem ks_X10_rule_71 (C0 : gc cX10_rule (some .int) 3 RX10 (dC, dI) (tyl cI cC cZ cB cJ) A p s m args meth c) : ∀ (x1 jG dG : Int32) (jY : Nat) (m_length qG uW eY bU dN : Int32) (rQ : Nat → Int32) (H : Heap) (locs : List Loc) (ls : Array Slot), (ws_X10_rule_71 post aR aE bJ aW m_x jA pY oY pR rG) x1 jG dG jY m_length qG uW eY bU dN rQ → va_P (dC, dI) classes (wd_X10_rule cI cC cZ cB cJ a_m oJ uD dY iJ lJ jQ jR jW jK pJ bM aY jO gR gY mK jZ iY bG mJ jB mQ lY eJ bY bW aG jG bQ dG jY m_length qG uW eY aJ aB bU dN aR aE bJ aW bT gJ dU bL bR bO mY pW m_x jA pY oY pR rG rQ) H → va_D A (wd_X10_rule cI cC cZ cB cJ a_m oJ uD dY iJ lJ jQ jR jW jK pJ bM aY jO gR gY mK jZ iY bG mJ jB mQ lY eJ bY bW aG jG bQ dG jY m_length qG uW eY aJ aB bU dN aR aE bJ aW bT gJ dU bL bR bO mY pW m_x jA pY oY pR rG rQ) → va_S A s.heap H locs → lv_has ls 3 [(0, .ref a_m), (1, .int x1)] → W p l e rm_X10_rule s m args below meth c H locs 0 0 (MQ below (q_X10_rule dC dI cI cC cZ cB cJ A a_m oJ uD dY iJ lJ jQ jR jW jK pJ bM aY jO gR gY mK jZ iY bG mJ jB mQ lY eJ bY bW aG bQ aJ aB aR aE bJ aW bT gJ dU bL bR bO mY pW m_x jA pY oY pR rG post) args s 0 0 A) (F0 m 71 ls []) := by
  obtain ⟨hx, hb, hr, hml, hown, hts, hlocks, hA, hK, hN, tL, tM, hZL, hTL, hZM, hTM, hZX⟩ := id C0
  intro x1 jG dG jY m_length qG uW eY bU dN rQ H locs ls hp hP hD hS hl
  unfold ws_X10_rule_71 at hp
  refine lv_iconst (v := 0) hx hb eX10_rule_57.2.2.2.2.2.2.2.2.1 ic_0 ?_
  refine lv_istore_n (lv' := [(2, .int 0), (0, .ref a_m), (1, .int x1)]) hx hb eX10_rule_57.2.2.2.2.2.2.2.2.2.1 rfl hl (by decide) rfl (fun ls hl => ?_)
  obtain ⟨n9, hp⟩ := hp
  exact kb_X10_rule_73 C0 n9 x1 0 jG dG jY m_length qG uW eY bU dN rQ H locs ls hp hP hD hS (lv_sub hl [1, 2, 0] rfl)
noncomputable def ws_X10_rule_57 (post : Int32 → Int32 → Int32 → Nat → Int32 → Int32 → Int32 → Int32 → Int32 → Int32 → (Nat → Int32) → Prop) (aR aE bJ aW : Int32) (m_x jA pY oY pR rG : Nat → Int32) (x1 jG dG : Int32) (jY : Nat) (m_length qG uW eY bU dN : Int32) (rQ : Nat → Int32) : Prop := wp_X10_fine (fun r_11 => (¬ r_11 = 0 → ws_X10_rule_71 post aR aE bJ aW m_x jA pY oY pR rG x1 jG dG jY m_length qG uW eY bU dN rQ) ∧ (r_11 = 0 → post ((-1) - eY) jG dG jY m_length qG uW eY bU dN rQ)) eY
set_option maxHeartbeats 4000000 in
set_option maxRecDepth 100000 in
theorem ks_X10_rule_57 (C0 : gc cX10_rule (some .int) 3 RX10 (dC, dI) (tyl cI cC cZ cB cJ) A p s m args meth c) : ∀ (x1 jG dG : Int32) (jY : Nat) (m_length qG uW eY bU dN : Int32) (rQ : Nat → Int32) (H : Heap) (locs : List Loc) (ls : Array Slot), (ws_X10_rule_57 post aR aE bJ aW m_x jA pY oY pR rG) x1 jG dG jY m_length qG uW eY bU dN rQ → va_P (dC, dI) classes (wd_X10_rule cI cC cZ cB cJ a_m oJ uD dY iJ lJ jQ jR jW jK pJ bM aY jO gR gY mK jZ iY bG mJ jB mQ lY eJ bY bW aG jG bQ dG jY m_length qG uW eY aJ aB bU dN aR aE bJ aW bT gJ dU bL bR bO mY pW m_x jA pY oY pR rG rQ) H → va_D A (wd_X10_rule cI cC cZ cB cJ a_m oJ uD dY iJ lJ jQ jR jW jK pJ bM aY jO gR gY mK jZ iY bG mJ jB mQ lY eJ bY bW aG jG bQ dG jY m_length qG uW eY aJ aB bU dN aR aE bJ aW bT gJ dU bL bR bO mY pW m_x jA pY oY pR rG rQ) → va_S A s.heap H locs → lv_has ls 3 [(0, .ref a_m), (1, .int x1)] → W p l e rm_X10_rule s m args below meth c H locs 0 0 (MQ below (q_X10_rule dC dI cI cC cZ cB cJ A a_m oJ uD dY iJ lJ jQ jR jW jK pJ bM aY jO gR gY mK jZ iY bG mJ jB mQ lY eJ bY bW aG bQ aJ aB aR aE bJ aW bT gJ dU bL bR bO mY pW m_x jA pY oY pR rG post) args s 0 0 A) (F0 m 57 ls []) := by
  obtain ⟨hx, hb, hr, hml, hown, hts, hlocks, hA, hK, hN, tL, tM, hZL, hTL, hZM, hTM, hZX⟩ := id C0
  intro x1 jG dG jY m_length qG uW eY bU dN rQ H locs ls hp hP hD hS hl
  unfold ws_X10_rule_57 at hp
  refine lv_aload_n hx hb eX10_rule_57.1 rfl (lv_at hl 0 rfl) ?_
  have hm := mgk (wc := (wd_X10_fine cI cC cZ cB cJ a_m oJ uD dY iJ lJ jQ jR jW jK pJ bM aY jO gR gY mK jZ iY bG mJ jB mQ lY eJ bY bW aG jG bQ dG jY m_length qG uW eY aJ aB bU dN aR aE bJ aW bT gJ dU bL bR bO mY pW)) hP aBV 8 rfl rfl rfl
  refine g_calli hP hD hS hA (mixT aBV) (mixF aBV) hm.1 hm.2 (nd_F _) (dis_g _) (g_runV (As := []) (rest := []) C0 hP hD hS (mixT aBV) hm.1 (nd_T _) 0 10 rfl rfl (c_X10_fine l dC dI cI cC cZ cB cJ a_m oJ uD dY iJ lJ jQ jR jW jK pJ bM aY jO gR gY mK jZ iY bG mJ jB mQ lY eJ bY H.size bW aG jG bQ dG jY m_length qG uW eY aJ aB bU dN aR aE bJ aW bT gJ dU bL bR bO mY pW _ hp) q_650 q_653 q_651 q_652 q_642 h_X10_fine rfl rfl ⟨Nat.le_of_ble_eq_true rfl, Nat.le_of_ble_eq_true rfl⟩ rfl rfl hl.1 rfl (lv_room (Nat.le_of_ble_eq_true rfl)) eX10_rule_57.2.1 ⟨Nat.zero_le _, Nat.zero_le _⟩) (fun r_11 u H locs hp hP hD hS => ?_)
  have hPD := PDm (ws' := (wd_X10_rule cI cC cZ cB cJ a_m oJ uD dY iJ lJ jQ jR jW jK pJ bM aY jO gR gY mK jZ iY bG mJ jB mQ lY eJ bY bW aG jG bQ dG jY m_length qG uW eY aJ aB bU dN aR aE bJ aW bT gJ dU bL bR bO mY pW m_x jA pY oY pR rG rQ)) hP hD 8 rfl rfl rfl
  have hP := hPD.1
  have hD := hPD.2
  refine lv_if_ne (tgt := 71) hx hb eX10_rule_57.2.2.1 (by decide) (fun hc => ?_) (fun hc => ?_)
  · have hp := hp.1 hc
    exact ks_X10_rule_71 C0 x1 jG dG jY m_length qG uW eY bU dN rQ H locs ls hp hP hD hS (lv_sub hl [0, 1] rfl)
  · have hp := hp.2 hc
    refine lv_iconst (v := (-1)) hx hb eX10_rule_57.2.2.2.1 ic_m1 ?_
    refine lv_aload_n hx hb eX10_rule_57.2.2.2.2.1 rfl (lv_at hl 0 rfl) ?_
    refine va_get (D := (dC, dI)) (ci := 10) (v := .int eY) (C := RX10) (T := TX10) (N := 51) hx hb hts i_X10 hown hK hP 0 rfl rfl 19 (Nat.le_of_ble_eq_true rfl) (hts _ q_649) (fun _ h9 => h9) rfl eX10_rule_57.2.2.2.2.2.1 ?_
    refine lv_isub hx hb eX10_rule_57.2.2.2.2.2.2.1 ?_
    exact W.iret (v := (-1) - eY) hx hb hr (fun t ht hW => ⟨⟨(-1) - eY, (jG, dG, jY, m_length, qG, uW, eY, bU, dN, rQ), rfl, hp, by rw [ht]; exact hP, va_K.moved hW.alike hK, hD⟩, hS.F ht⟩) hS.2.2 eX10_rule_57.2.2.2.2.2.2.2.1
end S_X10_rule
noncomputable def wp_X10_rule (post : Int32 → Int32 → Int32 → Nat → Int32 → Int32 → Int32 → Int32 → Int32 → Int32 → (Nat → Int32) → Prop) (jG dG : Int32) (jY : Nat) (m_length qG uW eY bU dN aR aE bJ aW : Int32) (m_x jA pY oY pR rG rQ : Nat → Int32) : Prop := wp_X10_begin (fun zL yG aAj aAU yX => (jG ≤ 0 → ws_X10_rule_71 post aR aE bJ aW m_x jA pY oY pR rG jG 0 0 zL yG aAj aAU yX bU 0 rQ) ∧ (¬ jG ≤ 0 → wp_X10_heldR (fun r_8 aAb yJ => (jG ≤ aAb → ws_X10_rule_57 post aR aE bJ aW m_x jA pY oY pR rG jG 0 0 zL yG aAj aAb yJ bU 0 rQ) ∧ (¬ jG ≤ aAb → wp_X10_fault (fun aAQ => ws_X10_rule_57 post aR aE bJ aW m_x jA pY oY pR rG jG 0 0 zL yG aAj aAb aAQ bU 0 rQ) aAb yJ)) 0 zL yG aAj aAU yX 0 aR aE bJ aW m_x jA pY oY pR rG rQ)) jG 40 jY m_length qG uW eY
set_option maxHeartbeats 4000000 in
set_option maxRecDepth 100000 in
theorem c_X10_rule (l : Launch) (dC : Nat → ClassId) (dI : Nat → Nat → Nat) (cI cC cZ cB cJ : ClassId) (a_m oJ uD dY iJ lJ jQ jR jW jK pJ bM aY jO gR gY mK jZ iY bG mJ jB mQ lY eJ bY sz : Nat) (bW aG jG bQ dG : Int32) (jY : Nat) (m_length qG uW eY aJ aB bU dN aR aE bJ aW bT gJ dU bL bR bO mY pW : Int32) (m_x jA pY oY pR rG rQ : Nat → Int32) (post : Int32 → Int32 → Int32 → Nat → Int32 → Int32 → Int32 → Int32 → Int32 → Int32 → (Nat → Int32) → Prop) (hw : wp_X10_rule post jG dG jY m_length qG uW eY bU dN aR aE bJ aW m_x jA pY oY pR rG rQ) : Met l yX10_rule (gw yX10_rule cX10_rule 3 (some .int)) rm_X10_rule (va_Pc [.ref a_m] (gPre (dC, dI) (tyl cI cC cZ cB cJ) (wd_X10_rule cI cC cZ cB cJ a_m oJ uD dY iJ lJ jQ jR jW jK pJ bM aY jO gR gY mK jZ iY bG mJ jB mQ lY eJ bY bW aG jG bQ dG jY m_length qG uW eY aJ aB bU dN aR aE bJ aW bT gJ dU bL bR bO mY pW m_x jA pY oY pR rG rQ) sz)) (q_X10_rule dC dI cI cC cZ cB cJ (va_A (wd_X10_rule cI cC cZ cB cJ a_m oJ uD dY iJ lJ jQ jR jW jK pJ bM aY jO gR gY mK jZ iY bG mJ jB mQ lY eJ bY bW aG jG bQ dG jY m_length qG uW eY aJ aB bU dN aR aE bJ aW bT gJ dU bL bR bO mY pW m_x jA pY oY pR rG rQ) sz) a_m oJ uD dY iJ lJ jQ jR jW jK pJ bM aY jO gR gY mK jZ iY bG mJ jB mQ lY eJ bY bW aG bQ aJ aB aR aE bJ aW bT gJ dU bL bR bO mY pW m_x jA pY oY pR rG post) 0 0 (va_A (wd_X10_rule cI cC cZ cB cJ a_m oJ uD dY iJ lJ jQ jR jW jK pJ bM aY jO gR gY mK jZ iY bG mJ jB mQ lY eJ bY bW aG jG bQ dG jY m_length qG uW eY aJ aB bU dN aR aE bJ aW bT gJ dU bL bR bO mY pW m_x jA pY oY pR rG rQ) sz) := by
  refine g_enter (own := RX10) (dC, dI) (tyl cI cC cZ cB cJ) (wd_X10_rule cI cC cZ cB cJ a_m oJ uD dY iJ lJ jQ jR jW jK pJ bM aY jO gR gY mK jZ iY bG mJ jB mQ lY eJ bY bW aG jG bQ dG jY m_length qG uW eY aJ aB bU dN aR aE bJ aW bT gJ dU bL bR bO mY pW m_x jA pY oY pR rG rQ) sz [.ref a_m] (fun A => q_X10_rule dC dI cI cC cZ cB cJ A a_m oJ uD dY iJ lJ jQ jR jW jK pJ bM aY jO gR gY mK jZ iY bG mJ jB mQ lY eJ bY bW aG bQ aJ aB aR aE bJ aW bT gJ dU bL bR bO mY pW m_x jA pY oY pR rG post) pn_RX10 rfl (Nat.le_of_ble_eq_true rfl) ?_
  intro p e s m args below meth c A H locs ls C0 hP hD hS hl
  have hl : lv_has ls 3 [(0, .ref a_m)] := hl
  obtain ⟨hx, hb, hr, hml, hown, hts, hlocks, hA, hK, hN, tL, tM, hZL, hTL, hZM, hTM, hZX⟩ := id C0
  have hp := hw
  unfold wp_X10_rule at hp
  refine lv_aload_n hx hb eX10_rule_0.1 rfl (lv_at hl 0 rfl) ?_
  refine lv_iconst (v := 0) hx hb eX10_rule_0.2.1 ic_0 ?_
  refine va_put (D := (dC, dI)) (ci := 10) (v := .int 0) (ty := .int) (C := RX10) (T := TX10) (N := 51) hx hb hts i_X10 tyX10 tyX10_ok nmX10 hown hK hP hD hS 0 rfl rfl 14 (Nat.le_of_ble_eq_true rfl) (hts _ q_638) (fun _ h9 => h9) rfl (tyX10_ok 14 (Nat.le_of_ble_eq_true rfl)) rfl rfl (Nat.le_of_ble_eq_true rfl) eX10_rule_0.2.2.1 (fun H locs hP hD hS => ?_)
  have hP : va_P (dC, dI) classes (wd_X10_rule cI cC cZ cB cJ a_m oJ uD dY iJ lJ jQ jR jW jK pJ bM aY jO gR gY mK jZ iY bG mJ jB mQ lY eJ bY bW aG jG bQ 0 jY m_length qG uW eY aJ aB bU dN aR aE bJ aW bT gJ dU bL bR bO mY pW m_x jA pY oY pR rG rQ) H := hP
  have hD : va_D A (wd_X10_rule cI cC cZ cB cJ a_m oJ uD dY iJ lJ jQ jR jW jK pJ bM aY jO gR gY mK jZ iY bG mJ jB mQ lY eJ bY bW aG jG bQ 0 jY m_length qG uW eY aJ aB bU dN aR aE bJ aW bT gJ dU bL bR bO mY pW m_x jA pY oY pR rG rQ) := hD
  refine lv_aload_n hx hb eX10_rule_0.2.2.2.1 rfl (lv_at hl 0 rfl) ?_
  refine va_get (D := (dC, dI)) (ci := 10) (v := .int jG) (C := RX10) (T := TX10) (N := 51) hx hb hts i_X10 hown hK hP 0 rfl rfl 11 (Nat.le_of_ble_eq_true rfl) (hts _ q_639) (fun _ h9 => h9) rfl eX10_rule_0.2.2.2.2.1 ?_
  refine lv_istore_n (lv' := [(1, .int jG), (0, .ref a_m)]) hx hb eX10_rule_0.2.2.2.2.2.1 rfl hl (by decide) rfl (fun ls hl => ?_)
  refine lv_aload_n hx hb eX10_rule_0.2.2.2.2.2.2.1 rfl (lv_at hl 1 rfl) ?_
  refine lv_aload_n hx hb eX10_rule_0.2.2.2.2.2.2.2.1 rfl (lv_at hl 1 rfl) ?_
  refine va_get (D := (dC, dI)) (ci := 10) (v := .ref jK) (C := RX10) (T := TX10) (N := 51) hx hb hts i_X10 hown hK hP 0 rfl rfl 10 (Nat.le_of_ble_eq_true rfl) (hts _ q_640) (fun _ h9 => h9) rfl eX10_rule_0.2.2.2.2.2.2.2.2.1 ?_
  refine lv_iload_n hx hb eX10_rule_0.2.2.2.2.2.2.2.2.2.1 rfl (lv_at hl 0 rfl) ?_
  refine lv_bipush (v := 40) hx hb eX10_rule_0.2.2.2.2.2.2.2.2.2.2.1 bp_40 ?_
  have hm := mgk (wc := (wd_X10_begin cI cC cZ cB cJ a_m oJ uD dY iJ lJ jQ jR jW jK pJ bM aY jO gR gY mK jZ iY bG mJ jB mQ lY eJ bY bW aG jG bQ 0 jY m_length qG uW eY aJ aB bU dN aR aE bJ aW bT gJ dU bL bR bO mY pW)) hP aBV 8 rfl rfl rfl
  refine g_callv hP hD hS hA (mixT aBV) (mixF aBV) hm.1 hm.2 (nd_F _) (dis_g _) (g_runV (As := [.ref jK, .int jG, .int 40]) (rest := []) C0 hP hD hS (mixT aBV) hm.1 (nd_T _) 0 10 rfl rfl (c_X10_begin l dC dI cI cC cZ cB cJ a_m oJ uD dY iJ lJ jQ jR jW jK pJ bM aY jO gR gY mK jZ iY bG mJ jB mQ lY eJ bY H.size jG 40 bW aG jG bQ 0 jY m_length qG uW eY aJ aB bU dN aR aE bJ aW bT gJ dU bL bR bO mY pW _ hp) q_680 q_683 q_681 q_682 q_642 h_X10_begin rfl rfl ⟨Nat.le_of_ble_eq_true rfl, Nat.le_of_ble_eq_true rfl⟩ rfl rfl hl.1 rfl (lv_room (Nat.le_of_ble_eq_true rfl)) eX10_rule_0.2.2.2.2.2.2.2.2.2.2.2.1 ⟨Nat.zero_le _, Nat.zero_le _⟩) (fun u H locs hp hP hD hS => ?_)
  obtain ⟨zL, yG, aAj, aAU, yX⟩ := u
  have hPD := PDm (ws' := (wd_X10_rule cI cC cZ cB cJ a_m oJ uD dY iJ lJ jQ jR jW jK pJ bM aY jO gR gY mK jZ iY bG mJ jB mQ lY eJ bY bW aG jG bQ 0 zL yG aAj aAU yX aJ aB bU dN aR aE bJ aW bT gJ dU bL bR bO mY pW m_x jA pY oY pR rG rQ)) hP hD 8 rfl rfl rfl
  have hP := hPD.1
  have hD := hPD.2
  refine lv_aload_n hx hb eX10_rule_0.2.2.2.2.2.2.2.2.2.2.2.2.1 rfl (lv_at hl 1 rfl) ?_
  refine lv_iconst (v := 0) hx hb eX10_rule_0.2.2.2.2.2.2.2.2.2.2.2.2.2.1 ic_0 ?_
  refine va_put (D := (dC, dI)) (ci := 10) (v := .int 0) (ty := .int) (C := RX10) (T := TX10) (N := 51) hx hb hts i_X10 tyX10 tyX10_ok nmX10 hown hK hP hD hS 0 rfl rfl 11 (Nat.le_of_ble_eq_true rfl) (hts _ q_639) (fun _ h9 => h9) rfl (tyX10_ok 11 (Nat.le_of_ble_eq_true rfl)) rfl rfl (Nat.le_of_ble_eq_true rfl) eX10_rule_0.2.2.2.2.2.2.2.2.2.2.2.2.2.2.1 (fun H locs hP hD hS => ?_)
  have hP : va_P (dC, dI) classes (wd_X10_rule cI cC cZ cB cJ a_m oJ uD dY iJ lJ jQ jR jW jK pJ bM aY jO gR gY mK jZ iY bG mJ jB mQ lY eJ bY bW aG 0 bQ 0 zL yG aAj aAU yX aJ aB bU dN aR aE bJ aW bT gJ dU bL bR bO mY pW m_x jA pY oY pR rG rQ) H := hP
  have hD : va_D A (wd_X10_rule cI cC cZ cB cJ a_m oJ uD dY iJ lJ jQ jR jW jK pJ bM aY jO gR gY mK jZ iY bG mJ jB mQ lY eJ bY bW aG 0 bQ 0 zL yG aAj aAU yX aJ aB bU dN aR aE bJ aW bT gJ dU bL bR bO mY pW m_x jA pY oY pR rG rQ) := hD
  refine lv_aload_n hx hb eX10_rule_0.2.2.2.2.2.2.2.2.2.2.2.2.2.2.2 rfl (lv_at hl 1 rfl) ?_
  refine lv_iconst (v := 0) hx hb eX10_rule_27.1 ic_0 ?_
  refine va_put (D := (dC, dI)) (ci := 10) (v := .int 0) (ty := .boolean) (C := RX10) (T := TX10) (N := 51) hx hb hts i_X10 tyX10 tyX10_ok nmX10 hown hK hP hD hS 0 rfl rfl 26 (Nat.le_of_ble_eq_true rfl) (hts _ q_711) (fun _ h9 => h9) rfl (tyX10_ok 26 (Nat.le_of_ble_eq_true rfl)) rfl rfl (Nat.le_of_ble_eq_true rfl) eX10_rule_27.2.1 (fun H locs hP hD hS => ?_)
  have hP : va_P (dC, dI) classes (wd_X10_rule cI cC cZ cB cJ a_m oJ uD dY iJ lJ jQ jR jW jK pJ bM aY jO gR gY mK jZ iY bG mJ jB mQ lY eJ bY bW aG 0 bQ 0 zL yG aAj aAU yX aJ aB bU 0 aR aE bJ aW bT gJ dU bL bR bO mY pW m_x jA pY oY pR rG rQ) H := hP
  have hD : va_D A (wd_X10_rule cI cC cZ cB cJ a_m oJ uD dY iJ lJ jQ jR jW jK pJ bM aY jO gR gY mK jZ iY bG mJ jB mQ lY eJ bY bW aG 0 bQ 0 zL yG aAj aAU yX aJ aB bU 0 aR aE bJ aW bT gJ dU bL bR bO mY pW m_x jA pY oY pR rG rQ) := hD
  refine lv_iload_n hx hb eX10_rule_27.2.2.1 rfl (lv_at hl 0 rfl) ?_
  refine lv_if_le (tgt := 71) hx hb eX10_rule_27.2.2.2.1 (by decide) (fun hc => ?_) (fun hc => ?_)
  · have hp := hp.1 hc
    exact ks_X10_rule_71 C0 jG 0 0 zL yG aAj aAU yX bU 0 rQ H locs ls hp hP hD hS (lv_sub hl [1, 0] rfl)
  · have hp := hp.2 hc
    refine lv_aload_n hx hb eX10_rule_27.2.2.2.2.1 rfl (lv_at hl 1 rfl) ?_
    refine lv_iconst (v := 0) hx hb eX10_rule_27.2.2.2.2.2.1 ic_0 ?_
    have hm := mgk (wc := (wd_X10_heldR cI cC cZ cB cJ a_m oJ uD dY iJ lJ jQ jR jW jK pJ bM aY jO gR gY mK jZ iY bG mJ jB mQ lY eJ bY bW aG 0 bQ 0 zL yG aAj aAU yX aJ aB bU 0 aR aE bJ aW bT gJ dU bL bR bO mY pW m_x jA pY oY pR rG rQ)) hP aAY 8 rfl rfl rfl
    refine g_calli hP hD hS hA (mixT aAY) (mixF aAY) hm.1 hm.2 (nd_F _) (dis_g _) (g_runV (As := [.int 0]) (rest := []) C0 hP hD hS (mixT aAY) hm.1 (nd_T _) 0 10 rfl rfl (c_X10_heldR l dC dI cI cC cZ cB cJ a_m oJ uD dY iJ lJ jQ jR jW jK pJ bM aY jO gR gY mK jZ iY bG mJ jB mQ lY eJ bY H.size 0 bW aG 0 bQ 0 zL yG aAj aAU yX aJ aB bU 0 aR aE bJ aW bT gJ dU bL bR bO mY pW m_x jA pY oY pR rG rQ _ hp) q_716 q_719 q_717 q_718 q_642 h_X10_held rfl rfl ⟨Nat.le_of_ble_eq_true rfl, Nat.le_of_ble_eq_true rfl⟩ rfl rfl hl.1 rfl (lv_room (Nat.le_of_ble_eq_true rfl)) eX10_rule_27.2.2.2.2.2.2.1 ⟨Nat.zero_le _, Nat.zero_le _⟩) (fun r_8 u H locs hp hP hD hS => ?_)
    obtain ⟨aAb, yJ⟩ := u
    have hPD := PDm (ws' := (wd_X10_rule cI cC cZ cB cJ a_m oJ uD dY iJ lJ jQ jR jW jK pJ bM aY jO gR gY mK jZ iY bG mJ jB mQ lY eJ bY bW aG 0 bQ 0 zL yG aAj aAb yJ aJ aB bU 0 aR aE bJ aW bT gJ dU bL bR bO mY pW m_x jA pY oY pR rG rQ)) hP hD 8 rfl rfl rfl
    have hP := hPD.1
    have hD := hPD.2
    refine lv_pop hx hb eX10_rule_27.2.2.2.2.2.2.2.1 rfl ?_
    refine lv_aload_n hx hb eX10_rule_27.2.2.2.2.2.2.2.2.1 rfl (lv_at hl 1 rfl) ?_
    refine va_get (D := (dC, dI)) (ci := 10) (v := .int aAb) (C := RX10) (T := TX10) (N := 51) hx hb hts i_X10 hown hK hP 0 rfl rfl 18 (Nat.le_of_ble_eq_true rfl) (hts _ q_648) (fun _ h9 => h9) rfl eX10_rule_27.2.2.2.2.2.2.2.2.2.1 ?_
    refine lv_iload_n hx hb eX10_rule_27.2.2.2.2.2.2.2.2.2.2.1 rfl (lv_at hl 0 rfl) ?_
    refine lv_icmp_ge (tgt := 57) hx hb eX10_rule_27.2.2.2.2.2.2.2.2.2.2.2.1 (by decide) (fun hc => ?_) (fun hc => ?_)
    · have hp := hp.1 hc
      exact ks_X10_rule_57 C0 jG 0 0 zL yG aAj aAb yJ bU 0 rQ H locs ls hp hP hD hS (lv_sub hl [1, 0] rfl)
    · have hp := hp.2 hc
      refine lv_aload_n hx hb eX10_rule_27.2.2.2.2.2.2.2.2.2.2.2.2.1 rfl (lv_at hl 1 rfl) ?_
      refine lv_aload_n hx hb eX10_rule_27.2.2.2.2.2.2.2.2.2.2.2.2.2.1 rfl (lv_at hl 1 rfl) ?_
      refine va_get (D := (dC, dI)) (ci := 10) (v := .int aAb) (C := RX10) (T := TX10) (N := 51) hx hb hts i_X10 hown hK hP 0 rfl rfl 18 (Nat.le_of_ble_eq_true rfl) (hts _ q_648) (fun _ h9 => h9) rfl eX10_rule_27.2.2.2.2.2.2.2.2.2.2.2.2.2.2.1 ?_
      have hm := mgk (wc := (wd_X10_fault cI cC cZ cB cJ a_m oJ uD dY iJ lJ jQ jR jW jK pJ bM aY jO gR gY mK jZ iY bG mJ jB mQ lY eJ bY bW aG 0 bQ 0 zL yG aAj aAb yJ aJ aB bU 0 aR aE bJ aW bT gJ dU bL bR bO mY pW)) hP aBV 8 rfl rfl rfl
      refine g_callv hP hD hS hA (mixT aBV) (mixF aBV) hm.1 hm.2 (nd_F _) (dis_g _) (g_runV (As := [.int aAb]) (rest := []) C0 hP hD hS (mixT aBV) hm.1 (nd_T _) 0 10 rfl rfl (c_X10_fault l dC dI cI cC cZ cB cJ a_m oJ uD dY iJ lJ jQ jR jW jK pJ bM aY jO gR gY mK jZ iY bG mJ jB mQ lY eJ bY H.size aAb bW aG 0 bQ 0 zL yG aAj aAb yJ aJ aB bU 0 aR aE bJ aW bT gJ dU bL bR bO mY pW _ hp) q_654 q_657 q_655 q_656 q_642 h_X10_fault rfl rfl ⟨Nat.le_of_ble_eq_true rfl, Nat.le_of_ble_eq_true rfl⟩ rfl rfl hl.1 rfl (lv_room (Nat.le_of_ble_eq_true rfl)) eX10_rule_27.2.2.2.2.2.2.2.2.2.2.2.2.2.2.2 ⟨Nat.zero_le _, Nat.zero_le _⟩) (fun u H locs hp hP hD hS => ?_)
      obtain ⟨aAQ, rfl⟩ : ∃ z, z = u := ⟨_, rfl⟩
      have hPD := PDm (ws' := (wd_X10_rule cI cC cZ cB cJ a_m oJ uD dY iJ lJ jQ jR jW jK pJ bM aY jO gR gY mK jZ iY bG mJ jB mQ lY eJ bY bW aG 0 bQ 0 zL yG aAj aAb aAQ aJ aB bU 0 aR aE bJ aW bT gJ dU bL bR bO mY pW m_x jA pY oY pR rG rQ)) hP hD 8 rfl rfl rfl
      have hP := hPD.1
      have hD := hPD.2
      exact ks_X10_rule_57 C0 jG 0 0 zL yG aAj aAb aAQ bU 0 rQ H locs ls hp hP hD hS (lv_sub hl [1, 0] rfl)
noncomputable abbrev wd_X10_isFruit (cI cC cZ cB cJ : ClassId) (a_m oJ uD dY iJ lJ jQ jR jW jK pJ bM aY jO gR gY mK jZ iY bG mJ jB mQ lY eJ bY : Nat) (bW aG jG bQ dG : Int32) (jY : Nat) (m_length qG uW eY aJ aB bU dN aR aE bJ aW bT gJ dU bL bR bO mY pW : Int32) : va_W := [(a_m, .inr (10, [.ref oJ, .int bW, .ref uD, .ref dY, .ref iJ, .ref lJ, .int aG, .ref jQ, .ref jR, .ref jW, .ref jK, .int jG, .ref pJ, .int bQ, .int dG, rdv jK jO jY, .int m_length, .int qG, .int uW, .int eY, .ref bM, .ref aY, .int aJ, .int aB, .ref jO, .int bU, .int dN, .int aR, .int aE, .int bJ, .int aW, .ref gR, .int bT, .ref gY, .ref mK, .int gJ, .ref jZ, .int dU, .ref iY, .ref bG, .int bL, .int bR, .int bO, .ref mJ, .ref jB, .ref mQ, .int mY, .int pW, .ref lY, .ref eJ, .ref bY]))]
noncomputable abbrev q_X10_isFruit (dC : Nat → ClassId) (dI : Nat → Nat → Nat) (cI cC cZ cB cJ : ClassId) (A : Nat → Prop) (a_m oJ uD dY iJ lJ jQ jR jW jK pJ bM aY jO gR gY mK jZ iY bG mJ jB mQ lY eJ bY : Nat) (bW aG jG bQ dG : Int32) (jY : Nat) (m_length qG uW eY aJ aB bU dN aR aE bJ aW bT gJ dU bL bR bO mY pW : Int32) (post : Int32 → Prop) : Array Value → State → Outcome → State → Prop := va_Qi (fun (r : Int32) (u : Unit) => post r) (fun u t => gB (dC, dI) (tyl cI cC cZ cB cJ) A (wd_X10_isFruit cI cC cZ cB cJ a_m oJ uD dY iJ lJ jQ jR jW jK pJ bM aY jO gR gY mK jZ iY bG mJ jB mQ lY eJ bY bW aG jG bQ dG jY m_length qG uW eY aJ aB bU dN aR aE bJ aW bT gJ dU bL bR bO mY pW) t) A
noncomputable abbrev rm_X10_isFruit : Room := { frames := 1, cells := 0, slots := 0, locals := 22 }
noncomputable def wp_X10_isFruit (post : Int32 → Prop) (p0 bW : Int32) : Prop := ∀ v_1 : Int32, v_1 = bW - 1 → wp_X10_in (fun r_2 => narrow .boolean (.int r_2) = .int r_2 ∧ post r_2) p0 0 v_1
set_option maxHeartbeats 4000000 in
set_option maxRecDepth 100000 in
theorem c_X10_isFruit (l : Launch) (dC : Nat → ClassId) (dI : Nat → Nat → Nat) (cI cC cZ cB cJ : ClassId) (a_m oJ uD dY iJ lJ jQ jR jW jK pJ bM aY jO gR gY mK jZ iY bG mJ jB mQ lY eJ bY sz : Nat) (p0 bW aG jG bQ dG : Int32) (jY : Nat) (m_length qG uW eY aJ aB bU dN aR aE bJ aW bT gJ dU bL bR bO mY pW : Int32) (post : Int32 → Prop) (hw : wp_X10_isFruit post p0 bW) : Met l yX10_isFruit (gw yX10_isFruit cX10_isFruit 2 (some .boolean)) rm_X10_isFruit (va_Pc [.ref a_m, .int p0] (gPre (dC, dI) (tyl cI cC cZ cB cJ) (wd_X10_isFruit cI cC cZ cB cJ a_m oJ uD dY iJ lJ jQ jR jW jK pJ bM aY jO gR gY mK jZ iY bG mJ jB mQ lY eJ bY bW aG jG bQ dG jY m_length qG uW eY aJ aB bU dN aR aE bJ aW bT gJ dU bL bR bO mY pW) sz)) (q_X10_isFruit dC dI cI cC cZ cB cJ (va_A (wd_X10_isFruit cI cC cZ cB cJ a_m oJ uD dY iJ lJ jQ jR jW jK pJ bM aY jO gR gY mK jZ iY bG mJ jB mQ lY eJ bY bW aG jG bQ dG jY m_length qG uW eY aJ aB bU dN aR aE bJ aW bT gJ dU bL bR bO mY pW) sz) a_m oJ uD dY iJ lJ jQ jR jW jK pJ bM aY jO gR gY mK jZ iY bG mJ jB mQ lY eJ bY bW aG jG bQ dG jY m_length qG uW eY aJ aB bU dN aR aE bJ aW bT gJ dU bL bR bO mY pW post) 0 0 (va_A (wd_X10_isFruit cI cC cZ cB cJ a_m oJ uD dY iJ lJ jQ jR jW jK pJ bM aY jO gR gY mK jZ iY bG mJ jB mQ lY eJ bY bW aG jG bQ dG jY m_length qG uW eY aJ aB bU dN aR aE bJ aW bT gJ dU bL bR bO mY pW) sz) := by
  refine g_enter (own := RX10) (dC, dI) (tyl cI cC cZ cB cJ) (wd_X10_isFruit cI cC cZ cB cJ a_m oJ uD dY iJ lJ jQ jR jW jK pJ bM aY jO gR gY mK jZ iY bG mJ jB mQ lY eJ bY bW aG jG bQ dG jY m_length qG uW eY aJ aB bU dN aR aE bJ aW bT gJ dU bL bR bO mY pW) sz [.ref a_m, .int p0] (fun A => q_X10_isFruit dC dI cI cC cZ cB cJ A a_m oJ uD dY iJ lJ jQ jR jW jK pJ bM aY jO gR gY mK jZ iY bG mJ jB mQ lY eJ bY bW aG jG bQ dG jY m_length qG uW eY aJ aB bU dN aR aE bJ aW bT gJ dU bL bR bO mY pW post) pn_RX10 rfl (Nat.le_of_ble_eq_true rfl) ?_
  intro p e s m args below meth c A H locs ls C0 hP hD hS hl
  have hl : lv_has ls 2 [(0, .ref a_m), (1, .int p0)] := hl
  obtain ⟨hx, hb, hr, hml, hown, hts, hlocks, hA, hK, hN, tL, tM, hZL, hTL, hZM, hTM, hZX⟩ := id C0
  have hp := hw
  unfold wp_X10_isFruit at hp
  refine lv_iload_n hx hb eX10_isFruit_0.1 rfl (lv_at hl 1 rfl) ?_
  refine lv_iconst (v := 0) hx hb eX10_isFruit_0.2.1 ic_0 ?_
  refine lv_aload_n hx hb eX10_isFruit_0.2.2.1 rfl (lv_at hl 0 rfl) ?_
  refine va_get (D := (dC, dI)) (ci := 10) (v := .int bW) (C := RX10) (T := TX10) (N := 51) hx hb hts i_X10 hown hK hP 0 rfl rfl 1 (Nat.le_of_ble_eq_true rfl) (hts _ q_677) (fun _ h9 => h9) rfl eX10_isFruit_0.2.2.2.1 ?_
  refine lv_iconst (v := 1) hx hb eX10_isFruit_0.2.2.2.2.1 ic_1 ?_
  refine lv_isub hx hb eX10_isFruit_0.2.2.2.2.2.1 ?_
  refine lv_topi (fun v_1 ev_1 => ?_)
  have hp := hp v_1 ev_1
  refine g_calli (wc := (wd_X10_in cI cC cZ cB cJ)) hP hD hS hA [] [0] rfl rfl rfl rfl (g_runS (As := [.int p0, .int 0, .int v_1]) (rest := []) C0 hP hD hS [] rfl rfl (c_X10_in l dC dI cI cC cZ cB cJ H.size p0 0 v_1 _ hp) q_641 q_644 q_643 q_642 h_X10_in rfl rfl ⟨Nat.le_of_ble_eq_true rfl, Nat.le_of_ble_eq_true rfl⟩ rfl rfl hl.1 rfl (lv_room (Nat.le_of_ble_eq_true rfl)) eX10_isFruit_0.2.2.2.2.2.2.1 ⟨Nat.zero_le _, Nat.zero_le _⟩) (fun r_2 u H locs hp hP hD hS => ?_)
  have hPD := PDs (ws' := (wd_X10_isFruit cI cC cZ cB cJ a_m oJ uD dY iJ lJ jQ jR jW jK pJ bM aY jO gR gY mK jZ iY bG mJ jB mQ lY eJ bY bW aG jG bQ dG jY m_length qG uW eY aJ aB bU dN aR aE bJ aW bT gJ dU bL bR bO mY pW)) hP hD [0] (by decide) rfl
  have hP := hPD.1
  have hD := hPD.2
  have hnz := hp.1
  have hp := hp.2
  exact W.zret (v := r_2) hx hb hr hnz (fun t ht hW => ⟨⟨r_2, (), rfl, hp, by rw [ht]; exact hP, va_K.moved hW.alike hK, hD⟩, hS.F ht⟩) hS.2.2 eX10_isFruit_0.2.2.2.2.2.2.2
noncomputable abbrev wd_X10_which (cI cC cZ cB cJ : ClassId) (a_m oJ uD dY iJ lJ jQ jR jW jK pJ bM aY jO gR gY mK jZ iY bG mJ jB mQ lY eJ bY : Nat) (bW aG jG bQ dG : Int32) (jY : Nat) (m_length qG uW eY aJ aB bU dN aR aE bJ aW bT gJ dU bL bR bO mY pW : Int32) (rD : Nat → Int32) : va_W := [(a_m, .inr (10, [.ref oJ, .int bW, .ref uD, .ref dY, .ref iJ, .ref lJ, .int aG, .ref jQ, .ref jR, .ref jW, .ref jK, .int jG, .ref pJ, .int bQ, .int dG, rdv jK jO jY, .int m_length, .int qG, .int uW, .int eY, .ref bM, .ref aY, .int aJ, .int aB, .ref jO, .int bU, .int dN, .int aR, .int aE, .int bJ, .int aW, .ref gR, .int bT, .ref gY, .ref mK, .int gJ, .ref jZ, .int dU, .ref iY, .ref bG, .int bL, .int bR, .int bO, .ref mJ, .ref jB, .ref mQ, .int mY, .int pW, .ref lY, .ref eJ, .ref bY])), (oJ, .inl (cI, 21, .inl rD))]
noncomputable abbrev q_X10_which (dC : Nat → ClassId) (dI : Nat → Nat → Nat) (cI cC cZ cB cJ : ClassId) (A : Nat → Prop) (a_m oJ uD dY iJ lJ jQ jR jW jK pJ bM aY jO gR gY mK jZ iY bG mJ jB mQ lY eJ bY : Nat) (bW aG jG bQ dG : Int32) (jY : Nat) (m_length qG uW eY aJ aB bU dN aR aE bJ aW bT gJ dU bL bR bO mY pW : Int32) (rD : Nat → Int32) (post : Int32 → Prop) : Array Value → State → Outcome → State → Prop := va_Qi (fun (r : Int32) (u : Unit) => post r) (fun u t => gB (dC, dI) (tyl cI cC cZ cB cJ) A (wd_X10_which cI cC cZ cB cJ a_m oJ uD dY iJ lJ jQ jR jW jK pJ bM aY jO gR gY mK jZ iY bG mJ jB mQ lY eJ bY bW aG jG bQ dG jY m_length qG uW eY aJ aB bU dN aR aE bJ aW bT gJ dU bL bR bO mY pW rD) t) A
noncomputable abbrev rm_X10_which : Room := { frames := 0, cells := 0, slots := 0, locals := 0 }
section S_X10_which
variable {p : Program} {l : Launch} {e : Env} {s : State} {m : MethodId} {args : Array Value} {below : List Frame} {meth : Method} {c : Code} {dC : Nat → ClassId} {dI : Nat → Nat → Nat} {cI cC cZ cB cJ : ClassId} {A : Nat → Prop} {a_m oJ uD dY iJ lJ jQ jR jW jK pJ bM aY jO gR gY mK jZ iY bG mJ jB mQ lY eJ bY : Nat} {bW aG jG bQ dG : Int32} {jY : Nat} {m_length qG uW eY aJ aB bU dN aR aE bJ aW bT gJ dU bL bR bO mY pW : Int32} {rD : Nat → Int32} {post : Int32 → Prop}
noncomputable def ws_X10_which_31 (post : Int32 → Prop) (K5 : Int32 → Int32 → Int32 → Prop) (bW : Int32) (rD : Nat → Int32) (x2 x4 k0 k1 : Int32) : Prop := ∀ v_2 : Int32, v_2 = k0 ||| k1 → ∀ v_3 : Int32, v_3 = x4 + 1 → K5 x2 v_2 v_3
set_option maxHeartbeats 4000000 in
set_option maxRecDepth 100000 in
theorem ks_X10_which_31 (C0 : gc cX10_which (some .int) 5 RX10 (dC, dI) (tyl cI cC cZ cB cJ) A p s m args meth c) {K5 : Int32 → Int32 → Int32 → Prop} (hK5 : ∀ (x2 : Int32) (x3 : Int32) (x4 : Int32) (H : Heap) (locs : List Loc) (ls : Array Slot), K5 x2 x3 x4 → va_P (dC, dI) classes (wd_X10_which cI cC cZ cB cJ a_m oJ uD dY iJ lJ jQ jR jW jK pJ bM aY jO gR gY mK jZ iY bG mJ jB mQ lY eJ bY bW aG jG bQ dG jY m_length qG uW eY aJ aB bU dN aR aE bJ aW bT gJ dU bL bR bO mY pW rD) H → va_D A (wd_X10_which cI cC cZ cB cJ a_m oJ uD dY iJ lJ jQ jR jW jK pJ bM aY jO gR gY mK jZ iY bG mJ jB mQ lY eJ bY bW aG jG bQ dG jY m_length qG uW eY aJ aB bU dN aR aE bJ aW bT gJ dU bL bR bO mY pW rD) → va_S A s.heap H locs → lv_has ls 5 [(0, .ref a_m), (1, .ref oJ), (2, .int x2), (3, .int x3), (4, .int x4)] → W p l e rm_X10_which s m args below meth c H locs 0 0 (MQ below (q_X10_which dC dI cI cC cZ cB cJ A a_m oJ uD dY iJ lJ jQ jR jW jK pJ bM aY jO gR gY mK jZ iY bG mJ jB mQ lY eJ bY bW aG jG bQ dG jY m_length qG uW eY aJ aB bU dN aR aE bJ aW bT gJ dU bL bR bO mY pW rD post) args s 0 0 A) (F0 m 5 ls [])) : ∀ (x2 x4 k0 k1 : Int32) (H : Heap) (locs : List Loc) (ls : Array Slot), (ws_X10_which_31 post K5 bW rD) x2 x4 k0 k1 → va_P (dC, dI) classes (wd_X10_which cI cC cZ cB cJ a_m oJ uD dY iJ lJ jQ jR jW jK pJ bM aY jO gR gY mK jZ iY bG mJ jB mQ lY eJ bY bW aG jG bQ dG jY m_length qG uW eY aJ aB bU dN aR aE bJ aW bT gJ dU bL bR bO mY pW rD) H → va_D A (wd_X10_which cI cC cZ cB cJ a_m oJ uD dY iJ lJ jQ jR jW jK pJ bM aY jO gR gY mK jZ iY bG mJ jB mQ lY eJ bY bW aG jG bQ dG jY m_length qG uW eY aJ aB bU dN aR aE bJ aW bT gJ dU bL bR bO mY pW rD) → va_S A s.heap H locs → lv_has ls 5 [(0, .ref a_m), (1, .ref oJ), (2, .int x2), (4, .int x4)] → W p l e rm_X10_which s m args below meth c H locs 0 0 (MQ below (q_X10_which dC dI cI cC cZ cB cJ A a_m oJ uD dY iJ lJ jQ jR jW jK pJ bM aY jO gR gY mK jZ iY bG mJ jB mQ lY eJ bY bW aG jG bQ dG jY m_length qG uW eY aJ aB bU dN aR aE bJ aW bT gJ dU bL bR bO mY pW rD post) args s 0 0 A) (F0 m 31 ls [.int k1, .int k0]) := by
  obtain ⟨hx, hb, hr, hml, hown, hts, hlocks, hA, hK, hN, tL, tM, hZL, hTL, hZM, hTM, hZX⟩ := id C0
  intro x2 x4 k0 k1 H locs ls hp hP hD hS hl
  unfold ws_X10_which_31 at hp
  refine lv_ior hx hb eX10_which_26.2.2.2.1 ?_
  refine lv_topi (fun v_2 ev_2 => ?_)
  have hp := hp v_2 ev_2
  refine lv_istore_n (lv' := [(3, .int v_2), (0, .ref a_m), (1, .ref oJ), (2, .int x2), (4, .int x4)]) hx hb eX10_which_26.2.2.2.2.1 rfl hl (by decide) rfl (fun ls hl => ?_)
  obtain ⟨v_3, ev_3⟩ : ∃ y : Int32, y = x4 + 1 := ⟨_, rfl⟩
  refine lv_iinc (v := v_3) (lv' := [(4, .int v_3), (3, .int v_2), (0, .ref a_m), (1, .ref oJ), (2, .int x2)]) hx hb eX10_which_26.2.2.2.2.2.1 hl (k := 4) rfl (by rw [ev_3]; rfl) (by decide) rfl (fun ls hl => ?_)
  have hp := hp v_3 ev_3
  refine lv_goto (tgt := 5) hx hb eX10_which_26.2.2.2.2.2.2.1 (by decide) ?_
  exact hK5 x2 v_2 v_3 H locs ls hp hP hD hS (lv_sub hl [2, 3, 4, 1, 0] rfl)
noncomputable def ws_X10_which_5 (post : Int32 → Prop) (next : Int32 → Int32 → Int32 → Prop) (bW : Int32) (rD : Nat → Int32) (x2 x3 x4 : Int32) : Prop := (bW ≤ x4 → post x3) ∧ (¬ bW ≤ x4 → vp_in x4 21 ∧ (∀ v_1 : Int32, v_1 = rD x4.toNatClampNeg → (¬ v_1 = x2 → ws_X10_which_31 post next bW rD x2 x4 x3 0) ∧ (v_1 = x2 → ∀ v_4 : Int32, v_4 = 1 <<< (x4 &&& 31) → ws_X10_which_31 post next bW rD x2 x4 x3 v_4)))
noncomputable def wb_X10_which_5 (post : Int32 → Prop) (bW : Int32) (rD : Nat → Int32) : Nat → Int32 → Int32 → Int32 → Prop := fun n => Nat.rec (motive := fun _ => Int32 → Int32 → Int32 → Prop) (fun _ _ _ => False) (fun _ ih => ws_X10_which_5 post ih bW rD) n
set_option maxHeartbeats 4000000 in
set_option maxRecDepth 100000 in
theorem ks_X10_which_5 (C0 : gc cX10_which (some .int) 5 RX10 (dC, dI) (tyl cI cC cZ cB cJ) A p s m args meth c) {next : Int32 → Int32 → Int32 → Prop} (hKn : ∀ (x2 : Int32) (x3 : Int32) (x4 : Int32) (H : Heap) (locs : List Loc) (ls : Array Slot), next x2 x3 x4 → va_P (dC, dI) classes (wd_X10_which cI cC cZ cB cJ a_m oJ uD dY iJ lJ jQ jR jW jK pJ bM aY jO gR gY mK jZ iY bG mJ jB mQ lY eJ bY bW aG jG bQ dG jY m_length qG uW eY aJ aB bU dN aR aE bJ aW bT gJ dU bL bR bO mY pW rD) H → va_D A (wd_X10_which cI cC cZ cB cJ a_m oJ uD dY iJ lJ jQ jR jW jK pJ bM aY jO gR gY mK jZ iY bG mJ jB mQ lY eJ bY bW aG jG bQ dG jY m_length qG uW eY aJ aB bU dN aR aE bJ aW bT gJ dU bL bR bO mY pW rD) → va_S A s.heap H locs → lv_has ls 5 [(0, .ref a_m), (1, .ref oJ), (2, .int x2), (3, .int x3), (4, .int x4)] → W p l e rm_X10_which s m args below meth c H locs 0 0 (MQ below (q_X10_which dC dI cI cC cZ cB cJ A a_m oJ uD dY iJ lJ jQ jR jW jK pJ bM aY jO gR gY mK jZ iY bG mJ jB mQ lY eJ bY bW aG jG bQ dG jY m_length qG uW eY aJ aB bU dN aR aE bJ aW bT gJ dU bL bR bO mY pW rD post) args s 0 0 A) (F0 m 5 ls [])) : ∀ (x2 x3 x4 : Int32) (H : Heap) (locs : List Loc) (ls : Array Slot), (ws_X10_which_5 post next bW rD) x2 x3 x4 → va_P (dC, dI) classes (wd_X10_which cI cC cZ cB cJ a_m oJ uD dY iJ lJ jQ jR jW jK pJ bM aY jO gR gY mK jZ iY bG mJ jB mQ lY eJ bY bW aG jG bQ dG jY m_length qG uW eY aJ aB bU dN aR aE bJ aW bT gJ dU bL bR bO mY pW rD) H → va_D A (wd_X10_which cI cC cZ cB cJ a_m oJ uD dY iJ lJ jQ jR jW jK pJ bM aY jO gR gY mK jZ iY bG mJ jB mQ lY eJ bY bW aG jG bQ dG jY m_length qG uW eY aJ aB bU dN aR aE bJ aW bT gJ dU bL bR bO mY pW rD) → va_S A s.heap H locs → lv_has ls 5 [(0, .ref a_m), (1, .ref oJ), (2, .int x2), (3, .int x3), (4, .int x4)] → W p l e rm_X10_which s m args below meth c H locs 0 0 (MQ below (q_X10_which dC dI cI cC cZ cB cJ A a_m oJ uD dY iJ lJ jQ jR jW jK pJ bM aY jO gR gY mK jZ iY bG mJ jB mQ lY eJ bY bW aG jG bQ dG jY m_length qG uW eY aJ aB bU dN aR aE bJ aW bT gJ dU bL bR bO mY pW rD post) args s 0 0 A) (F0 m 5 ls []) := by
  obtain ⟨hx, hb, hr, hml, hown, hts, hlocks, hA, hK, hN, tL, tM, hZL, hTL, hZM, hTM, hZX⟩ := id C0
  intro x2 x3 x4 H locs ls hp hP hD hS hl
  unfold ws_X10_which_5 at hp
  refine lv_iload hx hb eX10_which_0.2.2.2.2.1 (lv_at hl 4 rfl) ?_
  refine lv_aload_n hx hb eX10_which_0.2.2.2.2.2.1 rfl (lv_at hl 0 rfl) ?_
  refine va_get (D := (dC, dI)) (ci := 10) (v := .int bW) (C := RX10) (T := TX10) (N := 51) hx hb hts i_X10 hown hK hP 0 rfl rfl 1 (Nat.le_of_ble_eq_true rfl) (hts _ q_677) (fun _ h9 => h9) rfl eX10_which_0.2.2.2.2.2.2.1 ?_
  refine lv_icmp_ge (tgt := 39) hx hb eX10_which_0.2.2.2.2.2.2.2.1 (by decide) (fun hc => ?_) (fun hc => ?_)
  · have hp := hp.1 hc
    refine lv_iload_n hx hb eX10_which_26.2.2.2.2.2.2.2.1 rfl (lv_at hl 3 rfl) ?_
    exact W.iret (v := x3) hx hb hr (fun t ht hW => ⟨⟨x3, (), rfl, hp, by rw [ht]; exact hP, va_K.moved hW.alike hK, hD⟩, hS.F ht⟩) hS.2.2 eX10_which_26.2.2.2.2.2.2.2.2
  · have hp := hp.2 hc
    refine lv_iload_n hx hb eX10_which_0.2.2.2.2.2.2.2.2.1 rfl (lv_at hl 3 rfl) ?_
    refine lv_aload_n hx hb eX10_which_0.2.2.2.2.2.2.2.2.2.1 rfl (lv_at hl 1 rfl) ?_
    refine lv_iload hx hb eX10_which_0.2.2.2.2.2.2.2.2.2.2.1 (lv_at hl 4 rfl) ?_
    have hin := hp.1
    have hp := hp.2
    refine va_iald hx hb hK hP 1 0 rfl rfl hin eX10_which_0.2.2.2.2.2.2.2.2.2.2.2.1 ?_
    refine lv_topi (fun v_1 ev_1 => ?_)
    have hp := hp v_1 ev_1
    refine lv_iload_n hx hb eX10_which_0.2.2.2.2.2.2.2.2.2.2.2.2.1 rfl (lv_at hl 2 rfl) ?_
    refine lv_icmp_ne (tgt := 30) hx hb eX10_which_0.2.2.2.2.2.2.2.2.2.2.2.2.2.1 (by decide) (fun hc => ?_) (fun hc => ?_)
    · have hp := hp.1 hc
      refine lv_iconst (v := 0) hx hb eX10_which_26.2.2.1 ic_0 ?_
      exact ks_X10_which_31 C0 hKn x2 x4 x3 0 H locs ls hp hP hD hS (lv_sub hl [0, 1, 2, 4] rfl)
    · have hp := hp.2 hc
      refine lv_iconst (v := 1) hx hb eX10_which_0.2.2.2.2.2.2.2.2.2.2.2.2.2.2.1 ic_1 ?_
      refine lv_iload hx hb eX10_which_0.2.2.2.2.2.2.2.2.2.2.2.2.2.2.2 (lv_at hl 4 rfl) ?_
      refine lv_ishl hx hb eX10_which_26.1 ?_
      refine lv_topi (fun v_4 ev_4 => ?_)
      have hp := hp v_4 ev_4
      refine lv_goto (tgt := 31) hx hb eX10_which_26.2.1 (by decide) ?_
      exact ks_X10_which_31 C0 hKn x2 x4 x3 v_4 H locs ls hp hP hD hS (lv_sub hl [0, 1, 2, 4] rfl)
set_option maxHeartbeats 4000000 in
set_option maxRecDepth 100000 in
theorem kb_X10_which_5 (C0 : gc cX10_which (some .int) 5 RX10 (dC, dI) (tyl cI cC cZ cB cJ) A p s m args meth c) : ∀ (n : Nat), ∀ (x2 x3 x4 : Int32) (H : Heap) (locs : List Loc) (ls : Array Slot), (wb_X10_which_5 post bW rD n) x2 x3 x4 → va_P (dC, dI) classes (wd_X10_which cI cC cZ cB cJ a_m oJ uD dY iJ lJ jQ jR jW jK pJ bM aY jO gR gY mK jZ iY bG mJ jB mQ lY eJ bY bW aG jG bQ dG jY m_length qG uW eY aJ aB bU dN aR aE bJ aW bT gJ dU bL bR bO mY pW rD) H → va_D A (wd_X10_which cI cC cZ cB cJ a_m oJ uD dY iJ lJ jQ jR jW jK pJ bM aY jO gR gY mK jZ iY bG mJ jB mQ lY eJ bY bW aG jG bQ dG jY m_length qG uW eY aJ aB bU dN aR aE bJ aW bT gJ dU bL bR bO mY pW rD) → va_S A s.heap H locs → lv_has ls 5 [(0, .ref a_m), (1, .ref oJ), (2, .int x2), (3, .int x3), (4, .int x4)] → W p l e rm_X10_which s m args below meth c H locs 0 0 (MQ below (q_X10_which dC dI cI cC cZ cB cJ A a_m oJ uD dY iJ lJ jQ jR jW jK pJ bM aY jO gR gY mK jZ iY bG mJ jB mQ lY eJ bY bW aG jG bQ dG jY m_length qG uW eY aJ aB bU dN aR aE bJ aW bT gJ dU bL bR bO mY pW rD post) args s 0 0 A) (F0 m 5 ls []) := by
  intro n
  induction n with
  | zero =>
    intro x2 x3 x4 H locs ls hp
    exact False.elim hp
  | succ n ih =>
    intro x2 x3 x4 H locs ls hp
    exact ks_X10_which_5 C0 ih x2 x3 x4 H locs ls hp
end S_X10_which
noncomputable def wp_X10_which (post : Int32 → Prop) (p1 bW : Int32) (rD : Nat → Int32) : Prop := ∃ n : Nat, wb_X10_which_5 post bW rD n p1 0 0
set_option maxHeartbeats 4000000 in
set_option maxRecDepth 100000 in
theorem c_X10_which (l : Launch) (dC : Nat → ClassId) (dI : Nat → Nat → Nat) (cI cC cZ cB cJ : ClassId) (a_m oJ uD dY iJ lJ jQ jR jW jK pJ bM aY jO gR gY mK jZ iY bG mJ jB mQ lY eJ bY sz : Nat) (p1 bW aG jG bQ dG : Int32) (jY : Nat) (m_length qG uW eY aJ aB bU dN aR aE bJ aW bT gJ dU bL bR bO mY pW : Int32) (rD : Nat → Int32) (post : Int32 → Prop) (hw : wp_X10_which post p1 bW rD) : Met l yX10_which (gw yX10_which cX10_which 5 (some .int)) rm_X10_which (va_Pc [.ref a_m, .ref oJ, .int p1] (gPre (dC, dI) (tyl cI cC cZ cB cJ) (wd_X10_which cI cC cZ cB cJ a_m oJ uD dY iJ lJ jQ jR jW jK pJ bM aY jO gR gY mK jZ iY bG mJ jB mQ lY eJ bY bW aG jG bQ dG jY m_length qG uW eY aJ aB bU dN aR aE bJ aW bT gJ dU bL bR bO mY pW rD) sz)) (q_X10_which dC dI cI cC cZ cB cJ (va_A (wd_X10_which cI cC cZ cB cJ a_m oJ uD dY iJ lJ jQ jR jW jK pJ bM aY jO gR gY mK jZ iY bG mJ jB mQ lY eJ bY bW aG jG bQ dG jY m_length qG uW eY aJ aB bU dN aR aE bJ aW bT gJ dU bL bR bO mY pW rD) sz) a_m oJ uD dY iJ lJ jQ jR jW jK pJ bM aY jO gR gY mK jZ iY bG mJ jB mQ lY eJ bY bW aG jG bQ dG jY m_length qG uW eY aJ aB bU dN aR aE bJ aW bT gJ dU bL bR bO mY pW rD post) 0 0 (va_A (wd_X10_which cI cC cZ cB cJ a_m oJ uD dY iJ lJ jQ jR jW jK pJ bM aY jO gR gY mK jZ iY bG mJ jB mQ lY eJ bY bW aG jG bQ dG jY m_length qG uW eY aJ aB bU dN aR aE bJ aW bT gJ dU bL bR bO mY pW rD) sz) := by
  refine g_enter (own := RX10) (dC, dI) (tyl cI cC cZ cB cJ) (wd_X10_which cI cC cZ cB cJ a_m oJ uD dY iJ lJ jQ jR jW jK pJ bM aY jO gR gY mK jZ iY bG mJ jB mQ lY eJ bY bW aG jG bQ dG jY m_length qG uW eY aJ aB bU dN aR aE bJ aW bT gJ dU bL bR bO mY pW rD) sz [.ref a_m, .ref oJ, .int p1] (fun A => q_X10_which dC dI cI cC cZ cB cJ A a_m oJ uD dY iJ lJ jQ jR jW jK pJ bM aY jO gR gY mK jZ iY bG mJ jB mQ lY eJ bY bW aG jG bQ dG jY m_length qG uW eY aJ aB bU dN aR aE bJ aW bT gJ dU bL bR bO mY pW rD post) pn_RX10 rfl (Nat.le_of_ble_eq_true rfl) ?_
  intro p e s m args below meth c A H locs ls C0 hP hD hS hl
  have hl : lv_has ls 5 [(0, .ref a_m), (1, .ref oJ), (2, .int p1)] := hl
  obtain ⟨hx, hb, hr, hml, hown, hts, hlocks, hA, hK, hN, tL, tM, hZL, hTL, hZM, hTM, hZX⟩ := id C0
  have hp := hw
  unfold wp_X10_which at hp
  refine lv_iconst (v := 0) hx hb eX10_which_0.1 ic_0 ?_
  refine lv_istore_n (lv' := [(3, .int 0), (0, .ref a_m), (1, .ref oJ), (2, .int p1)]) hx hb eX10_which_0.2.1 rfl hl (by decide) rfl (fun ls hl => ?_)
  refine lv_iconst (v := 0) hx hb eX10_which_0.2.2.1 ic_0 ?_
  refine lv_istore (lv' := [(4, .int 0), (3, .int 0), (0, .ref a_m), (1, .ref oJ), (2, .int p1)]) hx hb eX10_which_0.2.2.2.1 hl (by decide) rfl (fun ls hl => ?_)
  obtain ⟨n9, hp⟩ := hp
  exact kb_X10_which_5 C0 n9 p1 0 0 H locs ls hp hP hD hS (lv_sub hl [2, 3, 4, 1, 0] rfl)
noncomputable abbrev wd_X10_has (cI cC cZ cB cJ : ClassId) : va_W := []
noncomputable abbrev q_X10_has (dC : Nat → ClassId) (dI : Nat → Nat → Nat) (cI cC cZ cB cJ : ClassId) (A : Nat → Prop) (post : Int32 → Prop) : Array Value → State → Outcome → State → Prop := va_Qi (fun (r : Int32) (u : Unit) => post r) (fun u t => gB (dC, dI) (tyl cI cC cZ cB cJ) A (wd_X10_has cI cC cZ cB cJ) t) A
noncomputable abbrev rm_X10_has : Room := { frames := 0, cells := 0, slots := 0, locals := 0 }
noncomputable def wp_X10_has (post : Int32 → Prop) (p0 p1 : Int32) : Prop := ∀ v_1 : Int32, v_1 = p0 >>> (p1 &&& 31) → ∀ v_2 : Int32, v_2 = v_1 &&& 1 → (¬ v_2 = 1 → post 0) ∧ (v_2 = 1 → post 1)
set_option maxHeartbeats 4000000 in
set_option maxRecDepth 100000 in
theorem c_X10_has (l : Launch) (dC : Nat → ClassId) (dI : Nat → Nat → Nat) (cI cC cZ cB cJ : ClassId) (sz : Nat) (p0 p1 : Int32) (post : Int32 → Prop) (hw : wp_X10_has post p0 p1) : Met l yX10_has (gw yX10_has cX10_has 2 (some .boolean)) rm_X10_has (va_Pc [.int p0, .int p1] (gPre (dC, dI) (tyl cI cC cZ cB cJ) (wd_X10_has cI cC cZ cB cJ) sz)) (q_X10_has dC dI cI cC cZ cB cJ (va_A (wd_X10_has cI cC cZ cB cJ) sz) post) 0 0 (va_A (wd_X10_has cI cC cZ cB cJ) sz) := by
  refine g_enter (own := RX10) (dC, dI) (tyl cI cC cZ cB cJ) (wd_X10_has cI cC cZ cB cJ) sz [.int p0, .int p1] (fun A => q_X10_has dC dI cI cC cZ cB cJ A post) pn_RX10 rfl (Nat.le_of_ble_eq_true rfl) ?_
  intro p e s m args below meth c A H locs ls C0 hP hD hS hl
  have hl : lv_has ls 2 [(0, .int p0), (1, .int p1)] := hl
  obtain ⟨hx, hb, hr, hml, hown, hts, hlocks, hA, hK, hN, tL, tM, hZL, hTL, hZM, hTM, hZX⟩ := id C0
  have hp := hw
  unfold wp_X10_has at hp
  refine lv_iload_n hx hb eX10_has_0.1 rfl (lv_at hl 0 rfl) ?_
  refine lv_iload_n hx hb eX10_has_0.2.1 rfl (lv_at hl 1 rfl) ?_
  refine lv_ishr hx hb eX10_has_0.2.2.1 ?_
  refine lv_topi (fun v_1 ev_1 => ?_)
  have hp := hp v_1 ev_1
  refine lv_iconst (v := 1) hx hb eX10_has_0.2.2.2.1 ic_1 ?_
  refine lv_iand hx hb eX10_has_0.2.2.2.2.1 ?_
  refine lv_topi (fun v_2 ev_2 => ?_)
  have hp := hp v_2 ev_2
  refine lv_iconst (v := 1) hx hb eX10_has_0.2.2.2.2.2.1 ic_1 ?_
  refine lv_icmp_ne (tgt := 13) hx hb eX10_has_0.2.2.2.2.2.2.1 (by decide) (fun hc => ?_) (fun hc => ?_)
  · have hp := hp.1 hc
    refine lv_iconst (v := 0) hx hb eX10_has_0.2.2.2.2.2.2.2.2.2.1 ic_0 ?_
    exact W.zret (v := 0) hx hb hr rfl (fun t ht hW => ⟨⟨0, (), rfl, hp, by rw [ht]; exact hP, va_K.moved hW.alike hK, hD⟩, hS.F ht⟩) hS.2.2 eX10_has_0.2.2.2.2.2.2.2.2.2.2
  · have hp := hp.2 hc
    refine lv_iconst (v := 1) hx hb eX10_has_0.2.2.2.2.2.2.2.1 ic_1 ?_
    refine lv_goto (tgt := 14) hx hb eX10_has_0.2.2.2.2.2.2.2.2.1 (by decide) ?_
    exact W.zret (v := 1) hx hb hr rfl (fun t ht hW => ⟨⟨1, (), rfl, hp, by rw [ht]; exact hP, va_K.moved hW.alike hK, hD⟩, hS.F ht⟩) hS.2.2 eX10_has_0.2.2.2.2.2.2.2.2.2.2
noncomputable abbrev wd_X10_isBelow (cI cC cZ cB cJ : ClassId) (a_m oJ uD dY iJ lJ jQ jR jW jK pJ bM aY jO gR gY mK jZ iY bG mJ jB mQ lY eJ bY : Nat) (bW aG jG bQ dG : Int32) (jY : Nat) (m_length qG uW eY aJ aB bU dN aR aE bJ aW bT gJ dU bL bR bO mY pW : Int32) (m_x jA : Nat → Int32) : va_W := [(a_m, .inr (10, [.ref oJ, .int bW, .ref uD, .ref dY, .ref iJ, .ref lJ, .int aG, .ref jQ, .ref jR, .ref jW, .ref jK, .int jG, .ref pJ, .int bQ, .int dG, rdv jK jO jY, .int m_length, .int qG, .int uW, .int eY, .ref bM, .ref aY, .int aJ, .int aB, .ref jO, .int bU, .int dN, .int aR, .int aE, .int bJ, .int aW, .ref gR, .int bT, .ref gY, .ref mK, .int gJ, .ref jZ, .int dU, .ref iY, .ref bG, .int bL, .int bR, .int bO, .ref mJ, .ref jB, .ref mQ, .int mY, .int pW, .ref lY, .ref eJ, .ref bY])), (uD, .inl (cI, 16, .inl m_x)), (dY, .inl (cI, 16, .inl jA))]
noncomputable abbrev q_X10_isBelow (dC : Nat → ClassId) (dI : Nat → Nat → Nat) (cI cC cZ cB cJ : ClassId) (A : Nat → Prop) (a_m oJ uD dY iJ lJ jQ jR jW jK pJ bM aY jO gR gY mK jZ iY bG mJ jB mQ lY eJ bY : Nat) (bW aG jG bQ dG : Int32) (jY : Nat) (m_length qG uW eY aJ aB bU dN aR aE bJ aW bT gJ dU bL bR bO mY pW : Int32) (m_x jA : Nat → Int32) (post : Int32 → Prop) : Array Value → State → Outcome → State → Prop := va_Qi (fun (r : Int32) (u : Unit) => post r) (fun u t => gB (dC, dI) (tyl cI cC cZ cB cJ) A (wd_X10_isBelow cI cC cZ cB cJ a_m oJ uD dY iJ lJ jQ jR jW jK pJ bM aY jO gR gY mK jZ iY bG mJ jB mQ lY eJ bY bW aG jG bQ dG jY m_length qG uW eY aJ aB bU dN aR aE bJ aW bT gJ dU bL bR bO mY pW m_x jA) t) A
noncomputable abbrev rm_X10_isBelow : Room := { frames := 1, cells := 0, slots := 0, locals := 21 }
noncomputable def wp_X10_isBelow (post : Int32 → Prop) (p0 p1 : Int32) (m_x jA : Nat → Int32) : Prop := vp_in p1 16 ∧ (∀ v_1 : Int32, v_1 = m_x p1.toNatClampNeg → vp_in p0 16 ∧ (∀ v_2 : Int32, v_2 = v_1 - (m_x p0.toNatClampNeg) → ∀ v_3 : Int32, v_3 = (if 0 ≤ v_2 then v_2 else 0 - v_2) → (1 < v_3 → post 0) ∧ (¬ 1 < v_3 → vp_in p0 16 ∧ (∀ v_4 : Int32, v_4 = jA p0.toNatClampNeg → vp_in p1 16 ∧ (((jA p1.toNatClampNeg) ≤ v_4 → post 0) ∧ (¬ (jA p1.toNatClampNeg) ≤ v_4 → post 1))))))
set_option maxHeartbeats 4000000 in
set_option maxRecDepth 100000 in
theorem c_X10_isBelow (l : Launch) (dC : Nat → ClassId) (dI : Nat → Nat → Nat) (cI cC cZ cB cJ : ClassId) (a_m oJ uD dY iJ lJ jQ jR jW jK pJ bM aY jO gR gY mK jZ iY bG mJ jB mQ lY eJ bY sz : Nat) (p0 p1 bW aG jG bQ dG : Int32) (jY : Nat) (m_length qG uW eY aJ aB bU dN aR aE bJ aW bT gJ dU bL bR bO mY pW : Int32) (m_x jA : Nat → Int32) (post : Int32 → Prop) (hw : wp_X10_isBelow post p0 p1 m_x jA) : Met l yX10_isBelow (gw yX10_isBelow cX10_isBelow 3 (some .boolean)) rm_X10_isBelow (va_Pc [.ref a_m, .int p0, .int p1] (gPre (dC, dI) (tyl cI cC cZ cB cJ) (wd_X10_isBelow cI cC cZ cB cJ a_m oJ uD dY iJ lJ jQ jR jW jK pJ bM aY jO gR gY mK jZ iY bG mJ jB mQ lY eJ bY bW aG jG bQ dG jY m_length qG uW eY aJ aB bU dN aR aE bJ aW bT gJ dU bL bR bO mY pW m_x jA) sz)) (q_X10_isBelow dC dI cI cC cZ cB cJ (va_A (wd_X10_isBelow cI cC cZ cB cJ a_m oJ uD dY iJ lJ jQ jR jW jK pJ bM aY jO gR gY mK jZ iY bG mJ jB mQ lY eJ bY bW aG jG bQ dG jY m_length qG uW eY aJ aB bU dN aR aE bJ aW bT gJ dU bL bR bO mY pW m_x jA) sz) a_m oJ uD dY iJ lJ jQ jR jW jK pJ bM aY jO gR gY mK jZ iY bG mJ jB mQ lY eJ bY bW aG jG bQ dG jY m_length qG uW eY aJ aB bU dN aR aE bJ aW bT gJ dU bL bR bO mY pW m_x jA post) 0 0 (va_A (wd_X10_isBelow cI cC cZ cB cJ a_m oJ uD dY iJ lJ jQ jR jW jK pJ bM aY jO gR gY mK jZ iY bG mJ jB mQ lY eJ bY bW aG jG bQ dG jY m_length qG uW eY aJ aB bU dN aR aE bJ aW bT gJ dU bL bR bO mY pW m_x jA) sz) := by
  refine g_enter (own := RX10) (dC, dI) (tyl cI cC cZ cB cJ) (wd_X10_isBelow cI cC cZ cB cJ a_m oJ uD dY iJ lJ jQ jR jW jK pJ bM aY jO gR gY mK jZ iY bG mJ jB mQ lY eJ bY bW aG jG bQ dG jY m_length qG uW eY aJ aB bU dN aR aE bJ aW bT gJ dU bL bR bO mY pW m_x jA) sz [.ref a_m, .int p0, .int p1] (fun A => q_X10_isBelow dC dI cI cC cZ cB cJ A a_m oJ uD dY iJ lJ jQ jR jW jK pJ bM aY jO gR gY mK jZ iY bG mJ jB mQ lY eJ bY bW aG jG bQ dG jY m_length qG uW eY aJ aB bU dN aR aE bJ aW bT gJ dU bL bR bO mY pW m_x jA post) pn_RX10 rfl (Nat.le_of_ble_eq_true rfl) ?_
  intro p e s m args below meth c A H locs ls C0 hP hD hS hl
  have hl : lv_has ls 3 [(0, .ref a_m), (1, .int p0), (2, .int p1)] := hl
  obtain ⟨hx, hb, hr, hml, hown, hts, hlocks, hA, hK, hN, tL, tM, hZL, hTL, hZM, hTM, hZX⟩ := id C0
  have hp := hw
  unfold wp_X10_isBelow at hp
  refine lv_aload_n hx hb eX10_isBelow_0.1 rfl (lv_at hl 0 rfl) ?_
  refine va_get (D := (dC, dI)) (ci := 10) (v := .ref uD) (C := RX10) (T := TX10) (N := 51) hx hb hts i_X10 hown hK hP 0 rfl rfl 2 (Nat.le_of_ble_eq_true rfl) (hts _ q_688) (fun _ h9 => h9) rfl eX10_isBelow_0.2.1 ?_
  refine lv_iload_n hx hb eX10_isBelow_0.2.2.1 rfl (lv_at hl 2 rfl) ?_
  have hin := hp.1
  have hp := hp.2
  refine va_iald hx hb hK hP 1 0 rfl rfl hin eX10_isBelow_0.2.2.2.1 ?_
  refine lv_topi (fun v_1 ev_1 => ?_)
  have hp := hp v_1 ev_1
  refine lv_aload_n hx hb eX10_isBelow_0.2.2.2.2.1 rfl (lv_at hl 0 rfl) ?_
  refine va_get (D := (dC, dI)) (ci := 10) (v := .ref uD) (C := RX10) (T := TX10) (N := 51) hx hb hts i_X10 hown hK hP 0 rfl rfl 2 (Nat.le_of_ble_eq_true rfl) (hts _ q_688) (fun _ h9 => h9) rfl eX10_isBelow_0.2.2.2.2.2.1 ?_
  refine lv_iload_n hx hb eX10_isBelow_0.2.2.2.2.2.2.1 rfl (lv_at hl 1 rfl) ?_
  have hin := hp.1
  have hp := hp.2
  refine va_iald hx hb hK hP 1 0 rfl rfl hin eX10_isBelow_0.2.2.2.2.2.2.2.1 ?_
  refine lv_isub hx hb eX10_isBelow_0.2.2.2.2.2.2.2.2.1 ?_
  refine lv_topi (fun v_2 ev_2 => ?_)
  have hp := hp v_2 ev_2
  refine va_mabs hx hb (by rw [hml]; exact hl.1.symm) hown (hts _ q_698) (hts _ q_166) (hts _ q_16) (hts _ q_167) (Nat.le_of_ble_eq_true rfl) (Nat.le_of_ble_eq_true rfl) (Nat.zero_le _) (Nat.zero_le _) eX10_isBelow_0.2.2.2.2.2.2.2.2.2.1 ?_
  refine lv_topi (fun v_3 ev_3 => ?_)
  have hp := hp v_3 ev_3
  refine lv_iconst (v := 1) hx hb eX10_isBelow_0.2.2.2.2.2.2.2.2.2.2.1 ic_1 ?_
  refine lv_icmp_gt (tgt := 39) hx hb eX10_isBelow_0.2.2.2.2.2.2.2.2.2.2.2.1 (by decide) (fun hc => ?_) (fun hc => ?_)
  · have hp := hp.1 hc
    refine lv_iconst (v := 0) hx hb eX10_isBelow_26.2.2.2.2.2.2.2.1 ic_0 ?_
    exact W.zret (v := 0) hx hb hr rfl (fun t ht hW => ⟨⟨0, (), rfl, hp, by rw [ht]; exact hP, va_K.moved hW.alike hK, hD⟩, hS.F ht⟩) hS.2.2 eX10_isBelow_26.2.2.2.2.2.2.2.2
  · have hp := hp.2 hc
    refine lv_aload_n hx hb eX10_isBelow_0.2.2.2.2.2.2.2.2.2.2.2.2.1 rfl (lv_at hl 0 rfl) ?_
    refine va_get (D := (dC, dI)) (ci := 10) (v := .ref dY) (C := RX10) (T := TX10) (N := 51) hx hb hts i_X10 hown hK hP 0 rfl rfl 3 (Nat.le_of_ble_eq_true rfl) (hts _ q_689) (fun _ h9 => h9) rfl eX10_isBelow_0.2.2.2.2.2.2.2.2.2.2.2.2.2.1 ?_
    refine lv_iload_n hx hb eX10_isBelow_0.2.2.2.2.2.2.2.2.2.2.2.2.2.2.1 rfl (lv_at hl 1 rfl) ?_
    have hin := hp.1
    have hp := hp.2
    refine va_iald hx hb hK hP 2 0 rfl rfl hin eX10_isBelow_0.2.2.2.2.2.2.2.2.2.2.2.2.2.2.2 ?_
    refine lv_topi (fun v_4 ev_4 => ?_)
    have hp := hp v_4 ev_4
    refine lv_aload_n hx hb eX10_isBelow_26.1 rfl (lv_at hl 0 rfl) ?_
    refine va_get (D := (dC, dI)) (ci := 10) (v := .ref dY) (C := RX10) (T := TX10) (N := 51) hx hb hts i_X10 hown hK hP 0 rfl rfl 3 (Nat.le_of_ble_eq_true rfl) (hts _ q_689) (fun _ h9 => h9) rfl eX10_isBelow_26.2.1 ?_
    refine lv_iload_n hx hb eX10_isBelow_26.2.2.1 rfl (lv_at hl 2 rfl) ?_
    have hin := hp.1
    have hp := hp.2
    refine va_iald hx hb hK hP 2 0 rfl rfl hin eX10_isBelow_26.2.2.2.1 ?_
    refine lv_icmp_ge (tgt := 39) hx hb eX10_isBelow_26.2.2.2.2.1 (by decide) (fun hc => ?_) (fun hc => ?_)
    · have hp := hp.1 hc
      refine lv_iconst (v := 0) hx hb eX10_isBelow_26.2.2.2.2.2.2.2.1 ic_0 ?_
      exact W.zret (v := 0) hx hb hr rfl (fun t ht hW => ⟨⟨0, (), rfl, hp, by rw [ht]; exact hP, va_K.moved hW.alike hK, hD⟩, hS.F ht⟩) hS.2.2 eX10_isBelow_26.2.2.2.2.2.2.2.2
    · have hp := hp.2 hc
      refine lv_iconst (v := 1) hx hb eX10_isBelow_26.2.2.2.2.2.1 ic_1 ?_
      refine lv_goto (tgt := 40) hx hb eX10_isBelow_26.2.2.2.2.2.2.1 (by decide) ?_
      exact W.zret (v := 1) hx hb hr rfl (fun t ht hW => ⟨⟨1, (), rfl, hp, by rw [ht]; exact hP, va_K.moved hW.alike hK, hD⟩, hS.F ht⟩) hS.2.2 eX10_isBelow_26.2.2.2.2.2.2.2.2
noncomputable abbrev wd_X10_below (cI cC cZ cB cJ : ClassId) (a_m oJ uD dY iJ lJ jQ jR jW jK pJ bM aY jO gR gY mK jZ iY bG mJ jB mQ lY eJ bY : Nat) (bW aG jG bQ dG : Int32) (jY : Nat) (m_length qG uW eY aJ aB bU dN aR aE bJ aW bT gJ dU bL bR bO mY pW : Int32) (m_x jA : Nat → Int32) : va_W := [(a_m, .inr (10, [.ref oJ, .int bW, .ref uD, .ref dY, .ref iJ, .ref lJ, .int aG, .ref jQ, .ref jR, .ref jW, .ref jK, .int jG, .ref pJ, .int bQ, .int dG, rdv jK jO jY, .int m_length, .int qG, .int uW, .int eY, .ref bM, .ref aY, .int aJ, .int aB, .ref jO, .int bU, .int dN, .int aR, .int aE, .int bJ, .int aW, .ref gR, .int bT, .ref gY, .ref mK, .int gJ, .ref jZ, .int dU, .ref iY, .ref bG, .int bL, .int bR, .int bO, .ref mJ, .ref jB, .ref mQ, .int mY, .int pW, .ref lY, .ref eJ, .ref bY])), (uD, .inl (cI, 16, .inl m_x)), (dY, .inl (cI, 16, .inl jA))]
noncomputable abbrev q_X10_below (dC : Nat → ClassId) (dI : Nat → Nat → Nat) (cI cC cZ cB cJ : ClassId) (A : Nat → Prop) (a_m oJ uD dY iJ lJ jQ jR jW jK pJ bM aY jO gR gY mK jZ iY bG mJ jB mQ lY eJ bY : Nat) (bW aG jG bQ dG : Int32) (jY : Nat) (m_length qG uW eY aJ aB bU dN aR aE bJ aW bT gJ dU bL bR bO mY pW : Int32) (m_x jA : Nat → Int32) (post : Int32 → Prop) : Array Value → State → Outcome → State → Prop := va_Qi (fun (r : Int32) (u : Unit) => post r) (fun u t => gB (dC, dI) (tyl cI cC cZ cB cJ) A (wd_X10_below cI cC cZ cB cJ a_m oJ uD dY iJ lJ jQ jR jW jK pJ bM aY jO gR gY mK jZ iY bG mJ jB mQ lY eJ bY bW aG jG bQ dG jY m_length qG uW eY aJ aB bU dN aR aE bJ aW bT gJ dU bL bR bO mY pW m_x jA) t) A
noncomputable abbrev rm_X10_below : Room := { frames := 2, cells := 0, slots := 0, locals := 43 }
section S_X10_below
variable {p : Program} {l : Launch} {e : Env} {s : State} {m : MethodId} {args : Array Value} {below : List Frame} {meth : Method} {c : Code} {dC : Nat → ClassId} {dI : Nat → Nat → Nat} {cI cC cZ cB cJ : ClassId} {A : Nat → Prop} {a_m oJ uD dY iJ lJ jQ jR jW jK pJ bM aY jO gR gY mK jZ iY bG mJ jB mQ lY eJ bY : Nat} {bW aG jG bQ dG : Int32} {jY : Nat} {m_length qG uW eY aJ aB bU dN aR aE bJ aW bT gJ dU bL bR bO mY pW : Int32} {m_x jA : Nat → Int32} {post : Int32 → Prop}
noncomputable def ws_X10_below_42 (post : Int32 → Prop) (K5 : Int32 → Int32 → Int32 → Int32 → Prop) (bW : Int32) (m_x jA : Nat → Int32) (x1 x2 x4 k0 k1 : Int32) : Prop := ∀ v_2 : Int32, v_2 = k0 ||| k1 → ∀ v_3 : Int32, v_3 = x4 + 1 → K5 x1 x2 v_2 v_3
set_option maxHeartbeats 4000000 in
set_option maxRecDepth 100000 in
theorem ks_X10_below_42 (C0 : gc cX10_below (some .int) 5 RX10 (dC, dI) (tyl cI cC cZ cB cJ) A p s m args meth c) {K5 : Int32 → Int32 → Int32 → Int32 → Prop} (hK5 : ∀ (x1 : Int32) (x2 : Int32) (x3 : Int32) (x4 : Int32) (H : Heap) (locs : List Loc) (ls : Array Slot), K5 x1 x2 x3 x4 → va_P (dC, dI) classes (wd_X10_below cI cC cZ cB cJ a_m oJ uD dY iJ lJ jQ jR jW jK pJ bM aY jO gR gY mK jZ iY bG mJ jB mQ lY eJ bY bW aG jG bQ dG jY m_length qG uW eY aJ aB bU dN aR aE bJ aW bT gJ dU bL bR bO mY pW m_x jA) H → va_D A (wd_X10_below cI cC cZ cB cJ a_m oJ uD dY iJ lJ jQ jR jW jK pJ bM aY jO gR gY mK jZ iY bG mJ jB mQ lY eJ bY bW aG jG bQ dG jY m_length qG uW eY aJ aB bU dN aR aE bJ aW bT gJ dU bL bR bO mY pW m_x jA) → va_S A s.heap H locs → lv_has ls 5 [(0, .ref a_m), (1, .int x1), (2, .int x2), (3, .int x3), (4, .int x4)] → W p l e rm_X10_below s m args below meth c H locs 0 0 (MQ below (q_X10_below dC dI cI cC cZ cB cJ A a_m oJ uD dY iJ lJ jQ jR jW jK pJ bM aY jO gR gY mK jZ iY bG mJ jB mQ lY eJ bY bW aG jG bQ dG jY m_length qG uW eY aJ aB bU dN aR aE bJ aW bT gJ dU bL bR bO mY pW m_x jA post) args s 0 0 A) (F0 m 5 ls [])) : ∀ (x1 x2 x4 k0 k1 : Int32) (H : Heap) (locs : List Loc) (ls : Array Slot), (ws_X10_below_42 post K5 bW m_x jA) x1 x2 x4 k0 k1 → va_P (dC, dI) classes (wd_X10_below cI cC cZ cB cJ a_m oJ uD dY iJ lJ jQ jR jW jK pJ bM aY jO gR gY mK jZ iY bG mJ jB mQ lY eJ bY bW aG jG bQ dG jY m_length qG uW eY aJ aB bU dN aR aE bJ aW bT gJ dU bL bR bO mY pW m_x jA) H → va_D A (wd_X10_below cI cC cZ cB cJ a_m oJ uD dY iJ lJ jQ jR jW jK pJ bM aY jO gR gY mK jZ iY bG mJ jB mQ lY eJ bY bW aG jG bQ dG jY m_length qG uW eY aJ aB bU dN aR aE bJ aW bT gJ dU bL bR bO mY pW m_x jA) → va_S A s.heap H locs → lv_has ls 5 [(0, .ref a_m), (1, .int x1), (2, .int x2), (4, .int x4)] → W p l e rm_X10_below s m args below meth c H locs 0 0 (MQ below (q_X10_below dC dI cI cC cZ cB cJ A a_m oJ uD dY iJ lJ jQ jR jW jK pJ bM aY jO gR gY mK jZ iY bG mJ jB mQ lY eJ bY bW aG jG bQ dG jY m_length qG uW eY aJ aB bU dN aR aE bJ aW bT gJ dU bL bR bO mY pW m_x jA post) args s 0 0 A) (F0 m 42 ls [.int k1, .int k0]) := by
  obtain ⟨hx, hb, hr, hml, hown, hts, hlocks, hA, hK, hN, tL, tM, hZL, hTL, hZM, hTM, hZX⟩ := id C0
  intro x1 x2 x4 k0 k1 H locs ls hp hP hD hS hl
  unfold ws_X10_below_42 at hp
  refine lv_ior hx hb eX10_below_28.2.2.2.2.2.2.2.1 ?_
  refine lv_topi (fun v_2 ev_2 => ?_)
  have hp := hp v_2 ev_2
  refine lv_istore_n (lv' := [(3, .int v_2), (0, .ref a_m), (1, .int x1), (2, .int x2), (4, .int x4)]) hx hb eX10_below_28.2.2.2.2.2.2.2.2.1 rfl hl (by decide) rfl (fun ls hl => ?_)
  obtain ⟨v_3, ev_3⟩ : ∃ y : Int32, y = x4 + 1 := ⟨_, rfl⟩
  refine lv_iinc (v := v_3) (lv' := [(4, .int v_3), (3, .int v_2), (0, .ref a_m), (1, .int x1), (2, .int x2)]) hx hb eX10_below_28.2.2.2.2.2.2.2.2.2.1 hl (k := 4) rfl (by rw [ev_3]; rfl) (by decide) rfl (fun ls hl => ?_)
  have hp := hp v_3 ev_3
  refine lv_goto (tgt := 5) hx hb eX10_below_28.2.2.2.2.2.2.2.2.2.2.1 (by decide) ?_
  exact hK5 x1 x2 v_2 v_3 H locs ls hp hP hD hS (lv_sub hl [2, 3, 4, 1, 0] rfl)
noncomputable def ws_X10_below_41 (post : Int32 → Prop) (K5 : Int32 → Int32 → Int32 → Int32 → Prop) (bW : Int32) (m_x jA : Nat → Int32) (x1 x2 x4 k0 : Int32) : Prop := ws_X10_below_42 post K5 bW m_x jA x1 x2 x4 k0 0
set_option maxHeartbeats 4000000 in
set_option maxRecDepth 100000 in
theorem ks_X10_below_41 (C0 : gc cX10_below (some .int) 5 RX10 (dC, dI) (tyl cI cC cZ cB cJ) A p s m args meth c) {K5 : Int32 → Int32 → Int32 → Int32 → Prop} (hK5 : ∀ (x1 : Int32) (x2 : Int32) (x3 : Int32) (x4 : Int32) (H : Heap) (locs : List Loc) (ls : Array Slot), K5 x1 x2 x3 x4 → va_P (dC, dI) classes (wd_X10_below cI cC cZ cB cJ a_m oJ uD dY iJ lJ jQ jR jW jK pJ bM aY jO gR gY mK jZ iY bG mJ jB mQ lY eJ bY bW aG jG bQ dG jY m_length qG uW eY aJ aB bU dN aR aE bJ aW bT gJ dU bL bR bO mY pW m_x jA) H → va_D A (wd_X10_below cI cC cZ cB cJ a_m oJ uD dY iJ lJ jQ jR jW jK pJ bM aY jO gR gY mK jZ iY bG mJ jB mQ lY eJ bY bW aG jG bQ dG jY m_length qG uW eY aJ aB bU dN aR aE bJ aW bT gJ dU bL bR bO mY pW m_x jA) → va_S A s.heap H locs → lv_has ls 5 [(0, .ref a_m), (1, .int x1), (2, .int x2), (3, .int x3), (4, .int x4)] → W p l e rm_X10_below s m args below meth c H locs 0 0 (MQ below (q_X10_below dC dI cI cC cZ cB cJ A a_m oJ uD dY iJ lJ jQ jR jW jK pJ bM aY jO gR gY mK jZ iY bG mJ jB mQ lY eJ bY bW aG jG bQ dG jY m_length qG uW eY aJ aB bU dN aR aE bJ aW bT gJ dU bL bR bO mY pW m_x jA post) args s 0 0 A) (F0 m 5 ls [])) : ∀ (x1 x2 x4 k0 : Int32) (H : Heap) (locs : List Loc) (ls : Array Slot), (ws_X10_below_41 post K5 bW m_x jA) x1 x2 x4 k0 → va_P (dC, dI) classes (wd_X10_below cI cC cZ cB cJ a_m oJ uD dY iJ lJ jQ jR jW jK pJ bM aY jO gR gY mK jZ iY bG mJ jB mQ lY eJ bY bW aG jG bQ dG jY m_length qG uW eY aJ aB bU dN aR aE bJ aW bT gJ dU bL bR bO mY pW m_x jA) H → va_D A (wd_X10_below cI cC cZ cB cJ a_m oJ uD dY iJ lJ jQ jR jW jK pJ bM aY jO gR gY mK jZ iY bG mJ jB mQ lY eJ bY bW aG jG bQ dG jY m_length qG uW eY aJ aB bU dN aR aE bJ aW bT gJ dU bL bR bO mY pW m_x jA) → va_S A s.heap H locs → lv_has ls 5 [(0, .ref a_m), (1, .int x1), (2, .int x2), (4, .int x4)] → W p l e rm_X10_below s m args below meth c H locs 0 0 (MQ below (q_X10_below dC dI cI cC cZ cB cJ A a_m oJ uD dY iJ lJ jQ jR jW jK pJ bM aY jO gR gY mK jZ iY bG mJ jB mQ lY eJ bY bW aG jG bQ dG jY m_length qG uW eY aJ aB bU dN aR aE bJ aW bT gJ dU bL bR bO mY pW m_x jA post) args s 0 0 A) (F0 m 41 ls [.int k0]) := by
  obtain ⟨hx, hb, hr, hml, hown, hts, hlocks, hA, hK, hN, tL, tM, hZL, hTL, hZM, hTM, hZX⟩ := id C0
  intro x1 x2 x4 k0 H locs ls hp hP hD hS hl
  unfold ws_X10_below_41 at hp
  refine lv_iconst (v := 0) hx hb eX10_below_28.2.2.2.2.2.2.1 ic_0 ?_
  exact ks_X10_below_42 C0 hK5 x1 x2 x4 k0 0 H locs ls hp hP hD hS (lv_sub hl [0, 1, 2, 3] rfl)
noncomputable def ws_X10_below_5 (post : Int32 → Prop) (next : Int32 → Int32 → Int32 → Int32 → Prop) (bW : Int32) (m_x jA : Nat → Int32) (x1 x2 x3 x4 : Int32) : Prop := (bW ≤ x4 → post x3) ∧ (¬ bW ≤ x4 → wp_X10_has (fun r_1 => (r_1 = 0 → ws_X10_below_41 post next bW m_x jA x1 x2 x4 x3) ∧ (¬ r_1 = 0 → wp_X10_isBelow (fun r_4 => (r_4 = 0 → ws_X10_below_41 post next bW m_x jA x1 x2 x4 x3) ∧ (¬ r_4 = 0 → ∀ v_5 : Int32, v_5 = 1 <<< (x4 &&& 31) → ws_X10_below_42 post next bW m_x jA x1 x2 x4 x3 v_5)) x4 x1 m_x jA)) x2 x4)
noncomputable def wb_X10_below_5 (post : Int32 → Prop) (bW : Int32) (m_x jA : Nat → Int32) : Nat → Int32 → Int32 → Int32 → Int32 → Prop := fun n => Nat.rec (motive := fun _ => Int32 → Int32 → Int32 → Int32 → Prop) (fun _ _ _ _ => False) (fun _ ih => ws_X10_below_5 post ih bW m_x jA) n
set_option maxHeartbeats 4000000 in
set_option maxRecDepth 100000 in
theorem ks_X10_below_5 (C0 : gc cX10_below (some .int) 5 RX10 (dC, dI) (tyl cI cC cZ cB cJ) A p s m args meth c) {next : Int32 → Int32 → Int32 → Int32 → Prop} (hKn : ∀ (x1 : Int32) (x2 : Int32) (x3 : Int32) (x4 : Int32) (H : Heap) (locs : List Loc) (ls : Array Slot), next x1 x2 x3 x4 → va_P (dC, dI) classes (wd_X10_below cI cC cZ cB cJ a_m oJ uD dY iJ lJ jQ jR jW jK pJ bM aY jO gR gY mK jZ iY bG mJ jB mQ lY eJ bY bW aG jG bQ dG jY m_length qG uW eY aJ aB bU dN aR aE bJ aW bT gJ dU bL bR bO mY pW m_x jA) H → va_D A (wd_X10_below cI cC cZ cB cJ a_m oJ uD dY iJ lJ jQ jR jW jK pJ bM aY jO gR gY mK jZ iY bG mJ jB mQ lY eJ bY bW aG jG bQ dG jY m_length qG uW eY aJ aB bU dN aR aE bJ aW bT gJ dU bL bR bO mY pW m_x jA) → va_S A s.heap H locs → lv_has ls 5 [(0, .ref a_m), (1, .int x1), (2, .int x2), (3, .int x3), (4, .int x4)] → W p l e rm_X10_below s m args below meth c H locs 0 0 (MQ below (q_X10_below dC dI cI cC cZ cB cJ A a_m oJ uD dY iJ lJ jQ jR jW jK pJ bM aY jO gR gY mK jZ iY bG mJ jB mQ lY eJ bY bW aG jG bQ dG jY m_length qG uW eY aJ aB bU dN aR aE bJ aW bT gJ dU bL bR bO mY pW m_x jA post) args s 0 0 A) (F0 m 5 ls [])) : ∀ (x1 x2 x3 x4 : Int32) (H : Heap) (locs : List Loc) (ls : Array Slot), (ws_X10_below_5 post next bW m_x jA) x1 x2 x3 x4 → va_P (dC, dI) classes (wd_X10_below cI cC cZ cB cJ a_m oJ uD dY iJ lJ jQ jR jW jK pJ bM aY jO gR gY mK jZ iY bG mJ jB mQ lY eJ bY bW aG jG bQ dG jY m_length qG uW eY aJ aB bU dN aR aE bJ aW bT gJ dU bL bR bO mY pW m_x jA) H → va_D A (wd_X10_below cI cC cZ cB cJ a_m oJ uD dY iJ lJ jQ jR jW jK pJ bM aY jO gR gY mK jZ iY bG mJ jB mQ lY eJ bY bW aG jG bQ dG jY m_length qG uW eY aJ aB bU dN aR aE bJ aW bT gJ dU bL bR bO mY pW m_x jA) → va_S A s.heap H locs → lv_has ls 5 [(0, .ref a_m), (1, .int x1), (2, .int x2), (3, .int x3), (4, .int x4)] → W p l e rm_X10_below s m args below meth c H locs 0 0 (MQ below (q_X10_below dC dI cI cC cZ cB cJ A a_m oJ uD dY iJ lJ jQ jR jW jK pJ bM aY jO gR gY mK jZ iY bG mJ jB mQ lY eJ bY bW aG jG bQ dG jY m_length qG uW eY aJ aB bU dN aR aE bJ aW bT gJ dU bL bR bO mY pW m_x jA post) args s 0 0 A) (F0 m 5 ls []) := by
  obtain ⟨hx, hb, hr, hml, hown, hts, hlocks, hA, hK, hN, tL, tM, hZL, hTL, hZM, hTM, hZX⟩ := id C0
  intro x1 x2 x3 x4 H locs ls hp hP hD hS hl
  unfold ws_X10_below_5 at hp
  refine lv_iload hx hb eX10_below_0.2.2.2.2.1 (lv_at hl 4 rfl) ?_
  refine lv_aload_n hx hb eX10_below_0.2.2.2.2.2.1 rfl (lv_at hl 0 rfl) ?_
  refine va_get (D := (dC, dI)) (ci := 10) (v := .int bW) (C := RX10) (T := TX10) (N := 51) hx hb hts i_X10 hown hK hP 0 rfl rfl 1 (Nat.le_of_ble_eq_true rfl) (hts _ q_677) (fun _ h9 => h9) rfl eX10_below_0.2.2.2.2.2.2.1 ?_
  refine lv_icmp_ge (tgt := 50) hx hb eX10_below_0.2.2.2.2.2.2.2.1 (by decide) (fun hc => ?_) (fun hc => ?_)
  · have hp := hp.1 hc
    refine lv_iload_n hx hb eX10_below_28.2.2.2.2.2.2.2.2.2.2.2.1 rfl (lv_at hl 3 rfl) ?_
    exact W.iret (v := x3) hx hb hr (fun t ht hW => ⟨⟨x3, (), rfl, hp, by rw [ht]; exact hP, va_K.moved hW.alike hK, hD⟩, hS.F ht⟩) hS.2.2 eX10_below_28.2.2.2.2.2.2.2.2.2.2.2.2
  · have hp := hp.2 hc
    refine lv_iload_n hx hb eX10_below_0.2.2.2.2.2.2.2.2.1 rfl (lv_at hl 3 rfl) ?_
    refine lv_iload_n hx hb eX10_below_0.2.2.2.2.2.2.2.2.2.1 rfl (lv_at hl 2 rfl) ?_
    refine lv_iload hx hb eX10_below_0.2.2.2.2.2.2.2.2.2.2.1 (lv_at hl 4 rfl) ?_
    have hm := mgk (wc := (wd_X10_has cI cC cZ cB cJ)) hP aGv 3 rfl rfl rfl
    refine g_calli hP hD hS hA (mixT aGv) (mixF aGv) hm.1 hm.2 (nd_F _) (dis_g _) (g_runS (As := [.int x2, .int x4]) (rest := [.int x3]) C0 hP hD hS (mixT aGv) hm.1 (nd_T _) (c_X10_has l dC dI cI cC cZ cB cJ H.size x2 x4 _ hp) q_734 q_736 q_735 q_642 h_X10_has rfl rfl ⟨Nat.le_of_ble_eq_true rfl, Nat.le_of_ble_eq_true rfl⟩ rfl rfl hl.1 rfl (lv_room (Nat.le_of_ble_eq_true rfl)) eX10_below_0.2.2.2.2.2.2.2.2.2.2.2.1 ⟨Nat.zero_le _, Nat.zero_le _⟩) (fun r_1 u H locs hp hP hD hS => ?_)
    have hPD := PDm (ws' := (wd_X10_below cI cC cZ cB cJ a_m oJ uD dY iJ lJ jQ jR jW jK pJ bM aY jO gR gY mK jZ iY bG mJ jB mQ lY eJ bY bW aG jG bQ dG jY m_length qG uW eY aJ aB bU dN aR aE bJ aW bT gJ dU bL bR bO mY pW m_x jA)) hP hD 3 rfl rfl rfl
    have hP := hPD.1
    have hD := hPD.2
    refine lv_if_eq (tgt := 41) hx hb eX10_below_0.2.2.2.2.2.2.2.2.2.2.2.2.1 (by decide) (fun hc => ?_) (fun hc => ?_)
    · have hp := hp.1 hc
      exact ks_X10_below_41 C0 hKn x1 x2 x4 x3 H locs ls hp hP hD hS (lv_sub hl [0, 1, 2, 4] rfl)
    · have hp := hp.2 hc
      refine lv_aload_n hx hb eX10_below_0.2.2.2.2.2.2.2.2.2.2.2.2.2.1 rfl (lv_at hl 0 rfl) ?_
      refine lv_iload hx hb eX10_below_0.2.2.2.2.2.2.2.2.2.2.2.2.2.2.1 (lv_at hl 4 rfl) ?_
      refine lv_iload_n hx hb eX10_below_0.2.2.2.2.2.2.2.2.2.2.2.2.2.2.2 rfl (lv_at hl 1 rfl) ?_
      have hm := mgk (wc := (wd_X10_isBelow cI cC cZ cB cJ a_m oJ uD dY iJ lJ jQ jR jW jK pJ bM aY jO gR gY mK jZ iY bG mJ jB mQ lY eJ bY bW aG jG bQ dG jY m_length qG uW eY aJ aB bU dN aR aE bJ aW bT gJ dU bL bR bO mY pW m_x jA)) hP aBD 3 rfl rfl rfl
      refine g_calli hP hD hS hA (mixT aBD) (mixF aBD) hm.1 hm.2 (nd_F _) (dis_g _) (g_runV (As := [.int x4, .int x1]) (rest := [.int x3]) C0 hP hD hS (mixT aBD) hm.1 (nd_T _) 0 10 rfl rfl (c_X10_isBelow l dC dI cI cC cZ cB cJ a_m oJ uD dY iJ lJ jQ jR jW jK pJ bM aY jO gR gY mK jZ iY bG mJ jB mQ lY eJ bY H.size x4 x1 bW aG jG bQ dG jY m_length qG uW eY aJ aB bU dN aR aE bJ aW bT gJ dU bL bR bO mY pW m_x jA _ hp) q_737 q_740 q_738 q_739 q_642 h_X10_isBelow rfl rfl ⟨Nat.le_of_ble_eq_true rfl, Nat.le_of_ble_eq_true rfl⟩ rfl rfl hl.1 rfl (lv_room (Nat.le_of_ble_eq_true rfl)) eX10_below_28.1 ⟨Nat.zero_le _, Nat.zero_le _⟩) (fun r_4 u H locs hp hP hD hS => ?_)
      have hPD := PDm (ws' := (wd_X10_below cI cC cZ cB cJ a_m oJ uD dY iJ lJ jQ jR jW jK pJ bM aY jO gR gY mK jZ iY bG mJ jB mQ lY eJ bY bW aG jG bQ dG jY m_length qG uW eY aJ aB bU dN aR aE bJ aW bT gJ dU bL bR bO mY pW m_x jA)) hP hD 3 rfl rfl rfl
      have hP := hPD.1
      have hD := hPD.2
      refine lv_if_eq (tgt := 41) hx hb eX10_below_28.2.1 (by decide) (fun hc => ?_) (fun hc => ?_)
      · have hp := hp.1 hc
        exact ks_X10_below_41 C0 hKn x1 x2 x4 x3 H locs ls hp hP hD hS (lv_sub hl [0, 1, 2, 4] rfl)
      · have hp := hp.2 hc
        refine lv_iconst (v := 1) hx hb eX10_below_28.2.2.1 ic_1 ?_
        refine lv_iload hx hb eX10_below_28.2.2.2.1 (lv_at hl 4 rfl) ?_
        refine lv_ishl hx hb eX10_below_28.2.2.2.2.1 ?_
        refine lv_topi (fun v_5 ev_5 => ?_)
        have hp := hp v_5 ev_5
        refine lv_goto (tgt := 42) hx hb eX10_below_28.2.2.2.2.2.1 (by decide) ?_
        exact ks_X10_below_42 C0 hKn x1 x2 x4 x3 v_5 H locs ls hp hP hD hS (lv_sub hl [0, 1, 2, 4] rfl)
set_option maxHeartbeats 4000000 in
set_option maxRecDepth 100000 in
theorem kb_X10_below_5 (C0 : gc cX10_below (some .int) 5 RX10 (dC, dI) (tyl cI cC cZ cB cJ) A p s m args meth c) : ∀ (n : Nat), ∀ (x1 x2 x3 x4 : Int32) (H : Heap) (locs : List Loc) (ls : Array Slot), (wb_X10_below_5 post bW m_x jA n) x1 x2 x3 x4 → va_P (dC, dI) classes (wd_X10_below cI cC cZ cB cJ a_m oJ uD dY iJ lJ jQ jR jW jK pJ bM aY jO gR gY mK jZ iY bG mJ jB mQ lY eJ bY bW aG jG bQ dG jY m_length qG uW eY aJ aB bU dN aR aE bJ aW bT gJ dU bL bR bO mY pW m_x jA) H → va_D A (wd_X10_below cI cC cZ cB cJ a_m oJ uD dY iJ lJ jQ jR jW jK pJ bM aY jO gR gY mK jZ iY bG mJ jB mQ lY eJ bY bW aG jG bQ dG jY m_length qG uW eY aJ aB bU dN aR aE bJ aW bT gJ dU bL bR bO mY pW m_x jA) → va_S A s.heap H locs → lv_has ls 5 [(0, .ref a_m), (1, .int x1), (2, .int x2), (3, .int x3), (4, .int x4)] → W p l e rm_X10_below s m args below meth c H locs 0 0 (MQ below (q_X10_below dC dI cI cC cZ cB cJ A a_m oJ uD dY iJ lJ jQ jR jW jK pJ bM aY jO gR gY mK jZ iY bG mJ jB mQ lY eJ bY bW aG jG bQ dG jY m_length qG uW eY aJ aB bU dN aR aE bJ aW bT gJ dU bL bR bO mY pW m_x jA post) args s 0 0 A) (F0 m 5 ls []) := by
  intro n
  induction n with
  | zero =>
    intro x1 x2 x3 x4 H locs ls hp
    exact False.elim hp
  | succ n ih =>
    intro x1 x2 x3 x4 H locs ls hp
    exact ks_X10_below_5 C0 ih x1 x2 x3 x4 H locs ls hp
end S_X10_below
noncomputable def wp_X10_below (post : Int32 → Prop) (p0 p1 bW : Int32) (m_x jA : Nat → Int32) : Prop := ∃ n : Nat, wb_X10_below_5 post bW m_x jA n p0 p1 0 0
set_option maxHeartbeats 4000000 in
set_option maxRecDepth 100000 in
theorem c_X10_below (l : Launch) (dC : Nat → ClassId) (dI : Nat → Nat → Nat) (cI cC cZ cB cJ : ClassId) (a_m oJ uD dY iJ lJ jQ jR jW jK pJ bM aY jO gR gY mK jZ iY bG mJ jB mQ lY eJ bY sz : Nat) (p0 p1 bW aG jG bQ dG : Int32) (jY : Nat) (m_length qG uW eY aJ aB bU dN aR aE bJ aW bT gJ dU bL bR bO mY pW : Int32) (m_x jA : Nat → Int32) (post : Int32 → Prop) (hw : wp_X10_below post p0 p1 bW m_x jA) : Met l yX10_below (gw yX10_below cX10_below 5 (some .int)) rm_X10_below (va_Pc [.ref a_m, .int p0, .int p1] (gPre (dC, dI) (tyl cI cC cZ cB cJ) (wd_X10_below cI cC cZ cB cJ a_m oJ uD dY iJ lJ jQ jR jW jK pJ bM aY jO gR gY mK jZ iY bG mJ jB mQ lY eJ bY bW aG jG bQ dG jY m_length qG uW eY aJ aB bU dN aR aE bJ aW bT gJ dU bL bR bO mY pW m_x jA) sz)) (q_X10_below dC dI cI cC cZ cB cJ (va_A (wd_X10_below cI cC cZ cB cJ a_m oJ uD dY iJ lJ jQ jR jW jK pJ bM aY jO gR gY mK jZ iY bG mJ jB mQ lY eJ bY bW aG jG bQ dG jY m_length qG uW eY aJ aB bU dN aR aE bJ aW bT gJ dU bL bR bO mY pW m_x jA) sz) a_m oJ uD dY iJ lJ jQ jR jW jK pJ bM aY jO gR gY mK jZ iY bG mJ jB mQ lY eJ bY bW aG jG bQ dG jY m_length qG uW eY aJ aB bU dN aR aE bJ aW bT gJ dU bL bR bO mY pW m_x jA post) 0 0 (va_A (wd_X10_below cI cC cZ cB cJ a_m oJ uD dY iJ lJ jQ jR jW jK pJ bM aY jO gR gY mK jZ iY bG mJ jB mQ lY eJ bY bW aG jG bQ dG jY m_length qG uW eY aJ aB bU dN aR aE bJ aW bT gJ dU bL bR bO mY pW m_x jA) sz) := by
  refine g_enter (own := RX10) (dC, dI) (tyl cI cC cZ cB cJ) (wd_X10_below cI cC cZ cB cJ a_m oJ uD dY iJ lJ jQ jR jW jK pJ bM aY jO gR gY mK jZ iY bG mJ jB mQ lY eJ bY bW aG jG bQ dG jY m_length qG uW eY aJ aB bU dN aR aE bJ aW bT gJ dU bL bR bO mY pW m_x jA) sz [.ref a_m, .int p0, .int p1] (fun A => q_X10_below dC dI cI cC cZ cB cJ A a_m oJ uD dY iJ lJ jQ jR jW jK pJ bM aY jO gR gY mK jZ iY bG mJ jB mQ lY eJ bY bW aG jG bQ dG jY m_length qG uW eY aJ aB bU dN aR aE bJ aW bT gJ dU bL bR bO mY pW m_x jA post) pn_RX10 rfl (Nat.le_of_ble_eq_true rfl) ?_
  intro p e s m args below meth c A H locs ls C0 hP hD hS hl
  have hl : lv_has ls 5 [(0, .ref a_m), (1, .int p0), (2, .int p1)] := hl
  obtain ⟨hx, hb, hr, hml, hown, hts, hlocks, hA, hK, hN, tL, tM, hZL, hTL, hZM, hTM, hZX⟩ := id C0
  have hp := hw
  unfold wp_X10_below at hp
  refine lv_iconst (v := 0) hx hb eX10_below_0.1 ic_0 ?_
  refine lv_istore_n (lv' := [(3, .int 0), (0, .ref a_m), (1, .int p0), (2, .int p1)]) hx hb eX10_below_0.2.1 rfl hl (by decide) rfl (fun ls hl => ?_)
  refine lv_iconst (v := 0) hx hb eX10_below_0.2.2.1 ic_0 ?_
  refine lv_istore (lv' := [(4, .int 0), (3, .int 0), (0, .ref a_m), (1, .int p0), (2, .int p1)]) hx hb eX10_below_0.2.2.2.1 hl (by decide) rfl (fun ls hl => ?_)
  obtain ⟨n9, hp⟩ := hp
  exact kb_X10_below_5 C0 n9 p0 p1 0 0 H locs ls hp hP hD hS (lv_sub hl [2, 3, 4, 1, 0] rfl)
noncomputable abbrev wd_X10_lost (cI cC cZ cB cJ : ClassId) (a_m oJ uD dY iJ lJ jQ jR jW jK pJ bM aY jO gR gY mK jZ iY bG mJ jB mQ lY eJ bY : Nat) (bW aG jG bQ dG : Int32) (jY : Nat) (m_length qG uW eY aJ aB bU dN aR aE bJ aW bT gJ dU bL bR bO mY pW : Int32) : va_W := [(a_m, .inr (10, [.ref oJ, .int bW, .ref uD, .ref dY, .ref iJ, .ref lJ, .int aG, .ref jQ, .ref jR, .ref jW, .ref jK, .int jG, .ref pJ, .int bQ, .int dG, rdv jK jO jY, .int m_length, .int qG, .int uW, .int eY, .ref bM, .ref aY, .int aJ, .int aB, .ref jO, .int bU, .int dN, .int aR, .int aE, .int bJ, .int aW, .ref gR, .int bT, .ref gY, .ref mK, .int gJ, .ref jZ, .int dU, .ref iY, .ref bG, .int bL, .int bR, .int bO, .ref mJ, .ref jB, .ref mQ, .int mY, .int pW, .ref lY, .ref eJ, .ref bY]))]
noncomputable abbrev q_X10_lost (dC : Nat → ClassId) (dI : Nat → Nat → Nat) (cI cC cZ cB cJ : ClassId) (A : Nat → Prop) (a_m oJ uD dY iJ lJ jQ jR jW jK pJ bM aY jO gR gY mK jZ iY bG mJ jB mQ lY eJ bY : Nat) (bW aG jG bQ : Int32) (jY : Nat) (m_length qG uW eY aJ aB bU dN aR aE bJ aW bT gJ dU bL bR bO mY pW : Int32) (post : Int32 → Int32 → Prop) : Array Value → State → Outcome → State → Prop := va_Qi (fun (r u : Int32) => post r u) (fun u t => gB (dC, dI) (tyl cI cC cZ cB cJ) A (wd_X10_lost cI cC cZ cB cJ a_m oJ uD dY iJ lJ jQ jR jW jK pJ bM aY jO gR gY mK jZ iY bG mJ jB mQ lY eJ bY bW aG jG bQ u jY m_length qG uW eY aJ aB bU dN aR aE bJ aW bT gJ dU bL bR bO mY pW) t) A
noncomputable abbrev rm_X10_lost : Room := { frames := 0, cells := 0, slots := 0, locals := 0 }
noncomputable def wp_X10_lost (post : Int32 → Int32 → Prop) (dG : Int32) : Prop := post 0 1
set_option maxHeartbeats 4000000 in
set_option maxRecDepth 100000 in
theorem c_X10_lost (l : Launch) (dC : Nat → ClassId) (dI : Nat → Nat → Nat) (cI cC cZ cB cJ : ClassId) (a_m oJ uD dY iJ lJ jQ jR jW jK pJ bM aY jO gR gY mK jZ iY bG mJ jB mQ lY eJ bY sz : Nat) (bW aG jG bQ dG : Int32) (jY : Nat) (m_length qG uW eY aJ aB bU dN aR aE bJ aW bT gJ dU bL bR bO mY pW : Int32) (post : Int32 → Int32 → Prop) (hw : wp_X10_lost post dG) : Met l yX10_lost (gw yX10_lost cX10_lost 1 (some .int)) rm_X10_lost (va_Pc [.ref a_m] (gPre (dC, dI) (tyl cI cC cZ cB cJ) (wd_X10_lost cI cC cZ cB cJ a_m oJ uD dY iJ lJ jQ jR jW jK pJ bM aY jO gR gY mK jZ iY bG mJ jB mQ lY eJ bY bW aG jG bQ dG jY m_length qG uW eY aJ aB bU dN aR aE bJ aW bT gJ dU bL bR bO mY pW) sz)) (q_X10_lost dC dI cI cC cZ cB cJ (va_A (wd_X10_lost cI cC cZ cB cJ a_m oJ uD dY iJ lJ jQ jR jW jK pJ bM aY jO gR gY mK jZ iY bG mJ jB mQ lY eJ bY bW aG jG bQ dG jY m_length qG uW eY aJ aB bU dN aR aE bJ aW bT gJ dU bL bR bO mY pW) sz) a_m oJ uD dY iJ lJ jQ jR jW jK pJ bM aY jO gR gY mK jZ iY bG mJ jB mQ lY eJ bY bW aG jG bQ jY m_length qG uW eY aJ aB bU dN aR aE bJ aW bT gJ dU bL bR bO mY pW post) 0 0 (va_A (wd_X10_lost cI cC cZ cB cJ a_m oJ uD dY iJ lJ jQ jR jW jK pJ bM aY jO gR gY mK jZ iY bG mJ jB mQ lY eJ bY bW aG jG bQ dG jY m_length qG uW eY aJ aB bU dN aR aE bJ aW bT gJ dU bL bR bO mY pW) sz) := by
  refine g_enter (own := RX10) (dC, dI) (tyl cI cC cZ cB cJ) (wd_X10_lost cI cC cZ cB cJ a_m oJ uD dY iJ lJ jQ jR jW jK pJ bM aY jO gR gY mK jZ iY bG mJ jB mQ lY eJ bY bW aG jG bQ dG jY m_length qG uW eY aJ aB bU dN aR aE bJ aW bT gJ dU bL bR bO mY pW) sz [.ref a_m] (fun A => q_X10_lost dC dI cI cC cZ cB cJ A a_m oJ uD dY iJ lJ jQ jR jW jK pJ bM aY jO gR gY mK jZ iY bG mJ jB mQ lY eJ bY bW aG jG bQ jY m_length qG uW eY aJ aB bU dN aR aE bJ aW bT gJ dU bL bR bO mY pW post) pn_RX10 rfl (Nat.le_of_ble_eq_true rfl) ?_
  intro p e s m args below meth c A H locs ls C0 hP hD hS hl
  have hl : lv_has ls 1 [(0, .ref a_m)] := hl
  obtain ⟨hx, hb, hr, hml, hown, hts, hlocks, hA, hK, hN, tL, tM, hZL, hTL, hZM, hTM, hZX⟩ := id C0
  have hp := hw
  unfold wp_X10_lost at hp
  refine lv_aload_n hx hb eX10_lost_0.1 rfl (lv_at hl 0 rfl) ?_
  refine lv_iconst (v := 1) hx hb eX10_lost_0.2.1 ic_1 ?_
  refine va_put (D := (dC, dI)) (ci := 10) (v := .int 1) (ty := .int) (C := RX10) (T := TX10) (N := 51) hx hb hts i_X10 tyX10 tyX10_ok nmX10 hown hK hP hD hS 0 rfl rfl 14 (Nat.le_of_ble_eq_true rfl) (hts _ q_638) (fun _ h9 => h9) rfl (tyX10_ok 14 (Nat.le_of_ble_eq_true rfl)) rfl rfl (Nat.le_of_ble_eq_true rfl) eX10_lost_0.2.2.1 (fun H locs hP hD hS => ?_)
  have hP : va_P (dC, dI) classes (wd_X10_lost cI cC cZ cB cJ a_m oJ uD dY iJ lJ jQ jR jW jK pJ bM aY jO gR gY mK jZ iY bG mJ jB mQ lY eJ bY bW aG jG bQ 1 jY m_length qG uW eY aJ aB bU dN aR aE bJ aW bT gJ dU bL bR bO mY pW) H := hP
  have hD : va_D A (wd_X10_lost cI cC cZ cB cJ a_m oJ uD dY iJ lJ jQ jR jW jK pJ bM aY jO gR gY mK jZ iY bG mJ jB mQ lY eJ bY bW aG jG bQ 1 jY m_length qG uW eY aJ aB bU dN aR aE bJ aW bT gJ dU bL bR bO mY pW) := hD
  refine lv_iconst (v := 0) hx hb eX10_lost_0.2.2.2.1 ic_0 ?_
  exact W.iret (v := 0) hx hb hr (fun t ht hW => ⟨⟨0, 1, rfl, hp, by rw [ht]; exact hP, va_K.moved hW.alike hK, hD⟩, hS.F ht⟩) hS.2.2 eX10_lost_0.2.2.2.2
noncomputable abbrev wd_X10_fruit (cI cC cZ cB cJ : ClassId) (a_m oJ uD dY iJ lJ jQ jR jW jK pJ bM aY jO gR gY mK jZ iY bG mJ jB mQ lY eJ bY : Nat) (bW aG jG bQ dG : Int32) (jY : Nat) (m_length qG uW eY aJ aB bU dN aR aE bJ aW bT gJ dU bL bR bO mY pW : Int32) (rD m_x jA pY rW : Nat → Int32) : va_W := [(a_m, .inr (10, [.ref oJ, .int bW, .ref uD, .ref dY, .ref iJ, .ref lJ, .int aG, .ref jQ, .ref jR, .ref jW, .ref jK, .int jG, .ref pJ, .int bQ, .int dG, rdv jK jO jY, .int m_length, .int qG, .int uW, .int eY, .ref bM, .ref aY, .int aJ, .int aB, .ref jO, .int bU, .int dN, .int aR, .int aE, .int bJ, .int aW, .ref gR, .int bT, .ref gY, .ref mK, .int gJ, .ref jZ, .int dU, .ref iY, .ref bG, .int bL, .int bR, .int bO, .ref mJ, .ref jB, .ref mQ, .int mY, .int pW, .ref lY, .ref eJ, .ref bY])), (oJ, .inl (cI, 21, .inl rD)), (uD, .inl (cI, 16, .inl m_x)), (dY, .inl (cI, 16, .inl jA)), (iJ, .inl (cI, 16, .inl pY)), (lJ, .inl (cI, 16, .inl rW))]
noncomputable abbrev q_X10_fruit (dC : Nat → ClassId) (dI : Nat → Nat → Nat) (cI cC cZ cB cJ : ClassId) (A : Nat → Prop) (a_m oJ uD dY iJ lJ jQ jR jW jK pJ bM aY jO gR gY mK jZ iY bG mJ jB mQ lY eJ bY : Nat) (bW aG jG bQ : Int32) (jY : Nat) (m_length qG uW eY aJ aB bU dN aR aE bJ aW bT gJ dU bL bR bO mY pW : Int32) (rD m_x jA pY rW : Nat → Int32) (post : Int32 → Int32 → Prop) : Array Value → State → Outcome → State → Prop := va_Qi (fun (r u : Int32) => post r u) (fun u t => gB (dC, dI) (tyl cI cC cZ cB cJ) A (wd_X10_fruit cI cC cZ cB cJ a_m oJ uD dY iJ lJ jQ jR jW jK pJ bM aY jO gR gY mK jZ iY bG mJ jB mQ lY eJ bY bW aG jG bQ u jY m_length qG uW eY aJ aB bU dN aR aE bJ aW bT gJ dU bL bR bO mY pW rD m_x jA pY rW) t) A
noncomputable abbrev rm_X10_fruit : Room := { frames := 3, cells := 0, slots := 0, locals := 67 }
section S_X10_fruit
variable {p : Program} {l : Launch} {e : Env} {s : State} {m : MethodId} {args : Array Value} {below : List Frame} {meth : Method} {c : Code} {dC : Nat → ClassId} {dI : Nat → Nat → Nat} {cI cC cZ cB cJ : ClassId} {A : Nat → Prop} {a_m oJ uD dY iJ lJ jQ jR jW jK pJ bM aY jO gR gY mK jZ iY bG mJ jB mQ lY eJ bY : Nat} {bW aG jG bQ : Int32} {jY : Nat} {m_length qG uW eY aJ aB bU dN aR aE bJ aW bT gJ dU bL bR bO mY pW : Int32} {rD m_x jA pY rW : Nat → Int32} {post : Int32 → Int32 → Prop}
noncomputable def ws_X10_fruit_23 (post : Int32 → Int32 → Prop) (bW : Int32) (rD m_x jA pY rW : Nat → Int32) (dG : Int32) : Prop := wp_X10_lost (fun r_2 aHO => post r_2 aHO) dG
set_option maxHeartbeats 4000000 in
set_option maxRecDepth 100000 in
theorem ks_X10_fruit_23 (C0 : gc cX10_fruit (some .int) 3 RX10 (dC, dI) (tyl cI cC cZ cB cJ) A p s m args meth c) : ∀ (dG : Int32) (H : Heap) (locs : List Loc) (ls : Array Slot), (ws_X10_fruit_23 post bW rD m_x jA pY rW) dG → va_P (dC, dI) classes (wd_X10_fruit cI cC cZ cB cJ a_m oJ uD dY iJ lJ jQ jR jW jK pJ bM aY jO gR gY mK jZ iY bG mJ jB mQ lY eJ bY bW aG jG bQ dG jY m_length qG uW eY aJ aB bU dN aR aE bJ aW bT gJ dU bL bR bO mY pW rD m_x jA pY rW) H → va_D A (wd_X10_fruit cI cC cZ cB cJ a_m oJ uD dY iJ lJ jQ jR jW jK pJ bM aY jO gR gY mK jZ iY bG mJ jB mQ lY eJ bY bW aG jG bQ dG jY m_length qG uW eY aJ aB bU dN aR aE bJ aW bT gJ dU bL bR bO mY pW rD m_x jA pY rW) → va_S A s.heap H locs → lv_has ls 3 [(0, .ref a_m)] → W p l e rm_X10_fruit s m args below meth c H locs 0 0 (MQ below (q_X10_fruit dC dI cI cC cZ cB cJ A a_m oJ uD dY iJ lJ jQ jR jW jK pJ bM aY jO gR gY mK jZ iY bG mJ jB mQ lY eJ bY bW aG jG bQ jY m_length qG uW eY aJ aB bU dN aR aE bJ aW bT gJ dU bL bR bO mY pW rD m_x jA pY rW post) args s 0 0 A) (F0 m 23 ls []) := by
  obtain ⟨hx, hb, hr, hml, hown, hts, hlocks, hA, hK, hN, tL, tM, hZL, hTL, hZM, hTM, hZX⟩ := id C0
  intro dG H locs ls hp hP hD hS hl
  unfold ws_X10_fruit_23 at hp
  refine lv_aload_n hx hb eX10_fruit_0.2.2.2.2.2.2.2.2.2.2.2.2.1 rfl (lv_at hl 0 rfl) ?_
  have hm := mgk (wc := (wd_X10_lost cI cC cZ cB cJ a_m oJ uD dY iJ lJ jQ jR jW jK pJ bM aY jO gR gY mK jZ iY bG mJ jB mQ lY eJ bY bW aG jG bQ dG jY m_length qG uW eY aJ aB bU dN aR aE bJ aW bT gJ dU bL bR bO mY pW)) hP mk_24 6 rfl rfl rfl
  refine g_calli hP hD hS hA (mixT mk_24) (mixF mk_24) hm.1 hm.2 (nd_F _) (dis_g _) (g_runV (As := []) (rest := []) C0 hP hD hS (mixT mk_24) hm.1 (nd_T _) 0 10 rfl rfl (c_X10_lost l dC dI cI cC cZ cB cJ a_m oJ uD dY iJ lJ jQ jR jW jK pJ bM aY jO gR gY mK jZ iY bG mJ jB mQ lY eJ bY H.size bW aG jG bQ dG jY m_length qG uW eY aJ aB bU dN aR aE bJ aW bT gJ dU bL bR bO mY pW _ hp) q_745 q_748 q_746 q_747 q_642 h_X10_lost rfl rfl ⟨Nat.le_of_ble_eq_true rfl, Nat.le_of_ble_eq_true rfl⟩ rfl rfl hl.1 rfl (lv_room (Nat.le_of_ble_eq_true rfl)) eX10_fruit_0.2.2.2.2.2.2.2.2.2.2.2.2.2.1 ⟨Nat.zero_le _, Nat.zero_le _⟩) (fun r_2 u H locs hp hP hD hS => ?_)
  obtain ⟨aHO, rfl⟩ : ∃ z, z = u := ⟨_, rfl⟩
  have hPD := PDm (ws' := (wd_X10_fruit cI cC cZ cB cJ a_m oJ uD dY iJ lJ jQ jR jW jK pJ bM aY jO gR gY mK jZ iY bG mJ jB mQ lY eJ bY bW aG jG bQ aHO jY m_length qG uW eY aJ aB bU dN aR aE bJ aW bT gJ dU bL bR bO mY pW rD m_x jA pY rW)) hP hD 6 rfl rfl rfl
  have hP := hPD.1
  have hD := hPD.2
  exact W.iret (v := r_2) hx hb hr (fun t ht hW => ⟨⟨r_2, aHO, rfl, hp, by rw [ht]; exact hP, va_K.moved hW.alike hK, hD⟩, hS.F ht⟩) hS.2.2 eX10_fruit_0.2.2.2.2.2.2.2.2.2.2.2.2.2.2.1
end S_X10_fruit
noncomputable def wp_X10_fruit (post : Int32 → Int32 → Prop) (p0 p1 bW dG : Int32) (rD m_x jA pY rW : Nat → Int32) : Prop := wp_X10_isFruit (fun r_1 => (r_1 = 0 → ws_X10_fruit_23 post bW rD m_x jA pY rW 0) ∧ (¬ r_1 = 0 → wp_X10_in (fun r_4 => (¬ r_4 = 0 → (p1 = 0 → vp_in p0 16 ∧ (post (m_x p0.toNatClampNeg) 0)) ∧ (p1 = 1 → vp_in p0 16 ∧ (post (jA p0.toNatClampNeg) 0)) ∧ (p1 = 2 → vp_in p0 16 ∧ (post (pY p0.toNatClampNeg) 0)) ∧ (p1 = 3 → vp_in p0 16 ∧ (post (rW p0.toNatClampNeg) 0)) ∧ (p1 = 4 → vp_in p0 21 ∧ (post (rD p0.toNatClampNeg) 0)) ∧ (p1 = 5 → ∀ v_5 : Int32, v_5 = rD (16 : Int32).toNatClampNeg → ∀ v_6 : Int32, v_6 = v_5 >>> (p0 &&& 31) → post (v_6 &&& 1) 0) ∧ (¬ p1 = 0 → ¬ p1 = 1 → ¬ p1 = 2 → ¬ p1 = 3 → ¬ p1 = 4 → ¬ p1 = 5 → vp_in p0 21 ∧ ((¬ (rD p0.toNatClampNeg) = 0 → post 0 0) ∧ ((rD p0.toNatClampNeg) = 0 → wp_X10_which (fun r_7 => wp_X10_below (fun r_8 => post r_8 0) p0 r_7 bW m_x jA) 0 bW rD)))) ∧ (r_4 = 0 → ws_X10_fruit_23 post bW rD m_x jA pY rW 0)) p1 0 6)) p0 bW
set_option maxHeartbeats 4000000 in
set_option maxRecDepth 100000 in
theorem c_X10_fruit (l : Launch) (dC : Nat → ClassId) (dI : Nat → Nat → Nat) (cI cC cZ cB cJ : ClassId) (a_m oJ uD dY iJ lJ jQ jR jW jK pJ bM aY jO gR gY mK jZ iY bG mJ jB mQ lY eJ bY sz : Nat) (p0 p1 bW aG jG bQ dG : Int32) (jY : Nat) (m_length qG uW eY aJ aB bU dN aR aE bJ aW bT gJ dU bL bR bO mY pW : Int32) (rD m_x jA pY rW : Nat → Int32) (post : Int32 → Int32 → Prop) (hw : wp_X10_fruit post p0 p1 bW dG rD m_x jA pY rW) : Met l yX10_fruit (gw yX10_fruit cX10_fruit 3 (some .int)) rm_X10_fruit (va_Pc [.ref a_m, .int p0, .int p1] (gPre (dC, dI) (tyl cI cC cZ cB cJ) (wd_X10_fruit cI cC cZ cB cJ a_m oJ uD dY iJ lJ jQ jR jW jK pJ bM aY jO gR gY mK jZ iY bG mJ jB mQ lY eJ bY bW aG jG bQ dG jY m_length qG uW eY aJ aB bU dN aR aE bJ aW bT gJ dU bL bR bO mY pW rD m_x jA pY rW) sz)) (q_X10_fruit dC dI cI cC cZ cB cJ (va_A (wd_X10_fruit cI cC cZ cB cJ a_m oJ uD dY iJ lJ jQ jR jW jK pJ bM aY jO gR gY mK jZ iY bG mJ jB mQ lY eJ bY bW aG jG bQ dG jY m_length qG uW eY aJ aB bU dN aR aE bJ aW bT gJ dU bL bR bO mY pW rD m_x jA pY rW) sz) a_m oJ uD dY iJ lJ jQ jR jW jK pJ bM aY jO gR gY mK jZ iY bG mJ jB mQ lY eJ bY bW aG jG bQ jY m_length qG uW eY aJ aB bU dN aR aE bJ aW bT gJ dU bL bR bO mY pW rD m_x jA pY rW post) 0 0 (va_A (wd_X10_fruit cI cC cZ cB cJ a_m oJ uD dY iJ lJ jQ jR jW jK pJ bM aY jO gR gY mK jZ iY bG mJ jB mQ lY eJ bY bW aG jG bQ dG jY m_length qG uW eY aJ aB bU dN aR aE bJ aW bT gJ dU bL bR bO mY pW rD m_x jA pY rW) sz) := by
  refine g_enter (own := RX10) (dC, dI) (tyl cI cC cZ cB cJ) (wd_X10_fruit cI cC cZ cB cJ a_m oJ uD dY iJ lJ jQ jR jW jK pJ bM aY jO gR gY mK jZ iY bG mJ jB mQ lY eJ bY bW aG jG bQ dG jY m_length qG uW eY aJ aB bU dN aR aE bJ aW bT gJ dU bL bR bO mY pW rD m_x jA pY rW) sz [.ref a_m, .int p0, .int p1] (fun A => q_X10_fruit dC dI cI cC cZ cB cJ A a_m oJ uD dY iJ lJ jQ jR jW jK pJ bM aY jO gR gY mK jZ iY bG mJ jB mQ lY eJ bY bW aG jG bQ jY m_length qG uW eY aJ aB bU dN aR aE bJ aW bT gJ dU bL bR bO mY pW rD m_x jA pY rW post) pn_RX10 rfl (Nat.le_of_ble_eq_true rfl) ?_
  intro p e s m args below meth c A H locs ls C0 hP hD hS hl
  have hl : lv_has ls 3 [(0, .ref a_m), (1, .int p0), (2, .int p1)] := hl
  obtain ⟨hx, hb, hr, hml, hown, hts, hlocks, hA, hK, hN, tL, tM, hZL, hTL, hZM, hTM, hZX⟩ := id C0
  have hp := hw
  unfold wp_X10_fruit at hp
  refine lv_aload_n hx hb eX10_fruit_0.1 rfl (lv_at hl 0 rfl) ?_
  refine lv_iconst (v := 0) hx hb eX10_fruit_0.2.1 ic_0 ?_
  refine va_put (D := (dC, dI)) (ci := 10) (v := .int 0) (ty := .int) (C := RX10) (T := TX10) (N := 51) hx hb hts i_X10 tyX10 tyX10_ok nmX10 hown hK hP hD hS 0 rfl rfl 14 (Nat.le_of_ble_eq_true rfl) (hts _ q_638) (fun _ h9 => h9) rfl (tyX10_ok 14 (Nat.le_of_ble_eq_true rfl)) rfl rfl (Nat.le_of_ble_eq_true rfl) eX10_fruit_0.2.2.1 (fun H locs hP hD hS => ?_)
  have hP : va_P (dC, dI) classes (wd_X10_fruit cI cC cZ cB cJ a_m oJ uD dY iJ lJ jQ jR jW jK pJ bM aY jO gR gY mK jZ iY bG mJ jB mQ lY eJ bY bW aG jG bQ 0 jY m_length qG uW eY aJ aB bU dN aR aE bJ aW bT gJ dU bL bR bO mY pW rD m_x jA pY rW) H := hP
  have hD : va_D A (wd_X10_fruit cI cC cZ cB cJ a_m oJ uD dY iJ lJ jQ jR jW jK pJ bM aY jO gR gY mK jZ iY bG mJ jB mQ lY eJ bY bW aG jG bQ 0 jY m_length qG uW eY aJ aB bU dN aR aE bJ aW bT gJ dU bL bR bO mY pW rD m_x jA pY rW) := hD
  refine lv_aload_n hx hb eX10_fruit_0.2.2.2.1 rfl (lv_at hl 0 rfl) ?_
  refine lv_iload_n hx hb eX10_fruit_0.2.2.2.2.1 rfl (lv_at hl 1 rfl) ?_
  have hm := mgk (wc := (wd_X10_isFruit cI cC cZ cB cJ a_m oJ uD dY iJ lJ jQ jR jW jK pJ bM aY jO gR gY mK jZ iY bG mJ jB mQ lY eJ bY bW aG jG bQ 0 jY m_length qG uW eY aJ aB bU dN aR aE bJ aW bT gJ dU bL bR bO mY pW)) hP mk_24 6 rfl rfl rfl
  refine g_calli hP hD hS hA (mixT mk_24) (mixF mk_24) hm.1 hm.2 (nd_F _) (dis_g _) (g_runV (As := [.int p0]) (rest := []) C0 hP hD hS (mixT mk_24) hm.1 (nd_T _) 0 10 rfl rfl (c_X10_isFruit l dC dI cI cC cZ cB cJ a_m oJ uD dY iJ lJ jQ jR jW jK pJ bM aY jO gR gY mK jZ iY bG mJ jB mQ lY eJ bY H.size p0 bW aG jG bQ 0 jY m_length qG uW eY aJ aB bU dN aR aE bJ aW bT gJ dU bL bR bO mY pW _ hp) q_741 q_744 q_742 q_743 q_642 h_X10_isFruit rfl rfl ⟨Nat.le_of_ble_eq_true rfl, Nat.le_of_ble_eq_true rfl⟩ rfl rfl hl.1 rfl (lv_room (Nat.le_of_ble_eq_true rfl)) eX10_fruit_0.2.2.2.2.2.1 ⟨Nat.zero_le _, Nat.zero_le _⟩) (fun r_1 u H locs hp hP hD hS => ?_)
  have hPD := PDm (ws' := (wd_X10_fruit cI cC cZ cB cJ a_m oJ uD dY iJ lJ jQ jR jW jK pJ bM aY jO gR gY mK jZ iY bG mJ jB mQ lY eJ bY bW aG jG bQ 0 jY m_length qG uW eY aJ aB bU dN aR aE bJ aW bT gJ dU bL bR bO mY pW rD m_x jA pY rW)) hP hD 6 rfl rfl rfl
  have hP := hPD.1
  have hD := hPD.2
  refine lv_if_eq (tgt := 23) hx hb eX10_fruit_0.2.2.2.2.2.2.1 (by decide) (fun hc => ?_) (fun hc => ?_)
  · have hp := hp.1 hc
    exact ks_X10_fruit_23 C0 0 H locs ls hp hP hD hS (lv_sub hl [0] rfl)
  · have hp := hp.2 hc
    refine lv_iload_n hx hb eX10_fruit_0.2.2.2.2.2.2.2.1 rfl (lv_at hl 2 rfl) ?_
    refine lv_iconst (v := 0) hx hb eX10_fruit_0.2.2.2.2.2.2.2.2.1 ic_0 ?_
    refine lv_bipush (v := 6) hx hb eX10_fruit_0.2.2.2.2.2.2.2.2.2.1 bp_6 ?_
    have hm := mgk (wc := (wd_X10_in cI cC cZ cB cJ)) hP aJM 6 rfl rfl rfl
    refine g_calli hP hD hS hA (mixT aJM) (mixF aJM) hm.1 hm.2 (nd_F _) (dis_g _) (g_runS (As := [.int p1, .int 0, .int 6]) (rest := []) C0 hP hD hS (mixT aJM) hm.1 (nd_T _) (c_X10_in l dC dI cI cC cZ cB cJ H.size p1 0 6 _ hp) q_641 q_644 q_643 q_642 h_X10_in rfl rfl ⟨Nat.le_of_ble_eq_true rfl, Nat.le_of_ble_eq_true rfl⟩ rfl rfl hl.1 rfl (lv_room (Nat.le_of_ble_eq_true rfl)) eX10_fruit_0.2.2.2.2.2.2.2.2.2.2.1 ⟨Nat.zero_le _, Nat.zero_le _⟩) (fun r_4 u H locs hp hP hD hS => ?_)
    have hPD := PDm (ws' := (wd_X10_fruit cI cC cZ cB cJ a_m oJ uD dY iJ lJ jQ jR jW jK pJ bM aY jO gR gY mK jZ iY bG mJ jB mQ lY eJ bY bW aG jG bQ 0 jY m_length qG uW eY aJ aB bU dN aR aE bJ aW bT gJ dU bL bR bO mY pW rD m_x jA pY rW)) hP hD 6 rfl rfl rfl
    have hP := hPD.1
    have hD := hPD.2
    refine lv_if_ne (tgt := 28) hx hb eX10_fruit_0.2.2.2.2.2.2.2.2.2.2.2.1 (by decide) (fun hc => ?_) (fun hc => ?_)
    · have hp := hp.1 hc
      refine lv_iload_n hx hb eX10_fruit_0.2.2.2.2.2.2.2.2.2.2.2.2.2.2.2 rfl (lv_at hl 2 rfl) ?_
      by_cases hc0 : p1 = 0
      · have hp := hp.1 hc0
        refine lv_tableIn (tgt := 68) hx hb eX10_fruit_29.1 (by first | (rw [hc0]; done) | (rw [hc0]; decide)) (by first | (rw [hc0]; done) | (rw [hc0]; decide)) (by first | (rw [hc0]; done) | (rw [hc0]; rfl)) (by decide) ?_
        refine lv_aload_n hx hb eX10_fruit_29.2.1 rfl (lv_at hl 0 rfl) ?_
        refine va_get (D := (dC, dI)) (ci := 10) (v := .ref uD) (C := RX10) (T := TX10) (N := 51) hx hb hts i_X10 hown hK hP 0 rfl rfl 2 (Nat.le_of_ble_eq_true rfl) (hts _ q_688) (fun _ h9 => h9) rfl eX10_fruit_29.2.2.1 ?_
        refine lv_iload_n hx hb eX10_fruit_29.2.2.2.1 rfl (lv_at hl 1 rfl) ?_
        have hin := hp.1
        have hp := hp.2
        refine va_iald hx hb hK hP 2 0 rfl rfl hin eX10_fruit_29.2.2.2.2.1 ?_
        exact W.iret (v := m_x p0.toNatClampNeg) hx hb hr (fun t ht hW => ⟨⟨m_x p0.toNatClampNeg, 0, rfl, hp, by rw [ht]; exact hP, va_K.moved hW.alike hK, hD⟩, hS.F ht⟩) hS.2.2 eX10_fruit_29.2.2.2.2.2.1
      by_cases hc1 : p1 = 1
      · have hp := hp.2.1 hc1
        refine lv_tableIn (tgt := 75) hx hb eX10_fruit_29.1 (by first | (rw [hc1]; done) | (rw [hc1]; decide)) (by first | (rw [hc1]; done) | (rw [hc1]; decide)) (by first | (rw [hc1]; done) | (rw [hc1]; rfl)) (by decide) ?_
        refine lv_aload_n hx hb eX10_fruit_29.2.2.2.2.2.2.1 rfl (lv_at hl 0 rfl) ?_
        refine va_get (D := (dC, dI)) (ci := 10) (v := .ref dY) (C := RX10) (T := TX10) (N := 51) hx hb hts i_X10 hown hK hP 0 rfl rfl 3 (Nat.le_of_ble_eq_true rfl) (hts _ q_689) (fun _ h9 => h9) rfl eX10_fruit_29.2.2.2.2.2.2.2.1 ?_
        refine lv_iload_n hx hb eX10_fruit_29.2.2.2.2.2.2.2.2.1 rfl (lv_at hl 1 rfl) ?_
        have hin := hp.1
        have hp := hp.2
        refine va_iald hx hb hK hP 3 0 rfl rfl hin eX10_fruit_29.2.2.2.2.2.2.2.2.2.1 ?_
        exact W.iret (v := jA p0.toNatClampNeg) hx hb hr (fun t ht hW => ⟨⟨jA p0.toNatClampNeg, 0, rfl, hp, by rw [ht]; exact hP, va_K.moved hW.alike hK, hD⟩, hS.F ht⟩) hS.2.2 eX10_fruit_29.2.2.2.2.2.2.2.2.2.2.1
      by_cases hc2 : p1 = 2
      · have hp := hp.2.2.1 hc2
        refine lv_tableIn (tgt := 82) hx hb eX10_fruit_29.1 (by first | (rw [hc2]; done) | (rw [hc2]; decide)) (by first | (rw [hc2]; done) | (rw [hc2]; decide)) (by first | (rw [hc2]; done) | (rw [hc2]; rfl)) (by decide) ?_
        refine lv_aload_n hx hb eX10_fruit_29.2.2.2.2.2.2.2.2.2.2.2.1 rfl (lv_at hl 0 rfl) ?_
        refine va_get (D := (dC, dI)) (ci := 10) (v := .ref iJ) (C := RX10) (T := TX10) (N := 51) hx hb hts i_X10 hown hK hP 0 rfl rfl 4 (Nat.le_of_ble_eq_true rfl) (hts _ q_690) (fun _ h9 => h9) rfl eX10_fruit_29.2.2.2.2.2.2.2.2.2.2.2.2.1 ?_
        refine lv_iload_n hx hb eX10_fruit_29.2.2.2.2.2.2.2.2.2.2.2.2.2.1 rfl (lv_at hl 1 rfl) ?_
        have hin := hp.1
        have hp := hp.2
        refine va_iald hx hb hK hP 4 0 rfl rfl hin eX10_fruit_29.2.2.2.2.2.2.2.2.2.2.2.2.2.2.1 ?_
        exact W.iret (v := pY p0.toNatClampNeg) hx hb hr (fun t ht hW => ⟨⟨pY p0.toNatClampNeg, 0, rfl, hp, by rw [ht]; exact hP, va_K.moved hW.alike hK, hD⟩, hS.F ht⟩) hS.2.2 eX10_fruit_29.2.2.2.2.2.2.2.2.2.2.2.2.2.2.2
      by_cases hc3 : p1 = 3
      · have hp := hp.2.2.2.1 hc3
        refine lv_tableIn (tgt := 89) hx hb eX10_fruit_29.1 (by first | (rw [hc3]; done) | (rw [hc3]; decide)) (by first | (rw [hc3]; done) | (rw [hc3]; decide)) (by first | (rw [hc3]; done) | (rw [hc3]; rfl)) (by decide) ?_
        refine lv_aload_n hx hb eX10_fruit_89.1 rfl (lv_at hl 0 rfl) ?_
        refine va_get (D := (dC, dI)) (ci := 10) (v := .ref lJ) (C := RX10) (T := TX10) (N := 51) hx hb hts i_X10 hown hK hP 0 rfl rfl 5 (Nat.le_of_ble_eq_true rfl) (hts _ q_691) (fun _ h9 => h9) rfl eX10_fruit_89.2.1 ?_
        refine lv_iload_n hx hb eX10_fruit_89.2.2.1 rfl (lv_at hl 1 rfl) ?_
        have hin := hp.1
        have hp := hp.2
        refine va_iald hx hb hK hP 5 0 rfl rfl hin eX10_fruit_89.2.2.2.1 ?_
        exact W.iret (v := rW p0.toNatClampNeg) hx hb hr (fun t ht hW => ⟨⟨rW p0.toNatClampNeg, 0, rfl, hp, by rw [ht]; exact hP, va_K.moved hW.alike hK, hD⟩, hS.F ht⟩) hS.2.2 eX10_fruit_89.2.2.2.2.1
      by_cases hc4 : p1 = 4
      · have hp := hp.2.2.2.2.1 hc4
        refine lv_tableIn (tgt := 96) hx hb eX10_fruit_29.1 (by first | (rw [hc4]; done) | (rw [hc4]; decide)) (by first | (rw [hc4]; done) | (rw [hc4]; decide)) (by first | (rw [hc4]; done) | (rw [hc4]; rfl)) (by decide) ?_
        refine lv_aload_n hx hb eX10_fruit_89.2.2.2.2.2.1 rfl (lv_at hl 0 rfl) ?_
        refine va_get (D := (dC, dI)) (ci := 10) (v := .ref oJ) (C := RX10) (T := TX10) (N := 51) hx hb hts i_X10 hown hK hP 0 rfl rfl 0 (Nat.le_of_ble_eq_true rfl) (hts _ q_692) (fun _ h9 => h9) rfl eX10_fruit_89.2.2.2.2.2.2.1 ?_
        refine lv_iload_n hx hb eX10_fruit_89.2.2.2.2.2.2.2.1 rfl (lv_at hl 1 rfl) ?_
        have hin := hp.1
        have hp := hp.2
        refine va_iald hx hb hK hP 1 0 rfl rfl hin eX10_fruit_89.2.2.2.2.2.2.2.2.1 ?_
        exact W.iret (v := rD p0.toNatClampNeg) hx hb hr (fun t ht hW => ⟨⟨rD p0.toNatClampNeg, 0, rfl, hp, by rw [ht]; exact hP, va_K.moved hW.alike hK, hD⟩, hS.F ht⟩) hS.2.2 eX10_fruit_89.2.2.2.2.2.2.2.2.2.1
      by_cases hc5 : p1 = 5
      · have hp := hp.2.2.2.2.2.1 hc5
        refine lv_tableIn (tgt := 103) hx hb eX10_fruit_29.1 (by first | (rw [hc5]; done) | (rw [hc5]; decide)) (by first | (rw [hc5]; done) | (rw [hc5]; decide)) (by first | (rw [hc5]; done) | (rw [hc5]; rfl)) (by decide) ?_
        refine lv_aload_n hx hb eX10_fruit_89.2.2.2.2.2.2.2.2.2.2.1 rfl (lv_at hl 0 rfl) ?_
        refine va_get (D := (dC, dI)) (ci := 10) (v := .ref oJ) (C := RX10) (T := TX10) (N := 51) hx hb hts i_X10 hown hK hP 0 rfl rfl 0 (Nat.le_of_ble_eq_true rfl) (hts _ q_692) (fun _ h9 => h9) rfl eX10_fruit_89.2.2.2.2.2.2.2.2.2.2.2.1 ?_
        refine lv_bipush (v := 16) hx hb eX10_fruit_89.2.2.2.2.2.2.2.2.2.2.2.2.1 bp_16 ?_
        refine va_iald hx hb hK hP 1 0 rfl rfl (g_in rfl) eX10_fruit_89.2.2.2.2.2.2.2.2.2.2.2.2.2.1 ?_
        refine lv_topi (fun v_5 ev_5 => ?_)
        have hp := hp v_5 ev_5
        refine lv_iload_n hx hb eX10_fruit_89.2.2.2.2.2.2.2.2.2.2.2.2.2.2.1 rfl (lv_at hl 1 rfl) ?_
        refine lv_ishr hx hb eX10_fruit_89.2.2.2.2.2.2.2.2.2.2.2.2.2.2.2 ?_
        refine lv_topi (fun v_6 ev_6 => ?_)
        have hp := hp v_6 ev_6
        refine lv_iconst (v := 1) hx hb eX10_fruit_112.1 ic_1 ?_
        refine lv_iand hx hb eX10_fruit_112.2.1 ?_
        exact W.iret (v := v_6 &&& 1) hx hb hr (fun t ht hW => ⟨⟨v_6 &&& 1, 0, rfl, hp, by rw [ht]; exact hP, va_K.moved hW.alike hK, hD⟩, hS.F ht⟩) hS.2.2 eX10_fruit_112.2.2.1
      have hp := hp.2.2.2.2.2.2 hc0 hc1 hc2 hc3 hc4 hc5
      have key : W p l e rm_X10_fruit s m args below meth c H locs 0 0 (MQ below (q_X10_fruit dC dI cI cC cZ cB cJ A a_m oJ uD dY iJ lJ jQ jR jW jK pJ bM aY jO gR gY mK jZ iY bG mJ jB mQ lY eJ bY bW aG jG bQ jY m_length qG uW eY aJ aB bU dN aR aE bJ aW bT gJ dU bL bR bO mY pW rD m_x jA pY rW post) args s 0 0 A) (F0 m 115 ls []) := by
        refine lv_aload_n hx hb eX10_fruit_112.2.2.2.1 rfl (lv_at hl 0 rfl) ?_
        refine va_get (D := (dC, dI)) (ci := 10) (v := .ref oJ) (C := RX10) (T := TX10) (N := 51) hx hb hts i_X10 hown hK hP 0 rfl rfl 0 (Nat.le_of_ble_eq_true rfl) (hts _ q_692) (fun _ h9 => h9) rfl eX10_fruit_112.2.2.2.2.1 ?_
        refine lv_iload_n hx hb eX10_fruit_112.2.2.2.2.2.1 rfl (lv_at hl 1 rfl) ?_
        have hin := hp.1
        have hp := hp.2
        refine va_iald hx hb hK hP 1 0 rfl rfl hin eX10_fruit_112.2.2.2.2.2.2.1 ?_
        refine lv_if_ne (tgt := 141) hx hb eX10_fruit_112.2.2.2.2.2.2.2.1 (by decide) (fun hc => ?_) (fun hc => ?_)
        · have hp := hp.1 hc
          refine lv_iconst (v := 0) hx hb eX10_fruit_138.2.1 ic_0 ?_
          exact W.iret (v := 0) hx hb hr (fun t ht hW => ⟨⟨0, 0, rfl, hp, by rw [ht]; exact hP, va_K.moved hW.alike hK, hD⟩, hS.F ht⟩) hS.2.2 eX10_fruit_138.2.2
        · have hp := hp.2 hc
          refine lv_aload_n hx hb eX10_fruit_112.2.2.2.2.2.2.2.2.1 rfl (lv_at hl 0 rfl) ?_
          refine lv_iload_n hx hb eX10_fruit_112.2.2.2.2.2.2.2.2.2.1 rfl (lv_at hl 1 rfl) ?_
          refine lv_aload_n hx hb eX10_fruit_112.2.2.2.2.2.2.2.2.2.2.1 rfl (lv_at hl 0 rfl) ?_
          refine lv_aload_n hx hb eX10_fruit_112.2.2.2.2.2.2.2.2.2.2.2.1 rfl (lv_at hl 0 rfl) ?_
          refine va_get (D := (dC, dI)) (ci := 10) (v := .ref oJ) (C := RX10) (T := TX10) (N := 51) hx hb hts i_X10 hown hK hP 0 rfl rfl 0 (Nat.le_of_ble_eq_true rfl) (hts _ q_692) (fun _ h9 => h9) rfl eX10_fruit_112.2.2.2.2.2.2.2.2.2.2.2.2.1 ?_
          refine lv_iconst (v := 0) hx hb eX10_fruit_112.2.2.2.2.2.2.2.2.2.2.2.2.2.1 ic_0 ?_
          have hm := mgk (wc := (wd_X10_which cI cC cZ cB cJ a_m oJ uD dY iJ lJ jQ jR jW jK pJ bM aY jO gR gY mK jZ iY bG mJ jB mQ lY eJ bY bW aG jG bQ 0 jY m_length qG uW eY aJ aB bU dN aR aE bJ aW bT gJ dU bL bR bO mY pW rD)) hP mk_26 6 rfl rfl rfl
          refine g_calli hP hD hS hA (mixT mk_26) (mixF mk_26) hm.1 hm.2 (nd_F _) (dis_g _) (g_runV (As := [.ref oJ, .int 0]) (rest := [.int p0, .ref a_m]) C0 hP hD hS (mixT mk_26) hm.1 (nd_T _) 0 10 rfl rfl (c_X10_which l dC dI cI cC cZ cB cJ a_m oJ uD dY iJ lJ jQ jR jW jK pJ bM aY jO gR gY mK jZ iY bG mJ jB mQ lY eJ bY H.size 0 bW aG jG bQ 0 jY m_length qG uW eY aJ aB bU dN aR aE bJ aW bT gJ dU bL bR bO mY pW rD _ hp) q_749 q_752 q_750 q_751 q_642 h_X10_which rfl rfl ⟨Nat.le_of_ble_eq_true rfl, Nat.le_of_ble_eq_true rfl⟩ rfl rfl hl.1 rfl (lv_room (Nat.le_of_ble_eq_true rfl)) eX10_fruit_112.2.2.2.2.2.2.2.2.2.2.2.2.2.2.1 ⟨Nat.zero_le _, Nat.zero_le _⟩) (fun r_7 u H locs hp hP hD hS => ?_)
          have hPD := PDm (ws' := (wd_X10_fruit cI cC cZ cB cJ a_m oJ uD dY iJ lJ jQ jR jW jK pJ bM aY jO gR gY mK jZ iY bG mJ jB mQ lY eJ bY bW aG jG bQ 0 jY m_length qG uW eY aJ aB bU dN aR aE bJ aW bT gJ dU bL bR bO mY pW rD m_x jA pY rW)) hP hD 6 rfl rfl rfl
          have hP := hPD.1
          have hD := hPD.2
          have hm := mgk (wc := (wd_X10_below cI cC cZ cB cJ a_m oJ uD dY iJ lJ jQ jR jW jK pJ bM aY jO gR gY mK jZ iY bG mJ jB mQ lY eJ bY bW aG jG bQ 0 jY m_length qG uW eY aJ aB bU dN aR aE bJ aW bT gJ dU bL bR bO mY pW m_x jA)) hP mk_209 6 rfl rfl rfl
          refine g_calli hP hD hS hA (mixT mk_209) (mixF mk_209) hm.1 hm.2 (nd_F _) (dis_g _) (g_runV (As := [.int p0, .int r_7]) (rest := []) C0 hP hD hS (mixT mk_209) hm.1 (nd_T _) 0 10 rfl rfl (c_X10_below l dC dI cI cC cZ cB cJ a_m oJ uD dY iJ lJ jQ jR jW jK pJ bM aY jO gR gY mK jZ iY bG mJ jB mQ lY eJ bY H.size p0 r_7 bW aG jG bQ 0 jY m_length qG uW eY aJ aB bU dN aR aE bJ aW bT gJ dU bL bR bO mY pW m_x jA _ hp) q_753 q_756 q_754 q_755 q_642 h_X10_below rfl rfl ⟨Nat.le_of_ble_eq_true rfl, Nat.le_of_ble_eq_true rfl⟩ rfl rfl hl.1 rfl (lv_room (Nat.le_of_ble_eq_true rfl)) eX10_fruit_112.2.2.2.2.2.2.2.2.2.2.2.2.2.2.2 ⟨Nat.zero_le _, Nat.zero_le _⟩) (fun r_8 u H locs hp hP hD hS => ?_)
          have hPD := PDm (ws' := (wd_X10_fruit cI cC cZ cB cJ a_m oJ uD dY iJ lJ jQ jR jW jK pJ bM aY jO gR gY mK jZ iY bG mJ jB mQ lY eJ bY bW aG jG bQ 0 jY m_length qG uW eY aJ aB bU dN aR aE bJ aW bT gJ dU bL bR bO mY pW rD m_x jA pY rW)) hP hD 6 rfl rfl rfl
          have hP := hPD.1
          have hD := hPD.2
          refine lv_goto (tgt := 142) hx hb eX10_fruit_138.1 (by decide) ?_
          exact W.iret (v := r_8) hx hb hr (fun t ht hW => ⟨⟨r_8, 0, rfl, hp, by rw [ht]; exact hP, va_K.moved hW.alike hK, hD⟩, hS.F ht⟩) hS.2.2 eX10_fruit_138.2.2
      exact lv_tableOut (tgt := 115) hx hb eX10_fruit_29.1 (by have g0 := lv_neT (a := 0) hc0 rfl; have g1 := lv_neT (a := 1) hc1 rfl; have g2 := lv_neT (a := 2) hc2 rfl; have g3 := lv_neT (a := 3) hc3 rfl; have g4 := lv_neT (a := 4) hc4 rfl; have g5 := lv_neT (a := 5) hc5 rfl; omega) (by decide) key
    · have hp := hp.2 hc
      exact ks_X10_fruit_23 C0 0 H locs ls hp hP hD hS (lv_sub hl [0] rfl)
noncomputable abbrev wd_X10_isStanding (cI cC cZ cB cJ : ClassId) (a_m oJ uD dY iJ lJ jQ jR jW jK pJ bM aY jO gR gY mK jZ iY bG mJ jB mQ lY eJ bY : Nat) (bW aG jG bQ dG : Int32) (jY : Nat) (m_length qG uW eY aJ aB bU dN aR aE bJ aW bT gJ dU bL bR bO mY pW : Int32) : va_W := [(a_m, .inr (10, [.ref oJ, .int bW, .ref uD, .ref dY, .ref iJ, .ref lJ, .int aG, .ref jQ, .ref jR, .ref jW, .ref jK, .int jG, .ref pJ, .int bQ, .int dG, rdv jK jO jY, .int m_length, .int qG, .int uW, .int eY, .ref bM, .ref aY, .int aJ, .int aB, .ref jO, .int bU, .int dN, .int aR, .int aE, .int bJ, .int aW, .ref gR, .int bT, .ref gY, .ref mK, .int gJ, .ref jZ, .int dU, .ref iY, .ref bG, .int bL, .int bR, .int bO, .ref mJ, .ref jB, .ref mQ, .int mY, .int pW, .ref lY, .ref eJ, .ref bY]))]
noncomputable abbrev q_X10_isStanding (dC : Nat → ClassId) (dI : Nat → Nat → Nat) (cI cC cZ cB cJ : ClassId) (A : Nat → Prop) (a_m oJ uD dY iJ lJ jQ jR jW jK pJ bM aY jO gR gY mK jZ iY bG mJ jB mQ lY eJ bY : Nat) (bW aG jG bQ dG : Int32) (jY : Nat) (m_length qG uW eY aJ aB bU dN aR aE bJ aW bT gJ dU bL bR bO mY pW : Int32) (post : Int32 → Prop) : Array Value → State → Outcome → State → Prop := va_Qi (fun (r : Int32) (u : Unit) => post r) (fun u t => gB (dC, dI) (tyl cI cC cZ cB cJ) A (wd_X10_isStanding cI cC cZ cB cJ a_m oJ uD dY iJ lJ jQ jR jW jK pJ bM aY jO gR gY mK jZ iY bG mJ jB mQ lY eJ bY bW aG jG bQ dG jY m_length qG uW eY aJ aB bU dN aR aE bJ aW bT gJ dU bL bR bO mY pW) t) A
noncomputable abbrev rm_X10_isStanding : Room := { frames := 1, cells := 0, slots := 0, locals := 22 }
noncomputable def wp_X10_isStanding (post : Int32 → Prop) (p0 aG : Int32) : Prop := ∀ v_1 : Int32, v_1 = aG - 1 → wp_X10_in (fun r_2 => narrow .boolean (.int r_2) = .int r_2 ∧ post r_2) p0 0 v_1
set_option maxHeartbeats 4000000 in
set_option maxRecDepth 100000 in
theorem c_X10_isStanding (l : Launch) (dC : Nat → ClassId) (dI : Nat → Nat → Nat) (cI cC cZ cB cJ : ClassId) (a_m oJ uD dY iJ lJ jQ jR jW jK pJ bM aY jO gR gY mK jZ iY bG mJ jB mQ lY eJ bY sz : Nat) (p0 bW aG jG bQ dG : Int32) (jY : Nat) (m_length qG uW eY aJ aB bU dN aR aE bJ aW bT gJ dU bL bR bO mY pW : Int32) (post : Int32 → Prop) (hw : wp_X10_isStanding post p0 aG) : Met l yX10_isStanding (gw yX10_isStanding cX10_isStanding 2 (some .boolean)) rm_X10_isStanding (va_Pc [.ref a_m, .int p0] (gPre (dC, dI) (tyl cI cC cZ cB cJ) (wd_X10_isStanding cI cC cZ cB cJ a_m oJ uD dY iJ lJ jQ jR jW jK pJ bM aY jO gR gY mK jZ iY bG mJ jB mQ lY eJ bY bW aG jG bQ dG jY m_length qG uW eY aJ aB bU dN aR aE bJ aW bT gJ dU bL bR bO mY pW) sz)) (q_X10_isStanding dC dI cI cC cZ cB cJ (va_A (wd_X10_isStanding cI cC cZ cB cJ a_m oJ uD dY iJ lJ jQ jR jW jK pJ bM aY jO gR gY mK jZ iY bG mJ jB mQ lY eJ bY bW aG jG bQ dG jY m_length qG uW eY aJ aB bU dN aR aE bJ aW bT gJ dU bL bR bO mY pW) sz) a_m oJ uD dY iJ lJ jQ jR jW jK pJ bM aY jO gR gY mK jZ iY bG mJ jB mQ lY eJ bY bW aG jG bQ dG jY m_length qG uW eY aJ aB bU dN aR aE bJ aW bT gJ dU bL bR bO mY pW post) 0 0 (va_A (wd_X10_isStanding cI cC cZ cB cJ a_m oJ uD dY iJ lJ jQ jR jW jK pJ bM aY jO gR gY mK jZ iY bG mJ jB mQ lY eJ bY bW aG jG bQ dG jY m_length qG uW eY aJ aB bU dN aR aE bJ aW bT gJ dU bL bR bO mY pW) sz) := by
  refine g_enter (own := RX10) (dC, dI) (tyl cI cC cZ cB cJ) (wd_X10_isStanding cI cC cZ cB cJ a_m oJ uD dY iJ lJ jQ jR jW jK pJ bM aY jO gR gY mK jZ iY bG mJ jB mQ lY eJ bY bW aG jG bQ dG jY m_length qG uW eY aJ aB bU dN aR aE bJ aW bT gJ dU bL bR bO mY pW) sz [.ref a_m, .int p0] (fun A => q_X10_isStanding dC dI cI cC cZ cB cJ A a_m oJ uD dY iJ lJ jQ jR jW jK pJ bM aY jO gR gY mK jZ iY bG mJ jB mQ lY eJ bY bW aG jG bQ dG jY m_length qG uW eY aJ aB bU dN aR aE bJ aW bT gJ dU bL bR bO mY pW post) pn_RX10 rfl (Nat.le_of_ble_eq_true rfl) ?_
  intro p e s m args below meth c A H locs ls C0 hP hD hS hl
  have hl : lv_has ls 2 [(0, .ref a_m), (1, .int p0)] := hl
  obtain ⟨hx, hb, hr, hml, hown, hts, hlocks, hA, hK, hN, tL, tM, hZL, hTL, hZM, hTM, hZX⟩ := id C0
  have hp := hw
  unfold wp_X10_isStanding at hp
  refine lv_iload_n hx hb eX10_isStanding_0.1 rfl (lv_at hl 1 rfl) ?_
  refine lv_iconst (v := 0) hx hb eX10_isStanding_0.2.1 ic_0 ?_
  refine lv_aload_n hx hb eX10_isStanding_0.2.2.1 rfl (lv_at hl 0 rfl) ?_
  refine va_get (D := (dC, dI)) (ci := 10) (v := .int aG) (C := RX10) (T := TX10) (N := 51) hx hb hts i_X10 hown hK hP 0 rfl rfl 6 (Nat.le_of_ble_eq_true rfl) (hts _ q_666) (fun _ h9 => h9) rfl eX10_isStanding_0.2.2.2.1 ?_
  refine lv_iconst (v := 1) hx hb eX10_isStanding_0.2.2.2.2.1 ic_1 ?_
  refine lv_isub hx hb eX10_isStanding_0.2.2.2.2.2.1 ?_
  refine lv_topi (fun v_1 ev_1 => ?_)
  have hp := hp v_1 ev_1
  refine g_calli (wc := (wd_X10_in cI cC cZ cB cJ)) hP hD hS hA [] [0] rfl rfl rfl rfl (g_runS (As := [.int p0, .int 0, .int v_1]) (rest := []) C0 hP hD hS [] rfl rfl (c_X10_in l dC dI cI cC cZ cB cJ H.size p0 0 v_1 _ hp) q_641 q_644 q_643 q_642 h_X10_in rfl rfl ⟨Nat.le_of_ble_eq_true rfl, Nat.le_of_ble_eq_true rfl⟩ rfl rfl hl.1 rfl (lv_room (Nat.le_of_ble_eq_true rfl)) eX10_isStanding_0.2.2.2.2.2.2.1 ⟨Nat.zero_le _, Nat.zero_le _⟩) (fun r_2 u H locs hp hP hD hS => ?_)
  have hPD := PDs (ws' := (wd_X10_isStanding cI cC cZ cB cJ a_m oJ uD dY iJ lJ jQ jR jW jK pJ bM aY jO gR gY mK jZ iY bG mJ jB mQ lY eJ bY bW aG jG bQ dG jY m_length qG uW eY aJ aB bU dN aR aE bJ aW bT gJ dU bL bR bO mY pW)) hP hD [0] (by decide) rfl
  have hP := hPD.1
  have hD := hPD.2
  have hnz := hp.1
  have hp := hp.2
  exact W.zret (v := r_2) hx hb hr hnz (fun t ht hW => ⟨⟨r_2, (), rfl, hp, by rw [ht]; exact hP, va_K.moved hW.alike hK, hD⟩, hS.F ht⟩) hS.2.2 eX10_isStanding_0.2.2.2.2.2.2.2
noncomputable abbrev wd_X10_downOf (cI cC cZ cB cJ : ClassId) (a_m oJ uD dY iJ lJ jQ jR jW jK pJ bM aY jO gR gY mK jZ iY bG mJ jB mQ lY eJ bY : Nat) (bW aG jG bQ dG : Int32) (jY : Nat) (m_length qG uW eY aJ aB bU dN aR aE bJ aW bT gJ dU bL bR bO mY pW : Int32) (pR : Nat → Int32) : va_W := [(a_m, .inr (10, [.ref oJ, .int bW, .ref uD, .ref dY, .ref iJ, .ref lJ, .int aG, .ref jQ, .ref jR, .ref jW, .ref jK, .int jG, .ref pJ, .int bQ, .int dG, rdv jK jO jY, .int m_length, .int qG, .int uW, .int eY, .ref bM, .ref aY, .int aJ, .int aB, .ref jO, .int bU, .int dN, .int aR, .int aE, .int bJ, .int aW, .ref gR, .int bT, .ref gY, .ref mK, .int gJ, .ref jZ, .int dU, .ref iY, .ref bG, .int bL, .int bR, .int bO, .ref mJ, .ref jB, .ref mQ, .int mY, .int pW, .ref lY, .ref eJ, .ref bY])), (jR, .inl (cI, 8, .inl pR))]
noncomputable abbrev q_X10_downOf (dC : Nat → ClassId) (dI : Nat → Nat → Nat) (cI cC cZ cB cJ : ClassId) (A : Nat → Prop) (a_m oJ uD dY iJ lJ jQ jR jW jK pJ bM aY jO gR gY mK jZ iY bG mJ jB mQ lY eJ bY : Nat) (bW aG jG bQ dG : Int32) (jY : Nat) (m_length qG uW eY aJ aB bU dN aR aE bJ aW bT gJ dU bL bR bO mY pW : Int32) (pR : Nat → Int32) (post : Int32 → Prop) : Array Value → State → Outcome → State → Prop := va_Qi (fun (r : Int32) (u : Unit) => post r) (fun u t => gB (dC, dI) (tyl cI cC cZ cB cJ) A (wd_X10_downOf cI cC cZ cB cJ a_m oJ uD dY iJ lJ jQ jR jW jK pJ bM aY jO gR gY mK jZ iY bG mJ jB mQ lY eJ bY bW aG jG bQ dG jY m_length qG uW eY aJ aB bU dN aR aE bJ aW bT gJ dU bL bR bO mY pW pR) t) A
noncomputable abbrev rm_X10_downOf : Room := { frames := 0, cells := 0, slots := 0, locals := 0 }
noncomputable def wp_X10_downOf (post : Int32 → Prop) (p0 : Int32) (pR : Nat → Int32) : Prop := vp_in p0 8 ∧ (∀ v_1 : Int32, v_1 = pR p0.toNatClampNeg → ∀ v_2 : Int32, v_2 = v_1 + 9 → post (3 + (v_2 / 10)))
set_option maxHeartbeats 4000000 in
set_option maxRecDepth 100000 in
theorem c_X10_downOf (l : Launch) (dC : Nat → ClassId) (dI : Nat → Nat → Nat) (cI cC cZ cB cJ : ClassId) (a_m oJ uD dY iJ lJ jQ jR jW jK pJ bM aY jO gR gY mK jZ iY bG mJ jB mQ lY eJ bY sz : Nat) (p0 bW aG jG bQ dG : Int32) (jY : Nat) (m_length qG uW eY aJ aB bU dN aR aE bJ aW bT gJ dU bL bR bO mY pW : Int32) (pR : Nat → Int32) (post : Int32 → Prop) (hw : wp_X10_downOf post p0 pR) : Met l yX10_downOf (gw yX10_downOf cX10_downOf 2 (some .int)) rm_X10_downOf (va_Pc [.ref a_m, .int p0] (gPre (dC, dI) (tyl cI cC cZ cB cJ) (wd_X10_downOf cI cC cZ cB cJ a_m oJ uD dY iJ lJ jQ jR jW jK pJ bM aY jO gR gY mK jZ iY bG mJ jB mQ lY eJ bY bW aG jG bQ dG jY m_length qG uW eY aJ aB bU dN aR aE bJ aW bT gJ dU bL bR bO mY pW pR) sz)) (q_X10_downOf dC dI cI cC cZ cB cJ (va_A (wd_X10_downOf cI cC cZ cB cJ a_m oJ uD dY iJ lJ jQ jR jW jK pJ bM aY jO gR gY mK jZ iY bG mJ jB mQ lY eJ bY bW aG jG bQ dG jY m_length qG uW eY aJ aB bU dN aR aE bJ aW bT gJ dU bL bR bO mY pW pR) sz) a_m oJ uD dY iJ lJ jQ jR jW jK pJ bM aY jO gR gY mK jZ iY bG mJ jB mQ lY eJ bY bW aG jG bQ dG jY m_length qG uW eY aJ aB bU dN aR aE bJ aW bT gJ dU bL bR bO mY pW pR post) 0 0 (va_A (wd_X10_downOf cI cC cZ cB cJ a_m oJ uD dY iJ lJ jQ jR jW jK pJ bM aY jO gR gY mK jZ iY bG mJ jB mQ lY eJ bY bW aG jG bQ dG jY m_length qG uW eY aJ aB bU dN aR aE bJ aW bT gJ dU bL bR bO mY pW pR) sz) := by
  refine g_enter (own := RX10) (dC, dI) (tyl cI cC cZ cB cJ) (wd_X10_downOf cI cC cZ cB cJ a_m oJ uD dY iJ lJ jQ jR jW jK pJ bM aY jO gR gY mK jZ iY bG mJ jB mQ lY eJ bY bW aG jG bQ dG jY m_length qG uW eY aJ aB bU dN aR aE bJ aW bT gJ dU bL bR bO mY pW pR) sz [.ref a_m, .int p0] (fun A => q_X10_downOf dC dI cI cC cZ cB cJ A a_m oJ uD dY iJ lJ jQ jR jW jK pJ bM aY jO gR gY mK jZ iY bG mJ jB mQ lY eJ bY bW aG jG bQ dG jY m_length qG uW eY aJ aB bU dN aR aE bJ aW bT gJ dU bL bR bO mY pW pR post) pn_RX10 rfl (Nat.le_of_ble_eq_true rfl) ?_
  intro p e s m args below meth c A H locs ls C0 hP hD hS hl
  have hl : lv_has ls 2 [(0, .ref a_m), (1, .int p0)] := hl
  obtain ⟨hx, hb, hr, hml, hown, hts, hlocks, hA, hK, hN, tL, tM, hZL, hTL, hZM, hTM, hZX⟩ := id C0
  have hp := hw
  unfold wp_X10_downOf at hp
  refine lv_iconst (v := 3) hx hb eX10_downOf_0.1 ic_3 ?_
  refine lv_aload_n hx hb eX10_downOf_0.2.1 rfl (lv_at hl 0 rfl) ?_
  refine va_get (D := (dC, dI)) (ci := 10) (v := .ref jR) (C := RX10) (T := TX10) (N := 51) hx hb hts i_X10 hown hK hP 0 rfl rfl 8 (Nat.le_of_ble_eq_true rfl) (hts _ q_687) (fun _ h9 => h9) rfl eX10_downOf_0.2.2.1 ?_
  refine lv_iload_n hx hb eX10_downOf_0.2.2.2.1 rfl (lv_at hl 1 rfl) ?_
  have hin := hp.1
  have hp := hp.2
  refine va_iald hx hb hK hP 1 0 rfl rfl hin eX10_downOf_0.2.2.2.2.1 ?_
  refine lv_topi (fun v_1 ev_1 => ?_)
  have hp := hp v_1 ev_1
  refine lv_bipush (v := 9) hx hb eX10_downOf_0.2.2.2.2.2.1 bp_9 ?_
  refine lv_iadd hx hb eX10_downOf_0.2.2.2.2.2.2.1 ?_
  refine lv_topi (fun v_2 ev_2 => ?_)
  have hp := hp v_2 ev_2
  refine lv_bipush (v := 10) hx hb eX10_downOf_0.2.2.2.2.2.2.2.1 bp_10 ?_
  refine lv_idiv hx hb eX10_downOf_0.2.2.2.2.2.2.2.2.1 (by decide) ?_
  refine lv_iadd hx hb eX10_downOf_0.2.2.2.2.2.2.2.2.2.1 ?_
  exact W.iret (v := 3 + (v_2 / 10)) hx hb hr (fun t ht hW => ⟨⟨3 + (v_2 / 10), (), rfl, hp, by rw [ht]; exact hP, va_K.moved hW.alike hK, hD⟩, hS.F ht⟩) hS.2.2 eX10_downOf_0.2.2.2.2.2.2.2.2.2.2
noncomputable abbrev wd_X10_standing (cI cC cZ cB cJ : ClassId) (a_m oJ uD dY iJ lJ jQ jR jW jK pJ bM aY jO gR gY mK jZ iY bG mJ jB mQ lY eJ bY : Nat) (bW aG jG bQ dG : Int32) (jY : Nat) (m_length qG uW eY aJ aB bU dN aR aE bJ aW bT gJ dU bL bR bO mY pW : Int32) (oY pR : Nat → Int32) : va_W := [(a_m, .inr (10, [.ref oJ, .int bW, .ref uD, .ref dY, .ref iJ, .ref lJ, .int aG, .ref jQ, .ref jR, .ref jW, .ref jK, .int jG, .ref pJ, .int bQ, .int dG, rdv jK jO jY, .int m_length, .int qG, .int uW, .int eY, .ref bM, .ref aY, .int aJ, .int aB, .ref jO, .int bU, .int dN, .int aR, .int aE, .int bJ, .int aW, .ref gR, .int bT, .ref gY, .ref mK, .int gJ, .ref jZ, .int dU, .ref iY, .ref bG, .int bL, .int bR, .int bO, .ref mJ, .ref jB, .ref mQ, .int mY, .int pW, .ref lY, .ref eJ, .ref bY])), (jQ, .inl (cI, 8, .inl oY)), (jR, .inl (cI, 8, .inl pR))]
noncomputable abbrev q_X10_standing (dC : Nat → ClassId) (dI : Nat → Nat → Nat) (cI cC cZ cB cJ : ClassId) (A : Nat → Prop) (a_m oJ uD dY iJ lJ jQ jR jW jK pJ bM aY jO gR gY mK jZ iY bG mJ jB mQ lY eJ bY : Nat) (bW aG jG bQ : Int32) (jY : Nat) (m_length qG uW eY aJ aB bU dN aR aE bJ aW bT gJ dU bL bR bO mY pW : Int32) (oY pR : Nat → Int32) (post : Int32 → Int32 → Prop) : Array Value → State → Outcome → State → Prop := va_Qi (fun (r u : Int32) => post r u) (fun u t => gB (dC, dI) (tyl cI cC cZ cB cJ) A (wd_X10_standing cI cC cZ cB cJ a_m oJ uD dY iJ lJ jQ jR jW jK pJ bM aY jO gR gY mK jZ iY bG mJ jB mQ lY eJ bY bW aG jG bQ u jY m_length qG uW eY aJ aB bU dN aR aE bJ aW bT gJ dU bL bR bO mY pW oY pR) t) A
noncomputable abbrev rm_X10_standing : Room := { frames := 2, cells := 0, slots := 0, locals := 43 }
section S_X10_standing
variable {p : Program} {l : Launch} {e : Env} {s : State} {m : MethodId} {args : Array Value} {below : List Frame} {meth : Method} {c : Code} {dC : Nat → ClassId} {dI : Nat → Nat → Nat} {cI cC cZ cB cJ : ClassId} {A : Nat → Prop} {a_m oJ uD dY iJ lJ jQ jR jW jK pJ bM aY jO gR gY mK jZ iY bG mJ jB mQ lY eJ bY : Nat} {bW aG jG bQ : Int32} {jY : Nat} {m_length qG uW eY aJ aB bU dN aR aE bJ aW bT gJ dU bL bR bO mY pW : Int32} {oY pR : Nat → Int32} {post : Int32 → Int32 → Prop}
noncomputable def ws_X10_standing_22 (post : Int32 → Int32 → Prop) (aG : Int32) (oY pR : Nat → Int32) (dG : Int32) : Prop := wp_X10_lost (fun r_2 aHO => post r_2 aHO) dG
set_option maxHeartbeats 4000000 in
set_option maxRecDepth 100000 in
theorem ks_X10_standing_22 (C0 : gc cX10_standing (some .int) 3 RX10 (dC, dI) (tyl cI cC cZ cB cJ) A p s m args meth c) : ∀ (dG : Int32) (H : Heap) (locs : List Loc) (ls : Array Slot), (ws_X10_standing_22 post aG oY pR) dG → va_P (dC, dI) classes (wd_X10_standing cI cC cZ cB cJ a_m oJ uD dY iJ lJ jQ jR jW jK pJ bM aY jO gR gY mK jZ iY bG mJ jB mQ lY eJ bY bW aG jG bQ dG jY m_length qG uW eY aJ aB bU dN aR aE bJ aW bT gJ dU bL bR bO mY pW oY pR) H → va_D A (wd_X10_standing cI cC cZ cB cJ a_m oJ uD dY iJ lJ jQ jR jW jK pJ bM aY jO gR gY mK jZ iY bG mJ jB mQ lY eJ bY bW aG jG bQ dG jY m_length qG uW eY aJ aB bU dN aR aE bJ aW bT gJ dU bL bR bO mY pW oY pR) → va_S A s.heap H locs → lv_has ls 3 [(0, .ref a_m)] → W p l e rm_X10_standing s m args below meth c H locs 0 0 (MQ below (q_X10_standing dC dI cI cC cZ cB cJ A a_m oJ uD dY iJ lJ jQ jR jW jK pJ bM aY jO gR gY mK jZ iY bG mJ jB mQ lY eJ bY bW aG jG bQ jY m_length qG uW eY aJ aB bU dN aR aE bJ aW bT gJ dU bL bR bO mY pW oY pR post) args s 0 0 A) (F0 m 22 ls []) := by
  obtain ⟨hx, hb, hr, hml, hown, hts, hlocks, hA, hK, hN, tL, tM, hZL, hTL, hZM, hTM, hZX⟩ := id C0
  intro dG H locs ls hp hP hD hS hl
  unfold ws_X10_standing_22 at hp
  refine lv_aload_n hx hb eX10_standing_0.2.2.2.2.2.2.2.2.2.2.2.2.1 rfl (lv_at hl 0 rfl) ?_
  have hm := mgk (wc := (wd_X10_lost cI cC cZ cB cJ a_m oJ uD dY iJ lJ jQ jR jW jK pJ bM aY jO gR gY mK jZ iY bG mJ jB mQ lY eJ bY bW aG jG bQ dG jY m_length qG uW eY aJ aB bU dN aR aE bJ aW bT gJ dU bL bR bO mY pW)) hP aGm 3 rfl rfl rfl
  refine g_calli hP hD hS hA (mixT aGm) (mixF aGm) hm.1 hm.2 (nd_F _) (dis_g _) (g_runV (As := []) (rest := []) C0 hP hD hS (mixT aGm) hm.1 (nd_T _) 0 10 rfl rfl (c_X10_lost l dC dI cI cC cZ cB cJ a_m oJ uD dY iJ lJ jQ jR jW jK pJ bM aY jO gR gY mK jZ iY bG mJ jB mQ lY eJ bY H.size bW aG jG bQ dG jY m_length qG uW eY aJ aB bU dN aR aE bJ aW bT gJ dU bL bR bO mY pW _ hp) q_745 q_748 q_746 q_747 q_642 h_X10_lost rfl rfl ⟨Nat.le_of_ble_eq_true rfl, Nat.le_of_ble_eq_true rfl⟩ rfl rfl hl.1 rfl (lv_room (Nat.le_of_ble_eq_true rfl)) eX10_standing_0.2.2.2.2.2.2.2.2.2.2.2.2.2.1 ⟨Nat.zero_le _, Nat.zero_le _⟩) (fun r_2 u H locs hp hP hD hS => ?_)
  obtain ⟨aHO, rfl⟩ : ∃ z, z = u := ⟨_, rfl⟩
  have hPD := PDm (ws' := (wd_X10_standing cI cC cZ cB cJ a_m oJ uD dY iJ lJ jQ jR jW jK pJ bM aY jO gR gY mK jZ iY bG mJ jB mQ lY eJ bY bW aG jG bQ aHO jY m_length qG uW eY aJ aB bU dN aR aE bJ aW bT gJ dU bL bR bO mY pW oY pR)) hP hD 3 rfl rfl rfl
  have hP := hPD.1
  have hD := hPD.2
  exact W.iret (v := r_2) hx hb hr (fun t ht hW => ⟨⟨r_2, aHO, rfl, hp, by rw [ht]; exact hP, va_K.moved hW.alike hK, hD⟩, hS.F ht⟩) hS.2.2 eX10_standing_0.2.2.2.2.2.2.2.2.2.2.2.2.2.2.1
end S_X10_standing
noncomputable def wp_X10_standing (post : Int32 → Int32 → Prop) (p0 p1 aG dG : Int32) (oY pR : Nat → Int32) : Prop := wp_X10_isStanding (fun r_1 => (r_1 = 0 → ws_X10_standing_22 post aG oY pR 0) ∧ (¬ r_1 = 0 → wp_X10_in (fun r_4 => (¬ r_4 = 0 → (¬ p1 = 0 → (¬ p1 = 1 → wp_X10_downOf (fun r_5 => post r_5 0) p0 pR) ∧ (p1 = 1 → vp_in p0 8 ∧ (∀ v_6 : Int32, v_6 = pR p0.toNatClampNeg → post v_6 0))) ∧ (p1 = 0 → vp_in p0 8 ∧ (∀ v_7 : Int32, v_7 = oY p0.toNatClampNeg → post v_7 0))) ∧ (r_4 = 0 → ws_X10_standing_22 post aG oY pR 0)) p1 0 2)) p0 aG
set_option maxHeartbeats 4000000 in
set_option maxRecDepth 100000 in
theorem c_X10_standing (l : Launch) (dC : Nat → ClassId) (dI : Nat → Nat → Nat) (cI cC cZ cB cJ : ClassId) (a_m oJ uD dY iJ lJ jQ jR jW jK pJ bM aY jO gR gY mK jZ iY bG mJ jB mQ lY eJ bY sz : Nat) (p0 p1 bW aG jG bQ dG : Int32) (jY : Nat) (m_length qG uW eY aJ aB bU dN aR aE bJ aW bT gJ dU bL bR bO mY pW : Int32) (oY pR : Nat → Int32) (post : Int32 → Int32 → Prop) (hw : wp_X10_standing post p0 p1 aG dG oY pR) : Met l yX10_standing (gw yX10_standing cX10_standing 3 (some .int)) rm_X10_standing (va_Pc [.ref a_m, .int p0, .int p1] (gPre (dC, dI) (tyl cI cC cZ cB cJ) (wd_X10_standing cI cC cZ cB cJ a_m oJ uD dY iJ lJ jQ jR jW jK pJ bM aY jO gR gY mK jZ iY bG mJ jB mQ lY eJ bY bW aG jG bQ dG jY m_length qG uW eY aJ aB bU dN aR aE bJ aW bT gJ dU bL bR bO mY pW oY pR) sz)) (q_X10_standing dC dI cI cC cZ cB cJ (va_A (wd_X10_standing cI cC cZ cB cJ a_m oJ uD dY iJ lJ jQ jR jW jK pJ bM aY jO gR gY mK jZ iY bG mJ jB mQ lY eJ bY bW aG jG bQ dG jY m_length qG uW eY aJ aB bU dN aR aE bJ aW bT gJ dU bL bR bO mY pW oY pR) sz) a_m oJ uD dY iJ lJ jQ jR jW jK pJ bM aY jO gR gY mK jZ iY bG mJ jB mQ lY eJ bY bW aG jG bQ jY m_length qG uW eY aJ aB bU dN aR aE bJ aW bT gJ dU bL bR bO mY pW oY pR post) 0 0 (va_A (wd_X10_standing cI cC cZ cB cJ a_m oJ uD dY iJ lJ jQ jR jW jK pJ bM aY jO gR gY mK jZ iY bG mJ jB mQ lY eJ bY bW aG jG bQ dG jY m_length qG uW eY aJ aB bU dN aR aE bJ aW bT gJ dU bL bR bO mY pW oY pR) sz) := by
  refine g_enter (own := RX10) (dC, dI) (tyl cI cC cZ cB cJ) (wd_X10_standing cI cC cZ cB cJ a_m oJ uD dY iJ lJ jQ jR jW jK pJ bM aY jO gR gY mK jZ iY bG mJ jB mQ lY eJ bY bW aG jG bQ dG jY m_length qG uW eY aJ aB bU dN aR aE bJ aW bT gJ dU bL bR bO mY pW oY pR) sz [.ref a_m, .int p0, .int p1] (fun A => q_X10_standing dC dI cI cC cZ cB cJ A a_m oJ uD dY iJ lJ jQ jR jW jK pJ bM aY jO gR gY mK jZ iY bG mJ jB mQ lY eJ bY bW aG jG bQ jY m_length qG uW eY aJ aB bU dN aR aE bJ aW bT gJ dU bL bR bO mY pW oY pR post) pn_RX10 rfl (Nat.le_of_ble_eq_true rfl) ?_
  intro p e s m args below meth c A H locs ls C0 hP hD hS hl
  have hl : lv_has ls 3 [(0, .ref a_m), (1, .int p0), (2, .int p1)] := hl
  obtain ⟨hx, hb, hr, hml, hown, hts, hlocks, hA, hK, hN, tL, tM, hZL, hTL, hZM, hTM, hZX⟩ := id C0
  have hp := hw
  unfold wp_X10_standing at hp
  refine lv_aload_n hx hb eX10_standing_0.1 rfl (lv_at hl 0 rfl) ?_
  refine lv_iconst (v := 0) hx hb eX10_standing_0.2.1 ic_0 ?_
  refine va_put (D := (dC, dI)) (ci := 10) (v := .int 0) (ty := .int) (C := RX10) (T := TX10) (N := 51) hx hb hts i_X10 tyX10 tyX10_ok nmX10 hown hK hP hD hS 0 rfl rfl 14 (Nat.le_of_ble_eq_true rfl) (hts _ q_638) (fun _ h9 => h9) rfl (tyX10_ok 14 (Nat.le_of_ble_eq_true rfl)) rfl rfl (Nat.le_of_ble_eq_true rfl) eX10_standing_0.2.2.1 (fun H locs hP hD hS => ?_)
  have hP : va_P (dC, dI) classes (wd_X10_standing cI cC cZ cB cJ a_m oJ uD dY iJ lJ jQ jR jW jK pJ bM aY jO gR gY mK jZ iY bG mJ jB mQ lY eJ bY bW aG jG bQ 0 jY m_length qG uW eY aJ aB bU dN aR aE bJ aW bT gJ dU bL bR bO mY pW oY pR) H := hP
  have hD : va_D A (wd_X10_standing cI cC cZ cB cJ a_m oJ uD dY iJ lJ jQ jR jW jK pJ bM aY jO gR gY mK jZ iY bG mJ jB mQ lY eJ bY bW aG jG bQ 0 jY m_length qG uW eY aJ aB bU dN aR aE bJ aW bT gJ dU bL bR bO mY pW oY pR) := hD
  refine lv_aload_n hx hb eX10_standing_0.2.2.2.1 rfl (lv_at hl 0 rfl) ?_
  refine lv_iload_n hx hb eX10_standing_0.2.2.2.2.1 rfl (lv_at hl 1 rfl) ?_
  have hm := mgk (wc := (wd_X10_isStanding cI cC cZ cB cJ a_m oJ uD dY iJ lJ jQ jR jW jK pJ bM aY jO gR gY mK jZ iY bG mJ jB mQ lY eJ bY bW aG jG bQ 0 jY m_length qG uW eY aJ aB bU dN aR aE bJ aW bT gJ dU bL bR bO mY pW)) hP aGm 3 rfl rfl rfl
  refine g_calli hP hD hS hA (mixT aGm) (mixF aGm) hm.1 hm.2 (nd_F _) (dis_g _) (g_runV (As := [.int p0]) (rest := []) C0 hP hD hS (mixT aGm) hm.1 (nd_T _) 0 10 rfl rfl (c_X10_isStanding l dC dI cI cC cZ cB cJ a_m oJ uD dY iJ lJ jQ jR jW jK pJ bM aY jO gR gY mK jZ iY bG mJ jB mQ lY eJ bY H.size p0 bW aG jG bQ 0 jY m_length qG uW eY aJ aB bU dN aR aE bJ aW bT gJ dU bL bR bO mY pW _ hp) q_757 q_760 q_758 q_759 q_642 h_X10_isStanding rfl rfl ⟨Nat.le_of_ble_eq_true rfl, Nat.le_of_ble_eq_true rfl⟩ rfl rfl hl.1 rfl (lv_room (Nat.le_of_ble_eq_true rfl)) eX10_standing_0.2.2.2.2.2.1 ⟨Nat.zero_le _, Nat.zero_le _⟩) (fun r_1 u H locs hp hP hD hS => ?_)
  have hPD := PDm (ws' := (wd_X10_standing cI cC cZ cB cJ a_m oJ uD dY iJ lJ jQ jR jW jK pJ bM aY jO gR gY mK jZ iY bG mJ jB mQ lY eJ bY bW aG jG bQ 0 jY m_length qG uW eY aJ aB bU dN aR aE bJ aW bT gJ dU bL bR bO mY pW oY pR)) hP hD 3 rfl rfl rfl
  have hP := hPD.1
  have hD := hPD.2
  refine lv_if_eq (tgt := 22) hx hb eX10_standing_0.2.2.2.2.2.2.1 (by decide) (fun hc => ?_) (fun hc => ?_)
  · have hp := hp.1 hc
    exact ks_X10_standing_22 C0 0 H locs ls hp hP hD hS (lv_sub hl [0] rfl)
  · have hp := hp.2 hc
    refine lv_iload_n hx hb eX10_standing_0.2.2.2.2.2.2.2.1 rfl (lv_at hl 2 rfl) ?_
    refine lv_iconst (v := 0) hx hb eX10_standing_0.2.2.2.2.2.2.2.2.1 ic_0 ?_
    refine lv_iconst (v := 2) hx hb eX10_standing_0.2.2.2.2.2.2.2.2.2.1 ic_2 ?_
    have hm := mgk (wc := (wd_X10_in cI cC cZ cB cJ)) hP aGv 3 rfl rfl rfl
    refine g_calli hP hD hS hA (mixT aGv) (mixF aGv) hm.1 hm.2 (nd_F _) (dis_g _) (g_runS (As := [.int p1, .int 0, .int 2]) (rest := []) C0 hP hD hS (mixT aGv) hm.1 (nd_T _) (c_X10_in l dC dI cI cC cZ cB cJ H.size p1 0 2 _ hp) q_641 q_644 q_643 q_642 h_X10_in rfl rfl ⟨Nat.le_of_ble_eq_true rfl, Nat.le_of_ble_eq_true rfl⟩ rfl rfl hl.1 rfl (lv_room (Nat.le_of_ble_eq_true rfl)) eX10_standing_0.2.2.2.2.2.2.2.2.2.2.1 ⟨Nat.zero_le _, Nat.zero_le _⟩) (fun r_4 u H locs hp hP hD hS => ?_)
    have hPD := PDm (ws' := (wd_X10_standing cI cC cZ cB cJ a_m oJ uD dY iJ lJ jQ jR jW jK pJ bM aY jO gR gY mK jZ iY bG mJ jB mQ lY eJ bY bW aG jG bQ 0 jY m_length qG uW eY aJ aB bU dN aR aE bJ aW bT gJ dU bL bR bO mY pW oY pR)) hP hD 3 rfl rfl rfl
    have hP := hPD.1
    have hD := hPD.2
    refine lv_if_ne (tgt := 27) hx hb eX10_standing_0.2.2.2.2.2.2.2.2.2.2.2.1 (by decide) (fun hc => ?_) (fun hc => ?_)
    · have hp := hp.1 hc
      refine lv_iload_n hx hb eX10_standing_0.2.2.2.2.2.2.2.2.2.2.2.2.2.2.2 rfl (lv_at hl 2 rfl) ?_
      refine lv_if_ne (tgt := 40) hx hb eX10_standing_28.1 (by decide) (fun hc => ?_) (fun hc => ?_)
      · have hp := hp.1 hc
        refine lv_iload_n hx hb eX10_standing_28.2.2.2.2.2.2.1 rfl (lv_at hl 2 rfl) ?_
        refine lv_iconst (v := 1) hx hb eX10_standing_28.2.2.2.2.2.2.2.1 ic_1 ?_
        refine lv_icmp_ne (tgt := 54) hx hb eX10_standing_28.2.2.2.2.2.2.2.2.1 (by decide) (fun hc => ?_) (fun hc => ?_)
        · have hp := hp.1 hc
          refine lv_aload_n hx hb eX10_standing_28.2.2.2.2.2.2.2.2.2.2.2.2.2.2.1 rfl (lv_at hl 0 rfl) ?_
          refine lv_iload_n hx hb eX10_standing_28.2.2.2.2.2.2.2.2.2.2.2.2.2.2.2 rfl (lv_at hl 1 rfl) ?_
          have hm := mgk (wc := (wd_X10_downOf cI cC cZ cB cJ a_m oJ uD dY iJ lJ jQ jR jW jK pJ bM aY jO gR gY mK jZ iY bG mJ jB mQ lY eJ bY bW aG jG bQ 0 jY m_length qG uW eY aJ aB bU dN aR aE bJ aW bT gJ dU bL bR bO mY pW pR)) hP aGw 3 rfl rfl rfl
          refine g_calli hP hD hS hA (mixT aGw) (mixF aGw) hm.1 hm.2 (nd_F _) (dis_g _) (g_runV (As := [.int p0]) (rest := []) C0 hP hD hS (mixT aGw) hm.1 (nd_T _) 0 10 rfl rfl (c_X10_downOf l dC dI cI cC cZ cB cJ a_m oJ uD dY iJ lJ jQ jR jW jK pJ bM aY jO gR gY mK jZ iY bG mJ jB mQ lY eJ bY H.size p0 bW aG jG bQ 0 jY m_length qG uW eY aJ aB bU dN aR aE bJ aW bT gJ dU bL bR bO mY pW pR _ hp) q_761 q_764 q_762 q_763 q_642 h_X10_downOf rfl rfl ⟨Nat.le_of_ble_eq_true rfl, Nat.le_of_ble_eq_true rfl⟩ rfl rfl hl.1 rfl (lv_room (Nat.le_of_ble_eq_true rfl)) eX10_standing_56.1 ⟨Nat.zero_le _, Nat.zero_le _⟩) (fun r_5 u H locs hp hP hD hS => ?_)
          have hPD := PDm (ws' := (wd_X10_standing cI cC cZ cB cJ a_m oJ uD dY iJ lJ jQ jR jW jK pJ bM aY jO gR gY mK jZ iY bG mJ jB mQ lY eJ bY bW aG jG bQ 0 jY m_length qG uW eY aJ aB bU dN aR aE bJ aW bT gJ dU bL bR bO mY pW oY pR)) hP hD 3 rfl rfl rfl
          have hP := hPD.1
          have hD := hPD.2
          exact W.iret (v := r_5) hx hb hr (fun t ht hW => ⟨⟨r_5, 0, rfl, hp, by rw [ht]; exact hP, va_K.moved hW.alike hK, hD⟩, hS.F ht⟩) hS.2.2 eX10_standing_56.2
        · have hp := hp.2 hc
          refine lv_aload_n hx hb eX10_standing_28.2.2.2.2.2.2.2.2.2.1 rfl (lv_at hl 0 rfl) ?_
          refine va_get (D := (dC, dI)) (ci := 10) (v := .ref jR) (C := RX10) (T := TX10) (N := 51) hx hb hts i_X10 hown hK hP 0 rfl rfl 8 (Nat.le_of_ble_eq_true rfl) (hts _ q_687) (fun _ h9 => h9) rfl eX10_standing_28.2.2.2.2.2.2.2.2.2.2.1 ?_
          refine lv_iload_n hx hb eX10_standing_28.2.2.2.2.2.2.2.2.2.2.2.1 rfl (lv_at hl 1 rfl) ?_
          have hin := hp.1
          have hp := hp.2
          refine va_iald hx hb hK hP 2 0 rfl rfl hin eX10_standing_28.2.2.2.2.2.2.2.2.2.2.2.2.1 ?_
          refine lv_topi (fun v_6 ev_6 => ?_)
          have hp := hp v_6 ev_6
          refine lv_goto (tgt := 59) hx hb eX10_standing_28.2.2.2.2.2.2.2.2.2.2.2.2.2.1 (by decide) ?_
          exact W.iret (v := v_6) hx hb hr (fun t ht hW => ⟨⟨v_6, 0, rfl, hp, by rw [ht]; exact hP, va_K.moved hW.alike hK, hD⟩, hS.F ht⟩) hS.2.2 eX10_standing_56.2
      · have hp := hp.2 hc
        refine lv_aload_n hx hb eX10_standing_28.2.1 rfl (lv_at hl 0 rfl) ?_
        refine va_get (D := (dC, dI)) (ci := 10) (v := .ref jQ) (C := RX10) (T := TX10) (N := 51) hx hb hts i_X10 hown hK hP 0 rfl rfl 7 (Nat.le_of_ble_eq_true rfl) (hts _ q_686) (fun _ h9 => h9) rfl eX10_standing_28.2.2.1 ?_
        refine lv_iload_n hx hb eX10_standing_28.2.2.2.1 rfl (lv_at hl 1 rfl) ?_
        have hin := hp.1
        have hp := hp.2
        refine va_iald hx hb hK hP 1 0 rfl rfl hin eX10_standing_28.2.2.2.2.1 ?_
        refine lv_topi (fun v_7 ev_7 => ?_)
        have hp := hp v_7 ev_7
        refine lv_goto (tgt := 59) hx hb eX10_standing_28.2.2.2.2.2.1 (by decide) ?_
        exact W.iret (v := v_7) hx hb hr (fun t ht hW => ⟨⟨v_7, 0, rfl, hp, by rw [ht]; exact hP, va_K.moved hW.alike hK, hD⟩, hS.F ht⟩) hS.2.2 eX10_standing_56.2
    · have hp := hp.2 hc
      exact ks_X10_standing_22 C0 0 H locs ls hp hP hD hS (lv_sub hl [0] rfl)
noncomputable abbrev wd_X10_set (cI cC cZ cB cJ : ClassId) (a_m oJ uD dY iJ lJ jQ jR jW jK pJ bM aY jO gR gY mK jZ iY bG mJ jB mQ lY eJ bY : Nat) (bW aG jG bQ dG : Int32) (jY : Nat) (m_length qG uW eY aJ aB bU dN aR aE bJ aW bT gJ dU bL bR bO mY pW : Int32) (pX : Nat → Int32) : va_W := [(a_m, .inr (10, [.ref oJ, .int bW, .ref uD, .ref dY, .ref iJ, .ref lJ, .int aG, .ref jQ, .ref jR, .ref jW, .ref jK, .int jG, .ref pJ, .int bQ, .int dG, rdv jK jO jY, .int m_length, .int qG, .int uW, .int eY, .ref bM, .ref aY, .int aJ, .int aB, .ref jO, .int bU, .int dN, .int aR, .int aE, .int bJ, .int aW, .ref gR, .int bT, .ref gY, .ref mK, .int gJ, .ref jZ, .int dU, .ref iY, .ref bG, .int bL, .int bR, .int bO, .ref mJ, .ref jB, .ref mQ, .int mY, .int pW, .ref lY, .ref eJ, .ref bY])), (jW, .inl (cI, 5, .inl pX))]
noncomputable abbrev q_X10_set (dC : Nat → ClassId) (dI : Nat → Nat → Nat) (cI cC cZ cB cJ : ClassId) (A : Nat → Prop) (a_m oJ uD dY iJ lJ jQ jR jW jK pJ bM aY jO gR gY mK jZ iY bG mJ jB mQ lY eJ bY : Nat) (bW aG jG bQ : Int32) (jY : Nat) (m_length qG uW eY aJ aB bU dN aR aE bJ aW bT gJ dU bL bR bO mY pW : Int32) (post : Int32 → Int32 → (Nat → Int32) → Prop) : Array Value → State → Outcome → State → Prop := va_Qi (fun (r : Int32) (u : Int32 × (Nat → Int32)) => post r u.1 u.2) (fun u t => gB (dC, dI) (tyl cI cC cZ cB cJ) A (wd_X10_set cI cC cZ cB cJ a_m oJ uD dY iJ lJ jQ jR jW jK pJ bM aY jO gR gY mK jZ iY bG mJ jB mQ lY eJ bY bW aG jG bQ u.1 jY m_length qG uW eY aJ aB bU dN aR aE bJ aW bT gJ dU bL bR bO mY pW u.2) t) A
noncomputable abbrev rm_X10_set : Room := { frames := 1, cells := 0, slots := 0, locals := 22 }
section S_X10_set
variable {p : Program} {l : Launch} {e : Env} {s : State} {m : MethodId} {args : Array Value} {below : List Frame} {meth : Method} {c : Code} {dC : Nat → ClassId} {dI : Nat → Nat → Nat} {cI cC cZ cB cJ : ClassId} {A : Nat → Prop} {a_m oJ uD dY iJ lJ jQ jR jW jK pJ bM aY jO gR gY mK jZ iY bG mJ jB mQ lY eJ bY : Nat} {bW aG jG bQ : Int32} {jY : Nat} {m_length qG uW eY aJ aB bU dN aR aE bJ aW bT gJ dU bL bR bO mY pW : Int32} {post : Int32 → Int32 → (Nat → Int32) → Prop}
noncomputable def ws_X10_set_47 (post : Int32 → Int32 → (Nat → Int32) → Prop) (x1 x2 k0 k1 k2 dG : Int32) (pX : Nat → Int32) : Prop := wp_X10_in (fun r_2 => (¬ r_2 = 0 → vp_in x1 5 ∧ (∀ v_3 : Int32, v_3 = pX x1.toNatClampNeg → vp_in x1 5 ∧ (post v_3 dG (upd pX x1.toNatClampNeg x2)))) ∧ (r_2 = 0 → post (-1) dG pX)) k0 k1 k2
set_option maxHeartbeats 4000000 in
set_option maxRecDepth 100000 in
theorem ks_X10_set_47 (C0 : gc cX10_set (some .int) 4 RX10 (dC, dI) (tyl cI cC cZ cB cJ) A p s m args meth c) : ∀ (x1 x2 k0 k1 k2 dG : Int32) (pX : Nat → Int32) (H : Heap) (locs : List Loc) (ls : Array Slot), (ws_X10_set_47 post) x1 x2 k0 k1 k2 dG pX → va_P (dC, dI) classes (wd_X10_set cI cC cZ cB cJ a_m oJ uD dY iJ lJ jQ jR jW jK pJ bM aY jO gR gY mK jZ iY bG mJ jB mQ lY eJ bY bW aG jG bQ dG jY m_length qG uW eY aJ aB bU dN aR aE bJ aW bT gJ dU bL bR bO mY pW pX) H → va_D A (wd_X10_set cI cC cZ cB cJ a_m oJ uD dY iJ lJ jQ jR jW jK pJ bM aY jO gR gY mK jZ iY bG mJ jB mQ lY eJ bY bW aG jG bQ dG jY m_length qG uW eY aJ aB bU dN aR aE bJ aW bT gJ dU bL bR bO mY pW pX) → va_S A s.heap H locs → lv_has ls 4 [(0, .ref a_m), (1, .int x1), (2, .int x2)] → W p l e rm_X10_set s m args below meth c H locs 0 0 (MQ below (q_X10_set dC dI cI cC cZ cB cJ A a_m oJ uD dY iJ lJ jQ jR jW jK pJ bM aY jO gR gY mK jZ iY bG mJ jB mQ lY eJ bY bW aG jG bQ jY m_length qG uW eY aJ aB bU dN aR aE bJ aW bT gJ dU bL bR bO mY pW post) args s 0 0 A) (F0 m 47 ls [.int k2, .int k1, .int k0]) := by
  obtain ⟨hx, hb, hr, hml, hown, hts, hlocks, hA, hK, hN, tL, tM, hZL, hTL, hZM, hTM, hZX⟩ := id C0
  intro x1 x2 k0 k1 k2 dG pX H locs ls hp hP hD hS hl
  unfold ws_X10_set_47 at hp
  refine g_calli (wc := (wd_X10_in cI cC cZ cB cJ)) hP hD hS hA [] [0, 1] rfl rfl rfl rfl (g_runS (As := [.int k0, .int k1, .int k2]) (rest := []) C0 hP hD hS [] rfl rfl (c_X10_in l dC dI cI cC cZ cB cJ H.size k0 k1 k2 _ hp) q_641 q_644 q_643 q_642 h_X10_in rfl rfl ⟨Nat.le_of_ble_eq_true rfl, Nat.le_of_ble_eq_true rfl⟩ rfl rfl hl.1 rfl (lv_room (Nat.le_of_ble_eq_true rfl)) eX10_set_26.2.2.2.2.2.2.2.2.2.2.1 ⟨Nat.zero_le _, Nat.zero_le _⟩) (fun r_2 u H locs hp hP hD hS => ?_)
  have hPD := PDs (ws' := (wd_X10_set cI cC cZ cB cJ a_m oJ uD dY iJ lJ jQ jR jW jK pJ bM aY jO gR gY mK jZ iY bG mJ jB mQ lY eJ bY bW aG jG bQ dG jY m_length qG uW eY aJ aB bU dN aR aE bJ aW bT gJ dU bL bR bO mY pW pX)) hP hD [0, 1] (by decide) rfl
  have hP := hPD.1
  have hD := hPD.2
  refine lv_if_ne (tgt := 55) hx hb eX10_set_26.2.2.2.2.2.2.2.2.2.2.2.1 (by decide) (fun hc => ?_) (fun hc => ?_)
  · have hp := hp.1 hc
    refine lv_aload_n hx hb eX10_set_26.2.2.2.2.2.2.2.2.2.2.2.2.2.2.1 rfl (lv_at hl 0 rfl) ?_
    refine va_get (D := (dC, dI)) (ci := 10) (v := .ref jW) (C := RX10) (T := TX10) (N := 51) hx hb hts i_X10 hown hK hP 0 rfl rfl 9 (Nat.le_of_ble_eq_true rfl) (hts _ q_765) (fun _ h9 => h9) rfl eX10_set_26.2.2.2.2.2.2.2.2.2.2.2.2.2.2.2 ?_
    refine lv_iload_n hx hb eX10_set_59.1 rfl (lv_at hl 1 rfl) ?_
    have hin := hp.1
    have hp := hp.2
    refine va_iald hx hb hK hP 1 0 rfl rfl hin eX10_set_59.2.1 ?_
    refine lv_topi (fun v_3 ev_3 => ?_)
    have hp := hp v_3 ev_3
    refine lv_istore_n (lv' := [(3, .int v_3), (0, .ref a_m), (1, .int x1), (2, .int x2)]) hx hb eX10_set_59.2.2.1 rfl hl (by decide) rfl (fun ls hl => ?_)
    refine lv_aload_n hx hb eX10_set_59.2.2.2.1 rfl (lv_at hl 1 rfl) ?_
    refine va_get (D := (dC, dI)) (ci := 10) (v := .ref jW) (C := RX10) (T := TX10) (N := 51) hx hb hts i_X10 hown hK hP 0 rfl rfl 9 (Nat.le_of_ble_eq_true rfl) (hts _ q_765) (fun _ h9 => h9) rfl eX10_set_59.2.2.2.2.1 ?_
    refine lv_iload_n hx hb eX10_set_59.2.2.2.2.2.1 rfl (lv_at hl 2 rfl) ?_
    refine lv_iload_n hx hb eX10_set_59.2.2.2.2.2.2.1 rfl (lv_at hl 3 rfl) ?_
    have hin := hp.1
    have hp := hp.2
    refine va_iast hx hb hK hP hD hS 1 0 rfl rfl hin eX10_set_59.2.2.2.2.2.2.2.1 (fun H locs hP hD hS => ?_)
    have hP : va_P (dC, dI) classes (wd_X10_set cI cC cZ cB cJ a_m oJ uD dY iJ lJ jQ jR jW jK pJ bM aY jO gR gY mK jZ iY bG mJ jB mQ lY eJ bY bW aG jG bQ dG jY m_length qG uW eY aJ aB bU dN aR aE bJ aW bT gJ dU bL bR bO mY pW (upd pX x1.toNatClampNeg x2)) H := hP
    have hD : va_D A (wd_X10_set cI cC cZ cB cJ a_m oJ uD dY iJ lJ jQ jR jW jK pJ bM aY jO gR gY mK jZ iY bG mJ jB mQ lY eJ bY bW aG jG bQ dG jY m_length qG uW eY aJ aB bU dN aR aE bJ aW bT gJ dU bL bR bO mY pW (upd pX x1.toNatClampNeg x2)) := hD
    refine lv_iload_n hx hb eX10_set_59.2.2.2.2.2.2.2.2.1 rfl (lv_at hl 0 rfl) ?_
    exact W.iret (v := v_3) hx hb hr (fun t ht hW => ⟨⟨v_3, (dG, (upd pX x1.toNatClampNeg x2)), rfl, hp, by rw [ht]; exact hP, va_K.moved hW.alike hK, hD⟩, hS.F ht⟩) hS.2.2 eX10_set_59.2.2.2.2.2.2.2.2.2
  · have hp := hp.2 hc
    refine lv_iconst (v := (-1)) hx hb eX10_set_26.2.2.2.2.2.2.2.2.2.2.2.2.1 ic_m1 ?_
    exact W.iret (v := (-1)) hx hb hr (fun t ht hW => ⟨⟨(-1), (dG, pX), rfl, hp, by rw [ht]; exact hP, va_K.moved hW.alike hK, hD⟩, hS.F ht⟩) hS.2.2 eX10_set_26.2.2.2.2.2.2.2.2.2.2.2.2.2.1
noncomputable def ws_X10_set_25 (post : Int32 → Int32 → (Nat → Int32) → Prop) (x1 x2 k0 k1 dG : Int32) (pX : Nat → Int32) : Prop := (¬ x1 = 4 → (¬ x1 = 3 → ws_X10_set_47 post x1 x2 k0 k1 30 dG pX) ∧ (x1 = 3 → ws_X10_set_47 post x1 x2 k0 k1 9 dG pX)) ∧ (x1 = 4 → ws_X10_set_47 post x1 x2 k0 k1 16 dG pX)
set_option maxHeartbeats 4000000 in
set_option maxRecDepth 100000 in
theorem ks_X10_set_25 (C0 : gc cX10_set (some .int) 4 RX10 (dC, dI) (tyl cI cC cZ cB cJ) A p s m args meth c) : ∀ (x1 x2 k0 k1 dG : Int32) (pX : Nat → Int32) (H : Heap) (locs : List Loc) (ls : Array Slot), (ws_X10_set_25 post) x1 x2 k0 k1 dG pX → va_P (dC, dI) classes (wd_X10_set cI cC cZ cB cJ a_m oJ uD dY iJ lJ jQ jR jW jK pJ bM aY jO gR gY mK jZ iY bG mJ jB mQ lY eJ bY bW aG jG bQ dG jY m_length qG uW eY aJ aB bU dN aR aE bJ aW bT gJ dU bL bR bO mY pW pX) H → va_D A (wd_X10_set cI cC cZ cB cJ a_m oJ uD dY iJ lJ jQ jR jW jK pJ bM aY jO gR gY mK jZ iY bG mJ jB mQ lY eJ bY bW aG jG bQ dG jY m_length qG uW eY aJ aB bU dN aR aE bJ aW bT gJ dU bL bR bO mY pW pX) → va_S A s.heap H locs → lv_has ls 4 [(0, .ref a_m), (1, .int x1), (2, .int x2)] → W p l e rm_X10_set s m args below meth c H locs 0 0 (MQ below (q_X10_set dC dI cI cC cZ cB cJ A a_m oJ uD dY iJ lJ jQ jR jW jK pJ bM aY jO gR gY mK jZ iY bG mJ jB mQ lY eJ bY bW aG jG bQ jY m_length qG uW eY aJ aB bU dN aR aE bJ aW bT gJ dU bL bR bO mY pW post) args s 0 0 A) (F0 m 25 ls [.int k1, .int k0]) := by
  obtain ⟨hx, hb, hr, hml, hown, hts, hlocks, hA, hK, hN, tL, tM, hZL, hTL, hZM, hTM, hZX⟩ := id C0
  intro x1 x2 k0 k1 dG pX H locs ls hp hP hD hS hl
  unfold ws_X10_set_25 at hp
  refine lv_iload_n hx hb eX10_set_0.2.2.2.2.2.2.2.2.2.2.2.2.2.2.2 rfl (lv_at hl 1 rfl) ?_
  refine lv_iconst (v := 4) hx hb eX10_set_26.1 ic_4 ?_
  refine lv_icmp_ne (tgt := 35) hx hb eX10_set_26.2.1 (by decide) (fun hc => ?_) (fun hc => ?_)
  · have hp := hp.1 hc
    refine lv_iload_n hx hb eX10_set_26.2.2.2.2.1 rfl (lv_at hl 1 rfl) ?_
    refine lv_iconst (v := 3) hx hb eX10_set_26.2.2.2.2.2.1 ic_3 ?_
    refine lv_icmp_ne (tgt := 45) hx hb eX10_set_26.2.2.2.2.2.2.1 (by decide) (fun hc => ?_) (fun hc => ?_)
    · have hp := hp.1 hc
      refine lv_bipush (v := 30) hx hb eX10_set_26.2.2.2.2.2.2.2.2.2.1 bp_30 ?_
      exact ks_X10_set_47 C0 x1 x2 k0 k1 30 dG pX H locs ls hp hP hD hS (lv_sub hl [0, 1, 2] rfl)
    · have hp := hp.2 hc
      refine lv_bipush (v := 9) hx hb eX10_set_26.2.2.2.2.2.2.2.1 bp_9 ?_
      refine lv_goto (tgt := 47) hx hb eX10_set_26.2.2.2.2.2.2.2.2.1 (by decide) ?_
      exact ks_X10_set_47 C0 x1 x2 k0 k1 9 dG pX H locs ls hp hP hD hS (lv_sub hl [0, 1, 2] rfl)
  · have hp := hp.2 hc
    refine lv_bipush (v := 16) hx hb eX10_set_26.2.2.1 bp_16 ?_
    refine lv_goto (tgt := 47) hx hb eX10_set_26.2.2.2.1 (by decide) ?_
    exact ks_X10_set_47 C0 x1 x2 k0 k1 16 dG pX H locs ls hp hP hD hS (lv_sub hl [0, 1, 2] rfl)
end S_X10_set
noncomputable def wp_X10_set (post : Int32 → Int32 → (Nat → Int32) → Prop) (p0 p1 dG : Int32) (pX : Nat → Int32) : Prop := wp_X10_in (fun r_1 => (r_1 = 0 → post (-1) 0 pX) ∧ (¬ r_1 = 0 → (¬ p0 = 4 → ws_X10_set_25 post p0 p1 p1 0 0 pX) ∧ (p0 = 4 → ws_X10_set_25 post p0 p1 p1 1 0 pX))) p0 0 4
set_option maxHeartbeats 4000000 in
set_option maxRecDepth 100000 in
theorem c_X10_set (l : Launch) (dC : Nat → ClassId) (dI : Nat → Nat → Nat) (cI cC cZ cB cJ : ClassId) (a_m oJ uD dY iJ lJ jQ jR jW jK pJ bM aY jO gR gY mK jZ iY bG mJ jB mQ lY eJ bY sz : Nat) (p0 p1 bW aG jG bQ dG : Int32) (jY : Nat) (m_length qG uW eY aJ aB bU dN aR aE bJ aW bT gJ dU bL bR bO mY pW : Int32) (pX : Nat → Int32) (post : Int32 → Int32 → (Nat → Int32) → Prop) (hw : wp_X10_set post p0 p1 dG pX) : Met l yX10_set (gw yX10_set cX10_set 4 (some .int)) rm_X10_set (va_Pc [.ref a_m, .int p0, .int p1] (gPre (dC, dI) (tyl cI cC cZ cB cJ) (wd_X10_set cI cC cZ cB cJ a_m oJ uD dY iJ lJ jQ jR jW jK pJ bM aY jO gR gY mK jZ iY bG mJ jB mQ lY eJ bY bW aG jG bQ dG jY m_length qG uW eY aJ aB bU dN aR aE bJ aW bT gJ dU bL bR bO mY pW pX) sz)) (q_X10_set dC dI cI cC cZ cB cJ (va_A (wd_X10_set cI cC cZ cB cJ a_m oJ uD dY iJ lJ jQ jR jW jK pJ bM aY jO gR gY mK jZ iY bG mJ jB mQ lY eJ bY bW aG jG bQ dG jY m_length qG uW eY aJ aB bU dN aR aE bJ aW bT gJ dU bL bR bO mY pW pX) sz) a_m oJ uD dY iJ lJ jQ jR jW jK pJ bM aY jO gR gY mK jZ iY bG mJ jB mQ lY eJ bY bW aG jG bQ jY m_length qG uW eY aJ aB bU dN aR aE bJ aW bT gJ dU bL bR bO mY pW post) 0 0 (va_A (wd_X10_set cI cC cZ cB cJ a_m oJ uD dY iJ lJ jQ jR jW jK pJ bM aY jO gR gY mK jZ iY bG mJ jB mQ lY eJ bY bW aG jG bQ dG jY m_length qG uW eY aJ aB bU dN aR aE bJ aW bT gJ dU bL bR bO mY pW pX) sz) := by
  refine g_enter (own := RX10) (dC, dI) (tyl cI cC cZ cB cJ) (wd_X10_set cI cC cZ cB cJ a_m oJ uD dY iJ lJ jQ jR jW jK pJ bM aY jO gR gY mK jZ iY bG mJ jB mQ lY eJ bY bW aG jG bQ dG jY m_length qG uW eY aJ aB bU dN aR aE bJ aW bT gJ dU bL bR bO mY pW pX) sz [.ref a_m, .int p0, .int p1] (fun A => q_X10_set dC dI cI cC cZ cB cJ A a_m oJ uD dY iJ lJ jQ jR jW jK pJ bM aY jO gR gY mK jZ iY bG mJ jB mQ lY eJ bY bW aG jG bQ jY m_length qG uW eY aJ aB bU dN aR aE bJ aW bT gJ dU bL bR bO mY pW post) pn_RX10 rfl (Nat.le_of_ble_eq_true rfl) ?_
  intro p e s m args below meth c A H locs ls C0 hP hD hS hl
  have hl : lv_has ls 4 [(0, .ref a_m), (1, .int p0), (2, .int p1)] := hl
  obtain ⟨hx, hb, hr, hml, hown, hts, hlocks, hA, hK, hN, tL, tM, hZL, hTL, hZM, hTM, hZX⟩ := id C0
  have hp := hw
  unfold wp_X10_set at hp
  refine lv_aload_n hx hb eX10_set_0.1 rfl (lv_at hl 0 rfl) ?_
  refine lv_iconst (v := 0) hx hb eX10_set_0.2.1 ic_0 ?_
  refine va_put (D := (dC, dI)) (ci := 10) (v := .int 0) (ty := .int) (C := RX10) (T := TX10) (N := 51) hx hb hts i_X10 tyX10 tyX10_ok nmX10 hown hK hP hD hS 0 rfl rfl 14 (Nat.le_of_ble_eq_true rfl) (hts _ q_638) (fun _ h9 => h9) rfl (tyX10_ok 14 (Nat.le_of_ble_eq_true rfl)) rfl rfl (Nat.le_of_ble_eq_true rfl) eX10_set_0.2.2.1 (fun H locs hP hD hS => ?_)
  have hP : va_P (dC, dI) classes (wd_X10_set cI cC cZ cB cJ a_m oJ uD dY iJ lJ jQ jR jW jK pJ bM aY jO gR gY mK jZ iY bG mJ jB mQ lY eJ bY bW aG jG bQ 0 jY m_length qG uW eY aJ aB bU dN aR aE bJ aW bT gJ dU bL bR bO mY pW pX) H := hP
  have hD : va_D A (wd_X10_set cI cC cZ cB cJ a_m oJ uD dY iJ lJ jQ jR jW jK pJ bM aY jO gR gY mK jZ iY bG mJ jB mQ lY eJ bY bW aG jG bQ 0 jY m_length qG uW eY aJ aB bU dN aR aE bJ aW bT gJ dU bL bR bO mY pW pX) := hD
  refine lv_iload_n hx hb eX10_set_0.2.2.2.1 rfl (lv_at hl 1 rfl) ?_
  refine lv_iconst (v := 0) hx hb eX10_set_0.2.2.2.2.1 ic_0 ?_
  refine lv_iconst (v := 4) hx hb eX10_set_0.2.2.2.2.2.1 ic_4 ?_
  refine g_calli (wc := (wd_X10_in cI cC cZ cB cJ)) hP hD hS hA [] [0, 1] rfl rfl rfl rfl (g_runS (As := [.int p0, .int 0, .int 4]) (rest := []) C0 hP hD hS [] rfl rfl (c_X10_in l dC dI cI cC cZ cB cJ H.size p0 0 4 _ hp) q_641 q_644 q_643 q_642 h_X10_in rfl rfl ⟨Nat.le_of_ble_eq_true rfl, Nat.le_of_ble_eq_true rfl⟩ rfl rfl hl.1 rfl (lv_room (Nat.le_of_ble_eq_true rfl)) eX10_set_0.2.2.2.2.2.2.1 ⟨Nat.zero_le _, Nat.zero_le _⟩) (fun r_1 u H locs hp hP hD hS => ?_)
  have hPD := PDs (ws' := (wd_X10_set cI cC cZ cB cJ a_m oJ uD dY iJ lJ jQ jR jW jK pJ bM aY jO gR gY mK jZ iY bG mJ jB mQ lY eJ bY bW aG jG bQ 0 jY m_length qG uW eY aJ aB bU dN aR aE bJ aW bT gJ dU bL bR bO mY pW pX)) hP hD [0, 1] (by decide) rfl
  have hP := hPD.1
  have hD := hPD.2
  refine lv_if_eq (tgt := 53) hx hb eX10_set_0.2.2.2.2.2.2.2.1 (by decide) (fun hc => ?_) (fun hc => ?_)
  · have hp := hp.1 hc
    refine lv_iconst (v := (-1)) hx hb eX10_set_26.2.2.2.2.2.2.2.2.2.2.2.2.1 ic_m1 ?_
    exact W.iret (v := (-1)) hx hb hr (fun t ht hW => ⟨⟨(-1), (0, pX), rfl, hp, by rw [ht]; exact hP, va_K.moved hW.alike hK, hD⟩, hS.F ht⟩) hS.2.2 eX10_set_26.2.2.2.2.2.2.2.2.2.2.2.2.2.1
  · have hp := hp.2 hc
    refine lv_iload_n hx hb eX10_set_0.2.2.2.2.2.2.2.2.1 rfl (lv_at hl 2 rfl) ?_
    refine lv_iload_n hx hb eX10_set_0.2.2.2.2.2.2.2.2.2.1 rfl (lv_at hl 1 rfl) ?_
    refine lv_iconst (v := 4) hx hb eX10_set_0.2.2.2.2.2.2.2.2.2.2.1 ic_4 ?_
    refine lv_icmp_ne (tgt := 24) hx hb eX10_set_0.2.2.2.2.2.2.2.2.2.2.2.1 (by decide) (fun hc => ?_) (fun hc => ?_)
    · have hp := hp.1 hc
      refine lv_iconst (v := 0) hx hb eX10_set_0.2.2.2.2.2.2.2.2.2.2.2.2.2.2.1 ic_0 ?_
      exact ks_X10_set_25 C0 p0 p1 p1 0 0 pX H locs ls hp hP hD hS (lv_sub hl [0, 1, 2] rfl)
    · have hp := hp.2 hc
      refine lv_iconst (v := 1) hx hb eX10_set_0.2.2.2.2.2.2.2.2.2.2.2.2.1 ic_1 ?_
      refine lv_goto (tgt := 25) hx hb eX10_set_0.2.2.2.2.2.2.2.2.2.2.2.2.2.1 (by decide) ?_
      exact ks_X10_set_25 C0 p0 p1 p1 1 0 pX H locs ls hp hP hD hS (lv_sub hl [0, 1, 2] rfl)
noncomputable abbrev wd_X10_sheet (cI cC cZ cB cJ : ClassId) (a_m oJ uD dY iJ lJ jQ jR jW jK pJ bM aY jO gR gY mK jZ iY bG mJ jB mQ lY eJ bY : Nat) (bW aG jG bQ dG : Int32) (jY : Nat) (m_length qG uW eY aJ aB bU dN aR aE bJ aW bT gJ dU bL bR bO mY pW : Int32) (pY : Nat → Int32) : va_W := [(a_m, .inr (10, [.ref oJ, .int bW, .ref uD, .ref dY, .ref iJ, .ref lJ, .int aG, .ref jQ, .ref jR, .ref jW, .ref jK, .int jG, .ref pJ, .int bQ, .int dG, rdv jK jO jY, .int m_length, .int qG, .int uW, .int eY, .ref bM, .ref aY, .int aJ, .int aB, .ref jO, .int bU, .int dN, .int aR, .int aE, .int bJ, .int aW, .ref gR, .int bT, .ref gY, .ref mK, .int gJ, .ref jZ, .int dU, .ref iY, .ref bG, .int bL, .int bR, .int bO, .ref mJ, .ref jB, .ref mQ, .int mY, .int pW, .ref lY, .ref eJ, .ref bY])), (iJ, .inl (cI, 16, .inl pY))]
noncomputable abbrev q_X10_sheet (dC : Nat → ClassId) (dI : Nat → Nat → Nat) (cI cC cZ cB cJ : ClassId) (A : Nat → Prop) (a_m oJ uD dY iJ lJ jQ jR jW jK pJ bM aY jO gR gY mK jZ iY bG mJ jB mQ lY eJ bY : Nat) (bW aG jG bQ : Int32) (jY : Nat) (m_length qG uW eY aJ aB bU dN aR aE bJ aW bT gJ dU bL bR bO mY pW : Int32) (post : Int32 → Int32 → (Nat → Int32) → Prop) : Array Value → State → Outcome → State → Prop := va_Qi (fun (r : Int32) (u : Int32 × (Nat → Int32)) => post r u.1 u.2) (fun u t => gB (dC, dI) (tyl cI cC cZ cB cJ) A (wd_X10_sheet cI cC cZ cB cJ a_m oJ uD dY iJ lJ jQ jR jW jK pJ bM aY jO gR gY mK jZ iY bG mJ jB mQ lY eJ bY bW aG jG bQ u.1 jY m_length qG uW eY aJ aB bU dN aR aE bJ aW bT gJ dU bL bR bO mY pW u.2) t) A
noncomputable abbrev rm_X10_sheet : Room := { frames := 1, cells := 0, slots := 0, locals := 22 }
section S_X10_sheet
variable {p : Program} {l : Launch} {e : Env} {s : State} {m : MethodId} {args : Array Value} {below : List Frame} {meth : Method} {c : Code} {dC : Nat → ClassId} {dI : Nat → Nat → Nat} {cI cC cZ cB cJ : ClassId} {A : Nat → Prop} {a_m oJ uD dY iJ lJ jQ jR jW jK pJ bM aY jO gR gY mK jZ iY bG mJ jB mQ lY eJ bY : Nat} {bW aG jG bQ : Int32} {jY : Nat} {m_length qG uW eY aJ aB bU dN aR aE bJ aW bT gJ dU bL bR bO mY pW : Int32} {post : Int32 → Int32 → (Nat → Int32) → Prop}
noncomputable def ws_X10_sheet_109 (post : Int32 → Int32 → (Nat → Int32) → Prop) (K43 : Int32 → Int32 → Int32 → Int32 → Int32 → Int32 → Int32 → (Nat → Int32) → Prop) (bW x1 x2 x4 x5 x6 x7 k1 k2 dG : Int32) (pY : Nat → Int32) : Prop := vp_in k1 16 ∧ (vp_in x7 16 ∧ (∀ v_2 : Int32, v_2 = x5 + ((upd pY k1.toNatClampNeg k2) x7.toNatClampNeg) → ∀ v_3 : Int32, v_3 = x6 + x4 → ∀ v_4 : Int32, v_4 = x7 + 1 → K43 x1 x2 x4 v_2 v_3 v_4 dG (upd pY k1.toNatClampNeg k2)))
set_option maxHeartbeats 4000000 in
set_option maxRecDepth 100000 in
theorem ks_X10_sheet_109 (C0 : gc cX10_sheet (some .int) 9 RX10 (dC, dI) (tyl cI cC cZ cB cJ) A p s m args meth c) {K43 : Int32 → Int32 → Int32 → Int32 → Int32 → Int32 → Int32 → (Nat → Int32) → Prop} (hK43 : ∀ (x1 : Int32) (x2 : Int32) (x4 : Int32) (x5 : Int32) (x6 : Int32) (x7 : Int32) (dG : Int32) (pY : Nat → Int32) (H : Heap) (locs : List Loc) (ls : Array Slot), K43 x1 x2 x4 x5 x6 x7 dG pY → va_P (dC, dI) classes (wd_X10_sheet cI cC cZ cB cJ a_m oJ uD dY iJ lJ jQ jR jW jK pJ bM aY jO gR gY mK jZ iY bG mJ jB mQ lY eJ bY bW aG jG bQ dG jY m_length qG uW eY aJ aB bU dN aR aE bJ aW bT gJ dU bL bR bO mY pW pY) H → va_D A (wd_X10_sheet cI cC cZ cB cJ a_m oJ uD dY iJ lJ jQ jR jW jK pJ bM aY jO gR gY mK jZ iY bG mJ jB mQ lY eJ bY bW aG jG bQ dG jY m_length qG uW eY aJ aB bU dN aR aE bJ aW bT gJ dU bL bR bO mY pW pY) → va_S A s.heap H locs → lv_has ls 9 [(0, .ref a_m), (1, .int x1), (2, .int x2), (4, .int x4), (5, .int x5), (6, .int x6), (7, .int x7)] → W p l e rm_X10_sheet s m args below meth c H locs 0 0 (MQ below (q_X10_sheet dC dI cI cC cZ cB cJ A a_m oJ uD dY iJ lJ jQ jR jW jK pJ bM aY jO gR gY mK jZ iY bG mJ jB mQ lY eJ bY bW aG jG bQ jY m_length qG uW eY aJ aB bU dN aR aE bJ aW bT gJ dU bL bR bO mY pW post) args s 0 0 A) (F0 m 43 ls [])) : ∀ (x1 x2 x4 x5 x6 x7 k1 k2 dG : Int32) (pY : Nat → Int32) (H : Heap) (locs : List Loc) (ls : Array Slot), (ws_X10_sheet_109 post K43 bW) x1 x2 x4 x5 x6 x7 k1 k2 dG pY → va_P (dC, dI) classes (wd_X10_sheet cI cC cZ cB cJ a_m oJ uD dY iJ lJ jQ jR jW jK pJ bM aY jO gR gY mK jZ iY bG mJ jB mQ lY eJ bY bW aG jG bQ dG jY m_length qG uW eY aJ aB bU dN aR aE bJ aW bT gJ dU bL bR bO mY pW pY) H → va_D A (wd_X10_sheet cI cC cZ cB cJ a_m oJ uD dY iJ lJ jQ jR jW jK pJ bM aY jO gR gY mK jZ iY bG mJ jB mQ lY eJ bY bW aG jG bQ dG jY m_length qG uW eY aJ aB bU dN aR aE bJ aW bT gJ dU bL bR bO mY pW pY) → va_S A s.heap H locs → lv_has ls 9 [(0, .ref a_m), (1, .int x1), (2, .int x2), (4, .int x4), (5, .int x5), (6, .int x6), (7, .int x7)] → W p l e rm_X10_sheet s m args below meth c H locs 0 0 (MQ below (q_X10_sheet dC dI cI cC cZ cB cJ A a_m oJ uD dY iJ lJ jQ jR jW jK pJ bM aY jO gR gY mK jZ iY bG mJ jB mQ lY eJ bY bW aG jG bQ jY m_length qG uW eY aJ aB bU dN aR aE bJ aW bT gJ dU bL bR bO mY pW post) args s 0 0 A) (F0 m 109 ls [.int k2, .int k1, .ref iJ]) := by
  obtain ⟨hx, hb, hr, hml, hown, hts, hlocks, hA, hK, hN, tL, tM, hZL, hTL, hZM, hTM, hZX⟩ := id C0
  intro x1 x2 x4 x5 x6 x7 k1 k2 dG pY H locs ls hp hP hD hS hl
  unfold ws_X10_sheet_109 at hp
  have hin := hp.1
  have hp := hp.2
  refine va_iast hx hb hK hP hD hS 1 0 rfl rfl hin eX10_sheet_85.2.2.2.2.2.2.2.2.2.2.2.1 (fun H locs hP hD hS => ?_)
  have hP : va_P (dC, dI) classes (wd_X10_sheet cI cC cZ cB cJ a_m oJ uD dY iJ lJ jQ jR jW jK pJ bM aY jO gR gY mK jZ iY bG mJ jB mQ lY eJ bY bW aG jG bQ dG jY m_length qG uW eY aJ aB bU dN aR aE bJ aW bT gJ dU bL bR bO mY pW (upd pY k1.toNatClampNeg k2)) H := hP
  have hD : va_D A (wd_X10_sheet cI cC cZ cB cJ a_m oJ uD dY iJ lJ jQ jR jW jK pJ bM aY jO gR gY mK jZ iY bG mJ jB mQ lY eJ bY bW aG jG bQ dG jY m_length qG uW eY aJ aB bU dN aR aE bJ aW bT gJ dU bL bR bO mY pW (upd pY k1.toNatClampNeg k2)) := hD
  refine lv_iload hx hb eX10_sheet_85.2.2.2.2.2.2.2.2.2.2.2.2.1 (lv_at hl 4 rfl) ?_
  refine lv_aload_n hx hb eX10_sheet_85.2.2.2.2.2.2.2.2.2.2.2.2.2.1 rfl (lv_at hl 0 rfl) ?_
  refine va_get (D := (dC, dI)) (ci := 10) (v := .ref iJ) (C := RX10) (T := TX10) (N := 51) hx hb hts i_X10 hown hK hP 0 rfl rfl 4 (Nat.le_of_ble_eq_true rfl) (hts _ q_690) (fun _ h9 => h9) rfl eX10_sheet_85.2.2.2.2.2.2.2.2.2.2.2.2.2.2.1 ?_
  refine lv_iload hx hb eX10_sheet_85.2.2.2.2.2.2.2.2.2.2.2.2.2.2.2 (lv_at hl 6 rfl) ?_
  have hin := hp.1
  have hp := hp.2
  refine va_iald hx hb hK hP 1 0 rfl rfl hin eX10_sheet_118.1 ?_
  refine lv_iadd hx hb eX10_sheet_118.2.1 ?_
  refine lv_topi (fun v_2 ev_2 => ?_)
  have hp := hp v_2 ev_2
  refine lv_istore (lv' := [(5, .int v_2), (0, .ref a_m), (1, .int x1), (2, .int x2), (4, .int x4), (6, .int x6), (7, .int x7)]) hx hb eX10_sheet_118.2.2.1 hl (by decide) rfl (fun ls hl => ?_)
  refine lv_iload hx hb eX10_sheet_118.2.2.2.1 (lv_at hl 5 rfl) ?_
  refine lv_iload hx hb eX10_sheet_118.2.2.2.2.1 (lv_at hl 4 rfl) ?_
  refine lv_iadd hx hb eX10_sheet_118.2.2.2.2.2.1 ?_
  refine lv_topi (fun v_3 ev_3 => ?_)
  have hp := hp v_3 ev_3
  refine lv_istore (lv' := [(6, .int v_3), (5, .int v_2), (0, .ref a_m), (1, .int x1), (2, .int x2), (4, .int x4), (7, .int x7)]) hx hb eX10_sheet_118.2.2.2.2.2.2.1 hl (by decide) rfl (fun ls hl => ?_)
  obtain ⟨v_4, ev_4⟩ : ∃ y : Int32, y = x7 + 1 := ⟨_, rfl⟩
  refine lv_iinc (v := v_4) (lv' := [(7, .int v_4), (6, .int v_3), (5, .int v_2), (0, .ref a_m), (1, .int x1), (2, .int x2), (4, .int x4)]) hx hb eX10_sheet_118.2.2.2.2.2.2.2.1 hl (k := 6) rfl (by rw [ev_4]; rfl) (by decide) rfl (fun ls hl => ?_)
  have hp := hp v_4 ev_4
  refine lv_goto (tgt := 43) hx hb eX10_sheet_118.2.2.2.2.2.2.2.2.1 (by decide) ?_
  exact hK43 x1 x2 x4 v_2 v_3 v_4 dG (upd pY k1.toNatClampNeg k2) H locs ls hp hP hD hS (lv_sub hl [3, 4, 5, 6, 2, 1, 0] rfl)
noncomputable def ws_X10_sheet_94 (post : Int32 → Int32 → (Nat → Int32) → Prop) (K43 : Int32 → Int32 → Int32 → Int32 → Int32 → Int32 → Int32 → (Nat → Int32) → Prop) (bW x1 x2 x4 x5 x6 x7 k1 dG : Int32) (pY : Nat → Int32) : Prop := ws_X10_sheet_109 post K43 bW x1 x2 x4 x5 x6 x7 k1 0 dG pY
set_option maxHeartbeats 4000000 in
set_option maxRecDepth 100000 in
theorem ks_X10_sheet_94 (C0 : gc cX10_sheet (some .int) 9 RX10 (dC, dI) (tyl cI cC cZ cB cJ) A p s m args meth c) {K43 : Int32 → Int32 → Int32 → Int32 → Int32 → Int32 → Int32 → (Nat → Int32) → Prop} (hK43 : ∀ (x1 : Int32) (x2 : Int32) (x4 : Int32) (x5 : Int32) (x6 : Int32) (x7 : Int32) (dG : Int32) (pY : Nat → Int32) (H : Heap) (locs : List Loc) (ls : Array Slot), K43 x1 x2 x4 x5 x6 x7 dG pY → va_P (dC, dI) classes (wd_X10_sheet cI cC cZ cB cJ a_m oJ uD dY iJ lJ jQ jR jW jK pJ bM aY jO gR gY mK jZ iY bG mJ jB mQ lY eJ bY bW aG jG bQ dG jY m_length qG uW eY aJ aB bU dN aR aE bJ aW bT gJ dU bL bR bO mY pW pY) H → va_D A (wd_X10_sheet cI cC cZ cB cJ a_m oJ uD dY iJ lJ jQ jR jW jK pJ bM aY jO gR gY mK jZ iY bG mJ jB mQ lY eJ bY bW aG jG bQ dG jY m_length qG uW eY aJ aB bU dN aR aE bJ aW bT gJ dU bL bR bO mY pW pY) → va_S A s.heap H locs → lv_has ls 9 [(0, .ref a_m), (1, .int x1), (2, .int x2), (4, .int x4), (5, .int x5), (6, .int x6), (7, .int x7)] → W p l e rm_X10_sheet s m args below meth c H locs 0 0 (MQ below (q_X10_sheet dC dI cI cC cZ cB cJ A a_m oJ uD dY iJ lJ jQ jR jW jK pJ bM aY jO gR gY mK jZ iY bG mJ jB mQ lY eJ bY bW aG jG bQ jY m_length qG uW eY aJ aB bU dN aR aE bJ aW bT gJ dU bL bR bO mY pW post) args s 0 0 A) (F0 m 43 ls [])) : ∀ (x1 x2 x4 x5 x6 x7 k1 dG : Int32) (pY : Nat → Int32) (H : Heap) (locs : List Loc) (ls : Array Slot), (ws_X10_sheet_94 post K43 bW) x1 x2 x4 x5 x6 x7 k1 dG pY → va_P (dC, dI) classes (wd_X10_sheet cI cC cZ cB cJ a_m oJ uD dY iJ lJ jQ jR jW jK pJ bM aY jO gR gY mK jZ iY bG mJ jB mQ lY eJ bY bW aG jG bQ dG jY m_length qG uW eY aJ aB bU dN aR aE bJ aW bT gJ dU bL bR bO mY pW pY) H → va_D A (wd_X10_sheet cI cC cZ cB cJ a_m oJ uD dY iJ lJ jQ jR jW jK pJ bM aY jO gR gY mK jZ iY bG mJ jB mQ lY eJ bY bW aG jG bQ dG jY m_length qG uW eY aJ aB bU dN aR aE bJ aW bT gJ dU bL bR bO mY pW pY) → va_S A s.heap H locs → lv_has ls 9 [(0, .ref a_m), (1, .int x1), (2, .int x2), (4, .int x4), (5, .int x5), (6, .int x6), (7, .int x7)] → W p l e rm_X10_sheet s m args below meth c H locs 0 0 (MQ below (q_X10_sheet dC dI cI cC cZ cB cJ A a_m oJ uD dY iJ lJ jQ jR jW jK pJ bM aY jO gR gY mK jZ iY bG mJ jB mQ lY eJ bY bW aG jG bQ jY m_length qG uW eY aJ aB bU dN aR aE bJ aW bT gJ dU bL bR bO mY pW post) args s 0 0 A) (F0 m 94 ls [.int k1, .ref iJ]) := by
  obtain ⟨hx, hb, hr, hml, hown, hts, hlocks, hA, hK, hN, tL, tM, hZL, hTL, hZM, hTM, hZX⟩ := id C0
  intro x1 x2 x4 x5 x6 x7 k1 dG pY H locs ls hp hP hD hS hl
  unfold ws_X10_sheet_94 at hp
  refine lv_iconst (v := 0) hx hb eX10_sheet_85.2.2.2.2.1 ic_0 ?_
  refine lv_goto (tgt := 109) hx hb eX10_sheet_85.2.2.2.2.2.1 (by decide) ?_
  exact ks_X10_sheet_109 C0 hK43 x1 x2 x4 x5 x6 x7 k1 0 dG pY H locs ls hp hP hD hS (lv_sub hl [0, 1, 2, 3, 4, 5, 6] rfl)
noncomputable def ws_X10_sheet_75 (post : Int32 → Int32 → (Nat → Int32) → Prop) (K43 : Int32 → Int32 → Int32 → Int32 → Int32 → Int32 → Int32 → (Nat → Int32) → Prop) (bW x1 x2 x4 x5 x6 x7 k0 dG : Int32) (pY : Nat → Int32) : Prop := (x1 = 3 → ws_X10_sheet_94 post K43 bW x1 x2 x4 x5 x6 x7 x7 dG pY) ∧ (¬ x1 = 3 → (x7 < x2 → ∀ v_5 : Int32, v_5 = (if k0 < 9 then k0 else 9) → ∀ v_6 : Int32, v_6 = (if 0 < v_5 then v_5 else 0) → ws_X10_sheet_109 post K43 bW x1 x2 x4 x5 x6 x7 x7 v_6 dG pY) ∧ (¬ x7 < x2 → ws_X10_sheet_94 post K43 bW x1 x2 x4 x5 x6 x7 x7 dG pY))
set_option maxHeartbeats 4000000 in
set_option maxRecDepth 100000 in
theorem ks_X10_sheet_75 (C0 : gc cX10_sheet (some .int) 9 RX10 (dC, dI) (tyl cI cC cZ cB cJ) A p s m args meth c) {K43 : Int32 → Int32 → Int32 → Int32 → Int32 → Int32 → Int32 → (Nat → Int32) → Prop} (hK43 : ∀ (x1 : Int32) (x2 : Int32) (x4 : Int32) (x5 : Int32) (x6 : Int32) (x7 : Int32) (dG : Int32) (pY : Nat → Int32) (H : Heap) (locs : List Loc) (ls : Array Slot), K43 x1 x2 x4 x5 x6 x7 dG pY → va_P (dC, dI) classes (wd_X10_sheet cI cC cZ cB cJ a_m oJ uD dY iJ lJ jQ jR jW jK pJ bM aY jO gR gY mK jZ iY bG mJ jB mQ lY eJ bY bW aG jG bQ dG jY m_length qG uW eY aJ aB bU dN aR aE bJ aW bT gJ dU bL bR bO mY pW pY) H → va_D A (wd_X10_sheet cI cC cZ cB cJ a_m oJ uD dY iJ lJ jQ jR jW jK pJ bM aY jO gR gY mK jZ iY bG mJ jB mQ lY eJ bY bW aG jG bQ dG jY m_length qG uW eY aJ aB bU dN aR aE bJ aW bT gJ dU bL bR bO mY pW pY) → va_S A s.heap H locs → lv_has ls 9 [(0, .ref a_m), (1, .int x1), (2, .int x2), (4, .int x4), (5, .int x5), (6, .int x6), (7, .int x7)] → W p l e rm_X10_sheet s m args below meth c H locs 0 0 (MQ below (q_X10_sheet dC dI cI cC cZ cB cJ A a_m oJ uD dY iJ lJ jQ jR jW jK pJ bM aY jO gR gY mK jZ iY bG mJ jB mQ lY eJ bY bW aG jG bQ jY m_length qG uW eY aJ aB bU dN aR aE bJ aW bT gJ dU bL bR bO mY pW post) args s 0 0 A) (F0 m 43 ls [])) : ∀ (x1 x2 x4 x5 x6 x7 k0 dG : Int32) (pY : Nat → Int32) (H : Heap) (locs : List Loc) (ls : Array Slot), (ws_X10_sheet_75 post K43 bW) x1 x2 x4 x5 x6 x7 k0 dG pY → va_P (dC, dI) classes (wd_X10_sheet cI cC cZ cB cJ a_m oJ uD dY iJ lJ jQ jR jW jK pJ bM aY jO gR gY mK jZ iY bG mJ jB mQ lY eJ bY bW aG jG bQ dG jY m_length qG uW eY aJ aB bU dN aR aE bJ aW bT gJ dU bL bR bO mY pW pY) H → va_D A (wd_X10_sheet cI cC cZ cB cJ a_m oJ uD dY iJ lJ jQ jR jW jK pJ bM aY jO gR gY mK jZ iY bG mJ jB mQ lY eJ bY bW aG jG bQ dG jY m_length qG uW eY aJ aB bU dN aR aE bJ aW bT gJ dU bL bR bO mY pW pY) → va_S A s.heap H locs → lv_has ls 9 [(0, .ref a_m), (1, .int x1), (2, .int x2), (4, .int x4), (5, .int x5), (6, .int x6), (7, .int x7)] → W p l e rm_X10_sheet s m args below meth c H locs 0 0 (MQ below (q_X10_sheet dC dI cI cC cZ cB cJ A a_m oJ uD dY iJ lJ jQ jR jW jK pJ bM aY jO gR gY mK jZ iY bG mJ jB mQ lY eJ bY bW aG jG bQ jY m_length qG uW eY aJ aB bU dN aR aE bJ aW bT gJ dU bL bR bO mY pW post) args s 0 0 A) (F0 m 75 ls [.int k0]) := by
  obtain ⟨hx, hb, hr, hml, hown, hts, hlocks, hA, hK, hN, tL, tM, hZL, hTL, hZM, hTM, hZX⟩ := id C0
  intro x1 x2 x4 x5 x6 x7 k0 dG pY H locs ls hp hP hD hS hl
  unfold ws_X10_sheet_75 at hp
  refine lv_istore (lv' := [(8, .int k0), (0, .ref a_m), (1, .int x1), (2, .int x2), (4, .int x4), (5, .int x5), (6, .int x6), (7, .int x7)]) hx hb eX10_sheet_56.2.2.2.2.2.2.2.2.2.2.1 hl (by decide) rfl (fun ls hl => ?_)
  refine lv_aload_n hx hb eX10_sheet_56.2.2.2.2.2.2.2.2.2.2.2.1 rfl (lv_at hl 1 rfl) ?_
  refine va_get (D := (dC, dI)) (ci := 10) (v := .ref iJ) (C := RX10) (T := TX10) (N := 51) hx hb hts i_X10 hown hK hP 0 rfl rfl 4 (Nat.le_of_ble_eq_true rfl) (hts _ q_690) (fun _ h9 => h9) rfl eX10_sheet_56.2.2.2.2.2.2.2.2.2.2.2.2.1 ?_
  refine lv_iload hx hb eX10_sheet_56.2.2.2.2.2.2.2.2.2.2.2.2.2.1 (lv_at hl 7 rfl) ?_
  refine lv_iload_n hx hb eX10_sheet_56.2.2.2.2.2.2.2.2.2.2.2.2.2.2.1 rfl (lv_at hl 2 rfl) ?_
  refine lv_iconst (v := 3) hx hb eX10_sheet_56.2.2.2.2.2.2.2.2.2.2.2.2.2.2.2 ic_3 ?_
  refine lv_icmp_eq (tgt := 94) hx hb eX10_sheet_85.1 (by decide) (fun hc => ?_) (fun hc => ?_)
  · have hp := hp.1 hc
    exact ks_X10_sheet_94 C0 hK43 x1 x2 x4 x5 x6 x7 x7 dG pY H locs ls hp hP hD hS (lv_sub hl [1, 2, 3, 4, 5, 6, 7] rfl)
  · have hp := hp.2 hc
    refine lv_iload hx hb eX10_sheet_85.2.1 (lv_at hl 7 rfl) ?_
    refine lv_iload_n hx hb eX10_sheet_85.2.2.1 rfl (lv_at hl 3 rfl) ?_
    refine lv_icmp_lt (tgt := 98) hx hb eX10_sheet_85.2.2.2.1 (by decide) (fun hc => ?_) (fun hc => ?_)
    · have hp := hp.1 hc
      refine lv_iconst (v := 0) hx hb eX10_sheet_85.2.2.2.2.2.2.1 ic_0 ?_
      refine lv_bipush (v := 9) hx hb eX10_sheet_85.2.2.2.2.2.2.2.1 bp_9 ?_
      refine lv_iload hx hb eX10_sheet_85.2.2.2.2.2.2.2.2.1 (lv_at hl 0 rfl) ?_
      refine va_mmin hx hb (by rw [hml]; exact hl.1.symm) hown (hts _ q_766) (hts _ q_15) (hts _ q_16) (hts _ q_17) (Nat.le_of_ble_eq_true rfl) (Nat.le_of_ble_eq_true rfl) (Nat.zero_le _) (Nat.zero_le _) eX10_sheet_85.2.2.2.2.2.2.2.2.2.1 ?_
      refine lv_topi (fun v_5 ev_5 => ?_)
      have hp := hp v_5 ev_5
      refine va_mmax hx hb (by rw [hml]; exact hl.1.symm) hown (hts _ q_697) (hts _ q_134) (hts _ q_16) (hts _ q_135) (Nat.le_of_ble_eq_true rfl) (Nat.le_of_ble_eq_true rfl) (Nat.zero_le _) (Nat.zero_le _) eX10_sheet_85.2.2.2.2.2.2.2.2.2.2.1 ?_
      refine lv_topi (fun v_6 ev_6 => ?_)
      have hp := hp v_6 ev_6
      exact ks_X10_sheet_109 C0 hK43 x1 x2 x4 x5 x6 x7 x7 v_6 dG pY H locs ls hp hP hD hS (lv_sub hl [1, 2, 3, 4, 5, 6, 7] rfl)
    · have hp := hp.2 hc
      exact ks_X10_sheet_94 C0 hK43 x1 x2 x4 x5 x6 x7 x7 dG pY H locs ls hp hP hD hS (lv_sub hl [1, 2, 3, 4, 5, 6, 7] rfl)
noncomputable def ws_X10_sheet_43 (post : Int32 → Int32 → (Nat → Int32) → Prop) (next : Int32 → Int32 → Int32 → Int32 → Int32 → Int32 → Int32 → (Nat → Int32) → Prop) (bW x1 x2 x4 x5 x6 x7 dG : Int32) (pY : Nat → Int32) : Prop := (bW ≤ x7 → (¬ x1 = 3 → post x5 dG pY) ∧ (x1 = 3 → post (-3) dG pY)) ∧ (¬ bW ≤ x7 → (¬ x1 = 0 → (¬ x1 = 1 → ws_X10_sheet_75 post next bW x1 x2 x4 x5 x6 x7 x6 dG pY) ∧ (x1 = 1 → ∀ v_7 : Int32, v_7 = x6.toInt16.toInt32 → ws_X10_sheet_75 post next bW x1 x2 x4 x5 x6 x7 v_7 dG pY)) ∧ (x1 = 0 → ∀ v_8 : Int32, v_8 = x6.toInt8.toInt32 → ws_X10_sheet_75 post next bW x1 x2 x4 x5 x6 x7 v_8 dG pY))
noncomputable def wb_X10_sheet_43 (post : Int32 → Int32 → (Nat → Int32) → Prop) (bW : Int32) : Nat → Int32 → Int32 → Int32 → Int32 → Int32 → Int32 → Int32 → (Nat → Int32) → Prop := fun n => Nat.rec (motive := fun _ => Int32 → Int32 → Int32 → Int32 → Int32 → Int32 → Int32 → (Nat → Int32) → Prop) (fun _ _ _ _ _ _ _ _ => False) (fun _ ih => ws_X10_sheet_43 post ih bW) n
set_option maxHeartbeats 4000000 in
set_option maxRecDepth 100000 in
theorem ks_X10_sheet_43 (C0 : gc cX10_sheet (some .int) 9 RX10 (dC, dI) (tyl cI cC cZ cB cJ) A p s m args meth c) {next : Int32 → Int32 → Int32 → Int32 → Int32 → Int32 → Int32 → (Nat → Int32) → Prop} (hKn : ∀ (x1 : Int32) (x2 : Int32) (x4 : Int32) (x5 : Int32) (x6 : Int32) (x7 : Int32) (dG : Int32) (pY : Nat → Int32) (H : Heap) (locs : List Loc) (ls : Array Slot), next x1 x2 x4 x5 x6 x7 dG pY → va_P (dC, dI) classes (wd_X10_sheet cI cC cZ cB cJ a_m oJ uD dY iJ lJ jQ jR jW jK pJ bM aY jO gR gY mK jZ iY bG mJ jB mQ lY eJ bY bW aG jG bQ dG jY m_length qG uW eY aJ aB bU dN aR aE bJ aW bT gJ dU bL bR bO mY pW pY) H → va_D A (wd_X10_sheet cI cC cZ cB cJ a_m oJ uD dY iJ lJ jQ jR jW jK pJ bM aY jO gR gY mK jZ iY bG mJ jB mQ lY eJ bY bW aG jG bQ dG jY m_length qG uW eY aJ aB bU dN aR aE bJ aW bT gJ dU bL bR bO mY pW pY) → va_S A s.heap H locs → lv_has ls 9 [(0, .ref a_m), (1, .int x1), (2, .int x2), (4, .int x4), (5, .int x5), (6, .int x6), (7, .int x7)] → W p l e rm_X10_sheet s m args below meth c H locs 0 0 (MQ below (q_X10_sheet dC dI cI cC cZ cB cJ A a_m oJ uD dY iJ lJ jQ jR jW jK pJ bM aY jO gR gY mK jZ iY bG mJ jB mQ lY eJ bY bW aG jG bQ jY m_length qG uW eY aJ aB bU dN aR aE bJ aW bT gJ dU bL bR bO mY pW post) args s 0 0 A) (F0 m 43 ls [])) : ∀ (x1 x2 x4 x5 x6 x7 dG : Int32) (pY : Nat → Int32) (H : Heap) (locs : List Loc) (ls : Array Slot), (ws_X10_sheet_43 post next bW) x1 x2 x4 x5 x6 x7 dG pY → va_P (dC, dI) classes (wd_X10_sheet cI cC cZ cB cJ a_m oJ uD dY iJ lJ jQ jR jW jK pJ bM aY jO gR gY mK jZ iY bG mJ jB mQ lY eJ bY bW aG jG bQ dG jY m_length qG uW eY aJ aB bU dN aR aE bJ aW bT gJ dU bL bR bO mY pW pY) H → va_D A (wd_X10_sheet cI cC cZ cB cJ a_m oJ uD dY iJ lJ jQ jR jW jK pJ bM aY jO gR gY mK jZ iY bG mJ jB mQ lY eJ bY bW aG jG bQ dG jY m_length qG uW eY aJ aB bU dN aR aE bJ aW bT gJ dU bL bR bO mY pW pY) → va_S A s.heap H locs → lv_has ls 9 [(0, .ref a_m), (1, .int x1), (2, .int x2), (4, .int x4), (5, .int x5), (6, .int x6), (7, .int x7)] → W p l e rm_X10_sheet s m args below meth c H locs 0 0 (MQ below (q_X10_sheet dC dI cI cC cZ cB cJ A a_m oJ uD dY iJ lJ jQ jR jW jK pJ bM aY jO gR gY mK jZ iY bG mJ jB mQ lY eJ bY bW aG jG bQ jY m_length qG uW eY aJ aB bU dN aR aE bJ aW bT gJ dU bL bR bO mY pW post) args s 0 0 A) (F0 m 43 ls []) := by
  obtain ⟨hx, hb, hr, hml, hown, hts, hlocks, hA, hK, hN, tL, tM, hZL, hTL, hZM, hTM, hZX⟩ := id C0
  intro x1 x2 x4 x5 x6 x7 dG pY H locs ls hp hP hD hS hl
  unfold ws_X10_sheet_43 at hp
  refine lv_iload hx hb eX10_sheet_27.2.2.2.2.2.2.2.2.2.2.1 (lv_at hl 6 rfl) ?_
  refine lv_aload_n hx hb eX10_sheet_27.2.2.2.2.2.2.2.2.2.2.2.1 rfl (lv_at hl 0 rfl) ?_
  refine va_get (D := (dC, dI)) (ci := 10) (v := .int bW) (C := RX10) (T := TX10) (N := 51) hx hb hts i_X10 hown hK hP 0 rfl rfl 1 (Nat.le_of_ble_eq_true rfl) (hts _ q_677) (fun _ h9 => h9) rfl eX10_sheet_27.2.2.2.2.2.2.2.2.2.2.2.2.1 ?_
  refine lv_icmp_ge (tgt := 135) hx hb eX10_sheet_27.2.2.2.2.2.2.2.2.2.2.2.2.2.1 (by decide) (fun hc => ?_) (fun hc => ?_)
  · have hp := hp.1 hc
    refine lv_iload_n hx hb eX10_sheet_118.2.2.2.2.2.2.2.2.2.1 rfl (lv_at hl 1 rfl) ?_
    refine lv_iconst (v := 3) hx hb eX10_sheet_118.2.2.2.2.2.2.2.2.2.2.1 ic_3 ?_
    refine lv_icmp_ne (tgt := 145) hx hb eX10_sheet_118.2.2.2.2.2.2.2.2.2.2.2.1 (by decide) (fun hc => ?_) (fun hc => ?_)
    · have hp := hp.1 hc
      refine lv_iload hx hb eX10_sheet_118.2.2.2.2.2.2.2.2.2.2.2.2.2.2.1 (lv_at hl 4 rfl) ?_
      exact W.iret (v := x5) hx hb hr (fun t ht hW => ⟨⟨x5, (dG, pY), rfl, hp, by rw [ht]; exact hP, va_K.moved hW.alike hK, hD⟩, hS.F ht⟩) hS.2.2 eX10_sheet_118.2.2.2.2.2.2.2.2.2.2.2.2.2.2.2
    · have hp := hp.2 hc
      refine lv_bipush (v := (-3)) hx hb eX10_sheet_118.2.2.2.2.2.2.2.2.2.2.2.2.1 bp_m3 ?_
      refine lv_goto (tgt := 147) hx hb eX10_sheet_118.2.2.2.2.2.2.2.2.2.2.2.2.2.1 (by decide) ?_
      exact W.iret (v := (-3)) hx hb hr (fun t ht hW => ⟨⟨(-3), (dG, pY), rfl, hp, by rw [ht]; exact hP, va_K.moved hW.alike hK, hD⟩, hS.F ht⟩) hS.2.2 eX10_sheet_118.2.2.2.2.2.2.2.2.2.2.2.2.2.2.2
  · have hp := hp.2 hc
    refine lv_iload_n hx hb eX10_sheet_27.2.2.2.2.2.2.2.2.2.2.2.2.2.2.1 rfl (lv_at hl 1 rfl) ?_
    refine lv_if_ne (tgt := 62) hx hb eX10_sheet_27.2.2.2.2.2.2.2.2.2.2.2.2.2.2.2 (by decide) (fun hc => ?_) (fun hc => ?_)
    · have hp := hp.1 hc
      refine lv_iload_n hx hb eX10_sheet_56.2.2.2.1 rfl (lv_at hl 1 rfl) ?_
      refine lv_iconst (v := 1) hx hb eX10_sheet_56.2.2.2.2.1 ic_1 ?_
      refine lv_icmp_ne (tgt := 73) hx hb eX10_sheet_56.2.2.2.2.2.1 (by decide) (fun hc => ?_) (fun hc => ?_)
      · have hp := hp.1 hc
        refine lv_iload hx hb eX10_sheet_56.2.2.2.2.2.2.2.2.2.1 (lv_at hl 5 rfl) ?_
        exact ks_X10_sheet_75 C0 hKn x1 x2 x4 x5 x6 x7 x6 dG pY H locs ls hp hP hD hS (lv_sub hl [0, 1, 2, 3, 4, 5, 6] rfl)
      · have hp := hp.2 hc
        refine lv_iload hx hb eX10_sheet_56.2.2.2.2.2.2.1 (lv_at hl 5 rfl) ?_
        refine lv_i2s hx hb eX10_sheet_56.2.2.2.2.2.2.2.1 rfl ?_
        refine lv_topi (fun v_7 ev_7 => ?_)
        have hp := hp v_7 ev_7
        refine lv_goto (tgt := 75) hx hb eX10_sheet_56.2.2.2.2.2.2.2.2.1 (by decide) ?_
        exact ks_X10_sheet_75 C0 hKn x1 x2 x4 x5 x6 x7 v_7 dG pY H locs ls hp hP hD hS (lv_sub hl [0, 1, 2, 3, 4, 5, 6] rfl)
    · have hp := hp.2 hc
      refine lv_iload hx hb eX10_sheet_56.1 (lv_at hl 5 rfl) ?_
      refine lv_i2b hx hb eX10_sheet_56.2.1 rfl ?_
      refine lv_topi (fun v_8 ev_8 => ?_)
      have hp := hp v_8 ev_8
      refine lv_goto (tgt := 75) hx hb eX10_sheet_56.2.2.1 (by decide) ?_
      exact ks_X10_sheet_75 C0 hKn x1 x2 x4 x5 x6 x7 v_8 dG pY H locs ls hp hP hD hS (lv_sub hl [0, 1, 2, 3, 4, 5, 6] rfl)
set_option maxHeartbeats 4000000 in
set_option maxRecDepth 100000 in
theorem kb_X10_sheet_43 (C0 : gc cX10_sheet (some .int) 9 RX10 (dC, dI) (tyl cI cC cZ cB cJ) A p s m args meth c) : ∀ (n : Nat), ∀ (x1 x2 x4 x5 x6 x7 dG : Int32) (pY : Nat → Int32) (H : Heap) (locs : List Loc) (ls : Array Slot), (wb_X10_sheet_43 post bW n) x1 x2 x4 x5 x6 x7 dG pY → va_P (dC, dI) classes (wd_X10_sheet cI cC cZ cB cJ a_m oJ uD dY iJ lJ jQ jR jW jK pJ bM aY jO gR gY mK jZ iY bG mJ jB mQ lY eJ bY bW aG jG bQ dG jY m_length qG uW eY aJ aB bU dN aR aE bJ aW bT gJ dU bL bR bO mY pW pY) H → va_D A (wd_X10_sheet cI cC cZ cB cJ a_m oJ uD dY iJ lJ jQ jR jW jK pJ bM aY jO gR gY mK jZ iY bG mJ jB mQ lY eJ bY bW aG jG bQ dG jY m_length qG uW eY aJ aB bU dN aR aE bJ aW bT gJ dU bL bR bO mY pW pY) → va_S A s.heap H locs → lv_has ls 9 [(0, .ref a_m), (1, .int x1), (2, .int x2), (4, .int x4), (5, .int x5), (6, .int x6), (7, .int x7)] → W p l e rm_X10_sheet s m args below meth c H locs 0 0 (MQ below (q_X10_sheet dC dI cI cC cZ cB cJ A a_m oJ uD dY iJ lJ jQ jR jW jK pJ bM aY jO gR gY mK jZ iY bG mJ jB mQ lY eJ bY bW aG jG bQ jY m_length qG uW eY aJ aB bU dN aR aE bJ aW bT gJ dU bL bR bO mY pW post) args s 0 0 A) (F0 m 43 ls []) := by
  intro n
  induction n with
  | zero =>
    intro x1 x2 x4 x5 x6 x7 dG pY H locs ls hp
    exact False.elim hp
  | succ n ih =>
    intro x1 x2 x4 x5 x6 x7 dG pY H locs ls hp
    exact ks_X10_sheet_43 C0 ih x1 x2 x4 x5 x6 x7 dG pY H locs ls hp
noncomputable def ws_X10_sheet_34 (post : Int32 → Int32 → (Nat → Int32) → Prop) (bW x1 x2 x3 x4 dG : Int32) (pY : Nat → Int32) : Prop := ∃ n : Nat, wb_X10_sheet_43 post bW n x1 x2 x4 0 x3 0 dG pY
set_option maxHeartbeats 4000000 in
set_option maxRecDepth 100000 in
theorem ks_X10_sheet_34 (C0 : gc cX10_sheet (some .int) 9 RX10 (dC, dI) (tyl cI cC cZ cB cJ) A p s m args meth c) : ∀ (x1 x2 x3 x4 dG : Int32) (pY : Nat → Int32) (H : Heap) (locs : List Loc) (ls : Array Slot), (ws_X10_sheet_34 post bW) x1 x2 x3 x4 dG pY → va_P (dC, dI) classes (wd_X10_sheet cI cC cZ cB cJ a_m oJ uD dY iJ lJ jQ jR jW jK pJ bM aY jO gR gY mK jZ iY bG mJ jB mQ lY eJ bY bW aG jG bQ dG jY m_length qG uW eY aJ aB bU dN aR aE bJ aW bT gJ dU bL bR bO mY pW pY) H → va_D A (wd_X10_sheet cI cC cZ cB cJ a_m oJ uD dY iJ lJ jQ jR jW jK pJ bM aY jO gR gY mK jZ iY bG mJ jB mQ lY eJ bY bW aG jG bQ dG jY m_length qG uW eY aJ aB bU dN aR aE bJ aW bT gJ dU bL bR bO mY pW pY) → va_S A s.heap H locs → lv_has ls 9 [(0, .ref a_m), (1, .int x1), (2, .int x2), (3, .int x3), (4, .int x4)] → W p l e rm_X10_sheet s m args below meth c H locs 0 0 (MQ below (q_X10_sheet dC dI cI cC cZ cB cJ A a_m oJ uD dY iJ lJ jQ jR jW jK pJ bM aY jO gR gY mK jZ iY bG mJ jB mQ lY eJ bY bW aG jG bQ jY m_length qG uW eY aJ aB bU dN aR aE bJ aW bT gJ dU bL bR bO mY pW post) args s 0 0 A) (F0 m 34 ls []) := by
  obtain ⟨hx, hb, hr, hml, hown, hts, hlocks, hA, hK, hN, tL, tM, hZL, hTL, hZM, hTM, hZX⟩ := id C0
  intro x1 x2 x3 x4 dG pY H locs ls hp hP hD hS hl
  unfold ws_X10_sheet_34 at hp
  refine lv_iconst (v := 0) hx hb eX10_sheet_27.2.2.2.2.1 ic_0 ?_
  refine lv_istore (lv' := [(5, .int 0), (0, .ref a_m), (1, .int x1), (2, .int x2), (3, .int x3), (4, .int x4)]) hx hb eX10_sheet_27.2.2.2.2.2.1 hl (by decide) rfl (fun ls hl => ?_)
  refine lv_iload_n hx hb eX10_sheet_27.2.2.2.2.2.2.1 rfl (lv_at hl 4 rfl) ?_
  refine lv_istore (lv' := [(6, .int x3), (5, .int 0), (0, .ref a_m), (1, .int x1), (2, .int x2), (3, .int x3), (4, .int x4)]) hx hb eX10_sheet_27.2.2.2.2.2.2.2.1 hl (by decide) rfl (fun ls hl => ?_)
  refine lv_iconst (v := 0) hx hb eX10_sheet_27.2.2.2.2.2.2.2.2.1 ic_0 ?_
  refine lv_istore (lv' := [(7, .int 0), (6, .int x3), (5, .int 0), (0, .ref a_m), (1, .int x1), (2, .int x2), (3, .int x3), (4, .int x4)]) hx hb eX10_sheet_27.2.2.2.2.2.2.2.2.2.1 hl (by decide) rfl (fun ls hl => ?_)
  obtain ⟨n9, hp⟩ := hp
  exact kb_X10_sheet_43 C0 n9 x1 x2 x4 0 x3 0 dG pY H locs ls hp hP hD hS (lv_sub hl [3, 4, 5, 7, 2, 1, 0] rfl)
end S_X10_sheet
noncomputable def wp_X10_sheet (post : Int32 → Int32 → (Nat → Int32) → Prop) (p0 p1 p2 p3 bW dG : Int32) (pY : Nat → Int32) : Prop := wp_X10_in (fun r_1 => (r_1 = 0 → post (-1) 0 pY) ∧ (¬ r_1 = 0 → (p1 ≤ 16 → (3 ≤ p0 → ws_X10_sheet_34 post bW p0 p1 p2 p3 0 pY) ∧ (¬ 3 ≤ p0 → (0 ≤ p1 → ws_X10_sheet_34 post bW p0 p1 p2 p3 0 pY) ∧ (¬ 0 ≤ p1 → post (-2) 0 pY))) ∧ (¬ p1 ≤ 16 → post (-1) 0 pY))) p0 0 3
set_option maxHeartbeats 4000000 in
set_option maxRecDepth 100000 in
theorem c_X10_sheet (l : Launch) (dC : Nat → ClassId) (dI : Nat → Nat → Nat) (cI cC cZ cB cJ : ClassId) (a_m oJ uD dY iJ lJ jQ jR jW jK pJ bM aY jO gR gY mK jZ iY bG mJ jB mQ lY eJ bY sz : Nat) (p0 p1 p2 p3 bW aG jG bQ dG : Int32) (jY : Nat) (m_length qG uW eY aJ aB bU dN aR aE bJ aW bT gJ dU bL bR bO mY pW : Int32) (pY : Nat → Int32) (post : Int32 → Int32 → (Nat → Int32) → Prop) (hw : wp_X10_sheet post p0 p1 p2 p3 bW dG pY) : Met l yX10_sheet (gw yX10_sheet cX10_sheet 9 (some .int)) rm_X10_sheet (va_Pc [.ref a_m, .int p0, .int p1, .int p2, .int p3] (gPre (dC, dI) (tyl cI cC cZ cB cJ) (wd_X10_sheet cI cC cZ cB cJ a_m oJ uD dY iJ lJ jQ jR jW jK pJ bM aY jO gR gY mK jZ iY bG mJ jB mQ lY eJ bY bW aG jG bQ dG jY m_length qG uW eY aJ aB bU dN aR aE bJ aW bT gJ dU bL bR bO mY pW pY) sz)) (q_X10_sheet dC dI cI cC cZ cB cJ (va_A (wd_X10_sheet cI cC cZ cB cJ a_m oJ uD dY iJ lJ jQ jR jW jK pJ bM aY jO gR gY mK jZ iY bG mJ jB mQ lY eJ bY bW aG jG bQ dG jY m_length qG uW eY aJ aB bU dN aR aE bJ aW bT gJ dU bL bR bO mY pW pY) sz) a_m oJ uD dY iJ lJ jQ jR jW jK pJ bM aY jO gR gY mK jZ iY bG mJ jB mQ lY eJ bY bW aG jG bQ jY m_length qG uW eY aJ aB bU dN aR aE bJ aW bT gJ dU bL bR bO mY pW post) 0 0 (va_A (wd_X10_sheet cI cC cZ cB cJ a_m oJ uD dY iJ lJ jQ jR jW jK pJ bM aY jO gR gY mK jZ iY bG mJ jB mQ lY eJ bY bW aG jG bQ dG jY m_length qG uW eY aJ aB bU dN aR aE bJ aW bT gJ dU bL bR bO mY pW pY) sz) := by
  refine g_enter (own := RX10) (dC, dI) (tyl cI cC cZ cB cJ) (wd_X10_sheet cI cC cZ cB cJ a_m oJ uD dY iJ lJ jQ jR jW jK pJ bM aY jO gR gY mK jZ iY bG mJ jB mQ lY eJ bY bW aG jG bQ dG jY m_length qG uW eY aJ aB bU dN aR aE bJ aW bT gJ dU bL bR bO mY pW pY) sz [.ref a_m, .int p0, .int p1, .int p2, .int p3] (fun A => q_X10_sheet dC dI cI cC cZ cB cJ A a_m oJ uD dY iJ lJ jQ jR jW jK pJ bM aY jO gR gY mK jZ iY bG mJ jB mQ lY eJ bY bW aG jG bQ jY m_length qG uW eY aJ aB bU dN aR aE bJ aW bT gJ dU bL bR bO mY pW post) pn_RX10 rfl (Nat.le_of_ble_eq_true rfl) ?_
  intro p e s m args below meth c A H locs ls C0 hP hD hS hl
  have hl : lv_has ls 9 [(0, .ref a_m), (1, .int p0), (2, .int p1), (3, .int p2), (4, .int p3)] := hl
  obtain ⟨hx, hb, hr, hml, hown, hts, hlocks, hA, hK, hN, tL, tM, hZL, hTL, hZM, hTM, hZX⟩ := id C0
  have hp := hw
  unfold wp_X10_sheet at hp
  refine lv_aload_n hx hb eX10_sheet_0.1 rfl (lv_at hl 0 rfl) ?_
  refine lv_iconst (v := 0) hx hb eX10_sheet_0.2.1 ic_0 ?_
  refine va_put (D := (dC, dI)) (ci := 10) (v := .int 0) (ty := .int) (C := RX10) (T := TX10) (N := 51) hx hb hts i_X10 tyX10 tyX10_ok nmX10 hown hK hP hD hS 0 rfl rfl 14 (Nat.le_of_ble_eq_true rfl) (hts _ q_638) (fun _ h9 => h9) rfl (tyX10_ok 14 (Nat.le_of_ble_eq_true rfl)) rfl rfl (Nat.le_of_ble_eq_true rfl) eX10_sheet_0.2.2.1 (fun H locs hP hD hS => ?_)
  have hP : va_P (dC, dI) classes (wd_X10_sheet cI cC cZ cB cJ a_m oJ uD dY iJ lJ jQ jR jW jK pJ bM aY jO gR gY mK jZ iY bG mJ jB mQ lY eJ bY bW aG jG bQ 0 jY m_length qG uW eY aJ aB bU dN aR aE bJ aW bT gJ dU bL bR bO mY pW pY) H := hP
  have hD : va_D A (wd_X10_sheet cI cC cZ cB cJ a_m oJ uD dY iJ lJ jQ jR jW jK pJ bM aY jO gR gY mK jZ iY bG mJ jB mQ lY eJ bY bW aG jG bQ 0 jY m_length qG uW eY aJ aB bU dN aR aE bJ aW bT gJ dU bL bR bO mY pW pY) := hD
  refine lv_iload_n hx hb eX10_sheet_0.2.2.2.1 rfl (lv_at hl 1 rfl) ?_
  refine lv_iconst (v := 0) hx hb eX10_sheet_0.2.2.2.2.1 ic_0 ?_
  refine lv_iconst (v := 3) hx hb eX10_sheet_0.2.2.2.2.2.1 ic_3 ?_
  refine g_calli (wc := (wd_X10_in cI cC cZ cB cJ)) hP hD hS hA [] [0, 1] rfl rfl rfl rfl (g_runS (As := [.int p0, .int 0, .int 3]) (rest := []) C0 hP hD hS [] rfl rfl (c_X10_in l dC dI cI cC cZ cB cJ H.size p0 0 3 _ hp) q_641 q_644 q_643 q_642 h_X10_in rfl rfl ⟨Nat.le_of_ble_eq_true rfl, Nat.le_of_ble_eq_true rfl⟩ rfl rfl hl.1 rfl (lv_room (Nat.le_of_ble_eq_true rfl)) eX10_sheet_0.2.2.2.2.2.2.1 ⟨Nat.zero_le _, Nat.zero_le _⟩) (fun r_1 u H locs hp hP hD hS => ?_)
  have hPD := PDs (ws' := (wd_X10_sheet cI cC cZ cB cJ a_m oJ uD dY iJ lJ jQ jR jW jK pJ bM aY jO gR gY mK jZ iY bG mJ jB mQ lY eJ bY bW aG jG bQ 0 jY m_length qG uW eY aJ aB bU dN aR aE bJ aW bT gJ dU bL bR bO mY pW pY)) hP hD [0, 1] (by decide) rfl
  have hP := hPD.1
  have hD := hPD.2
  refine lv_if_eq (tgt := 20) hx hb eX10_sheet_0.2.2.2.2.2.2.2.1 (by decide) (fun hc => ?_) (fun hc => ?_)
  · have hp := hp.1 hc
    refine lv_iconst (v := (-1)) hx hb eX10_sheet_0.2.2.2.2.2.2.2.2.2.2.2.1 ic_m1 ?_
    exact W.iret (v := (-1)) hx hb hr (fun t ht hW => ⟨⟨(-1), (0, pY), rfl, hp, by rw [ht]; exact hP, va_K.moved hW.alike hK, hD⟩, hS.F ht⟩) hS.2.2 eX10_sheet_0.2.2.2.2.2.2.2.2.2.2.2.2.1
  · have hp := hp.2 hc
    refine lv_iload_n hx hb eX10_sheet_0.2.2.2.2.2.2.2.2.1 rfl (lv_at hl 2 rfl) ?_
    refine lv_bipush (v := 16) hx hb eX10_sheet_0.2.2.2.2.2.2.2.2.2.1 bp_16 ?_
    refine lv_icmp_le (tgt := 22) hx hb eX10_sheet_0.2.2.2.2.2.2.2.2.2.2.1 (by decide) (fun hc => ?_) (fun hc => ?_)
    · have hp := hp.1 hc
      refine lv_iload_n hx hb eX10_sheet_0.2.2.2.2.2.2.2.2.2.2.2.2.2.1 rfl (lv_at hl 1 rfl) ?_
      refine lv_iconst (v := 3) hx hb eX10_sheet_0.2.2.2.2.2.2.2.2.2.2.2.2.2.2.1 ic_3 ?_
      refine lv_icmp_ge (tgt := 34) hx hb eX10_sheet_0.2.2.2.2.2.2.2.2.2.2.2.2.2.2.2 (by decide) (fun hc => ?_) (fun hc => ?_)
      · have hp := hp.1 hc
        exact ks_X10_sheet_34 C0 p0 p1 p2 p3 0 pY H locs ls hp hP hD hS (lv_sub hl [0, 1, 2, 3, 4] rfl)
      · have hp := hp.2 hc
        refine lv_iload_n hx hb eX10_sheet_27.1 rfl (lv_at hl 2 rfl) ?_
        refine lv_if_ge (tgt := 34) hx hb eX10_sheet_27.2.1 (by decide) (fun hc => ?_) (fun hc => ?_)
        · have hp := hp.1 hc
          exact ks_X10_sheet_34 C0 p0 p1 p2 p3 0 pY H locs ls hp hP hD hS (lv_sub hl [0, 1, 2, 3, 4] rfl)
        · have hp := hp.2 hc
          refine lv_bipush (v := (-2)) hx hb eX10_sheet_27.2.2.1 bp_m2 ?_
          exact W.iret (v := (-2)) hx hb hr (fun t ht hW => ⟨⟨(-2), (0, pY), rfl, hp, by rw [ht]; exact hP, va_K.moved hW.alike hK, hD⟩, hS.F ht⟩) hS.2.2 eX10_sheet_27.2.2.2.1
    · have hp := hp.2 hc
      refine lv_iconst (v := (-1)) hx hb eX10_sheet_0.2.2.2.2.2.2.2.2.2.2.2.1 ic_m1 ?_
      exact W.iret (v := (-1)) hx hb hr (fun t ht hW => ⟨⟨(-1), (0, pY), rfl, hp, by rw [ht]; exact hP, va_K.moved hW.alike hK, hD⟩, hS.F ht⟩) hS.2.2 eX10_sheet_0.2.2.2.2.2.2.2.2.2.2.2.2.1
