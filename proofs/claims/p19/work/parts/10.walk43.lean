noncomputable abbrev wd_X10_workOf (cI cC cZ cB cJ : ClassId) (a_m oJ uD dY iJ lJ jQ jR jW jK pJ bM aY jO gR gY mK jZ iY bG mJ jB mQ lY eJ bY : Nat) (bW aG jG bQ dG : Int32) (jY : Nat) (m_length qG uW eY aJ aB bU dN aR aE bJ aW bT gJ dU bL bR bO mY pW : Int32) (rD pR pX tD uG nU vW : Nat → Int32) : va_W := [(a_m, .inr (10, [.ref oJ, .int bW, .ref uD, .ref dY, .ref iJ, .ref lJ, .int aG, .ref jQ, .ref jR, .ref jW, .ref jK, .int jG, .ref pJ, .int bQ, .int dG, rdv jK jO jY, .int m_length, .int qG, .int uW, .int eY, .ref bM, .ref aY, .int aJ, .int aB, .ref jO, .int bU, .int dN, .int aR, .int aE, .int bJ, .int aW, .ref gR, .int bT, .ref gY, .ref mK, .int gJ, .ref jZ, .int dU, .ref iY, .ref bG, .int bL, .int bR, .int bO, .ref mJ, .ref jB, .ref mQ, .int mY, .int pW, .ref lY, .ref eJ, .ref bY])), (oJ, .inl (cI, 21, .inl rD)), (jR, .inl (cI, 8, .inl pR)), (jW, .inl (cI, 5, .inl pX)), (jZ, .inl (cI, 8, .inl tD)), (iY, .inl (cI, 2304, .inl uG)), (bG, .inl (cI, 128, .inl nU)), (mJ, .inl (cI, 8, .inl vW))]
noncomputable abbrev q_X10_workOf (dC : Nat → ClassId) (dI : Nat → Nat → Nat) (cI cC cZ cB cJ : ClassId) (A : Nat → Prop) (a_m oJ uD dY iJ lJ jQ jR jW jK pJ bM aY jO gR gY mK jZ iY bG mJ jB mQ lY eJ bY : Nat) (bW aG jG bQ dG : Int32) (jY : Nat) (m_length qG uW eY aJ aB bU dN aR aE bJ aW bT gJ dU mY pW : Int32) (rD pR pX tD uG nU : Nat → Int32) (post : Int32 → Int32 → Int32 → Int32 → (Nat → Int32) → Prop) : Array Value → State → Outcome → State → Prop := va_Qi (fun (r : Int32) (u : Int32 × Int32 × Int32 × (Nat → Int32)) => post r u.1 u.2.1 u.2.2.1 u.2.2.2) (fun u t => gB (dC, dI) (tyl cI cC cZ cB cJ) A (wd_X10_workOf cI cC cZ cB cJ a_m oJ uD dY iJ lJ jQ jR jW jK pJ bM aY jO gR gY mK jZ iY bG mJ jB mQ lY eJ bY bW aG jG bQ dG jY m_length qG uW eY aJ aB bU dN aR aE bJ aW bT gJ dU u.1 u.2.1 u.2.2.1 mY pW rD pR pX tD uG nU u.2.2.2) t) A
noncomputable abbrev rm_X10_workOf : Room := { frames := 1, cells := 0, slots := 0, locals := 22 }
section S_X10_workOf
variable {p : Program} {l : Launch} {e : Env} {s : State} {m : MethodId} {args : Array Value} {below : List Frame} {meth : Method} {c : Code} {dC : Nat → ClassId} {dI : Nat → Nat → Nat} {cI cC cZ cB cJ : ClassId} {A : Nat → Prop} {a_m oJ uD dY iJ lJ jQ jR jW jK pJ bM aY jO gR gY mK jZ iY bG mJ jB mQ lY eJ bY : Nat} {bW aG jG bQ dG : Int32} {jY : Nat} {m_length qG uW eY aJ aB bU dN aR aE bJ aW bT gJ dU mY pW : Int32} {rD pR pX tD uG nU : Nat → Int32} {post : Int32 → Int32 → Int32 → Int32 → (Nat → Int32) → Prop}
noncomputable def ws_X10_workOf_202 (post next : Int32 → Int32 → Int32 → Int32 → (Nat → Int32) → Prop) (bW aG dU : Int32) (rD pR pX tD uG nU : Nat → Int32) (x2 bL bR bO : Int32) (vW : Nat → Int32) : Prop := (aG ≤ x2 → ∀ v_5 : Int32, v_5 = bL + bR → post (v_5 + bO) bL bR bO vW) ∧ (¬ aG ≤ x2 → vp_in x2 8 ∧ (∀ v_6 : Int32, v_6 = vW x2.toNatClampNeg → ∀ v_7 : Int32, v_7 = v_6 + (pX (4 : Int32).toNatClampNeg) → ∀ v_8 : Int32, v_8 = v_7 - 1 → ¬ pX (4 : Int32).toNatClampNeg = 0 ∧ (∀ v_9 : Int32, v_9 = v_8 / (pX (4 : Int32).toNatClampNeg) → wp_X10_downOf (fun r_10 => ∀ v_11 : Int32, v_11 = bO + (v_9 * r_10) → ∀ v_12 : Int32, v_12 = x2 + 1 → next v_12 bL bR v_11 vW) x2 pR)))
noncomputable def wb_X10_workOf_202 (post : Int32 → Int32 → Int32 → Int32 → (Nat → Int32) → Prop) (bW aG dU : Int32) (rD pR pX tD uG nU : Nat → Int32) : Nat → Int32 → Int32 → Int32 → Int32 → (Nat → Int32) → Prop := fun n => Nat.rec (motive := fun _ => Int32 → Int32 → Int32 → Int32 → (Nat → Int32) → Prop) (fun _ _ _ _ _ => False) (fun _ ih => ws_X10_workOf_202 post ih bW aG dU rD pR pX tD uG nU) n
set_option maxHeartbeats 4000000 in
set_option maxRecDepth 100000 in
theorem ks_X10_workOf_202 (C0 : gc cX10_workOf (some .int) 5 RX10 (dC, dI) (tyl cI cC cZ cB cJ) A p s m args meth c) {next : Int32 → Int32 → Int32 → Int32 → (Nat → Int32) → Prop} (hKn : ∀ (x2 : Int32) (bL : Int32) (bR : Int32) (bO : Int32) (vW : Nat → Int32) (H : Heap) (locs : List Loc) (ls : Array Slot), next x2 bL bR bO vW → va_P (dC, dI) classes (wd_X10_workOf cI cC cZ cB cJ a_m oJ uD dY iJ lJ jQ jR jW jK pJ bM aY jO gR gY mK jZ iY bG mJ jB mQ lY eJ bY bW aG jG bQ dG jY m_length qG uW eY aJ aB bU dN aR aE bJ aW bT gJ dU bL bR bO mY pW rD pR pX tD uG nU vW) H → va_D A (wd_X10_workOf cI cC cZ cB cJ a_m oJ uD dY iJ lJ jQ jR jW jK pJ bM aY jO gR gY mK jZ iY bG mJ jB mQ lY eJ bY bW aG jG bQ dG jY m_length qG uW eY aJ aB bU dN aR aE bJ aW bT gJ dU bL bR bO mY pW rD pR pX tD uG nU vW) → va_S A s.heap H locs → lv_has ls 5 [(0, .ref a_m), (2, .int x2)] → W p l e rm_X10_workOf s m args below meth c H locs 0 0 (MQ below (q_X10_workOf dC dI cI cC cZ cB cJ A a_m oJ uD dY iJ lJ jQ jR jW jK pJ bM aY jO gR gY mK jZ iY bG mJ jB mQ lY eJ bY bW aG jG bQ dG jY m_length qG uW eY aJ aB bU dN aR aE bJ aW bT gJ dU mY pW rD pR pX tD uG nU post) args s 0 0 A) (F0 m 202 ls [])) : ∀ (x2 bL bR bO : Int32) (vW : Nat → Int32) (H : Heap) (locs : List Loc) (ls : Array Slot), (ws_X10_workOf_202 post next bW aG dU rD pR pX tD uG nU) x2 bL bR bO vW → va_P (dC, dI) classes (wd_X10_workOf cI cC cZ cB cJ a_m oJ uD dY iJ lJ jQ jR jW jK pJ bM aY jO gR gY mK jZ iY bG mJ jB mQ lY eJ bY bW aG jG bQ dG jY m_length qG uW eY aJ aB bU dN aR aE bJ aW bT gJ dU bL bR bO mY pW rD pR pX tD uG nU vW) H → va_D A (wd_X10_workOf cI cC cZ cB cJ a_m oJ uD dY iJ lJ jQ jR jW jK pJ bM aY jO gR gY mK jZ iY bG mJ jB mQ lY eJ bY bW aG jG bQ dG jY m_length qG uW eY aJ aB bU dN aR aE bJ aW bT gJ dU bL bR bO mY pW rD pR pX tD uG nU vW) → va_S A s.heap H locs → lv_has ls 5 [(0, .ref a_m), (2, .int x2)] → W p l e rm_X10_workOf s m args below meth c H locs 0 0 (MQ below (q_X10_workOf dC dI cI cC cZ cB cJ A a_m oJ uD dY iJ lJ jQ jR jW jK pJ bM aY jO gR gY mK jZ iY bG mJ jB mQ lY eJ bY bW aG jG bQ dG jY m_length qG uW eY aJ aB bU dN aR aE bJ aW bT gJ dU mY pW rD pR pX tD uG nU post) args s 0 0 A) (F0 m 202 ls []) := by
  obtain ⟨hx, hb, hr, hml, hown, hts, hlocks, hA, hK, hN, tL, tM, hZL, hTL, hZM, hTM, hZX⟩ := id C0
  intro x2 bL bR bO vW H locs ls hp hP hD hS hl
  unfold ws_X10_workOf_202 at hp
  refine lv_iload_n hx hb eX10_workOf_197.2.2.2.1 rfl (lv_at hl 1 rfl) ?_
  refine lv_aload_n hx hb eX10_workOf_197.2.2.2.2.1 rfl (lv_at hl 0 rfl) ?_
  refine va_get (D := (dC, dI)) (ci := 10) (v := .int aG) (C := RX10) (T := TX10) (N := 51) hx hb hts i_X10 hown hK hP 0 rfl rfl 6 (Nat.le_of_ble_eq_true rfl) (hts _ q_666) (fun _ h9 => h9) rfl eX10_workOf_197.2.2.2.2.2.1 ?_
  refine lv_icmp_ge (tgt := 253) hx hb eX10_workOf_197.2.2.2.2.2.2.1 (by decide) (fun hc => ?_) (fun hc => ?_)
  · have hp := hp.1 hc
    refine lv_aload_n hx hb eX10_workOf_247.2.2.1 rfl (lv_at hl 0 rfl) ?_
    refine va_get (D := (dC, dI)) (ci := 10) (v := .int bL) (C := RX10) (T := TX10) (N := 51) hx hb hts i_X10 hown hK hP 0 rfl rfl 40 (Nat.le_of_ble_eq_true rfl) (hts _ q_929) (fun _ h9 => h9) rfl eX10_workOf_247.2.2.2.1 ?_
    refine lv_aload_n hx hb eX10_workOf_247.2.2.2.2.1 rfl (lv_at hl 0 rfl) ?_
    refine va_get (D := (dC, dI)) (ci := 10) (v := .int bR) (C := RX10) (T := TX10) (N := 51) hx hb hts i_X10 hown hK hP 0 rfl rfl 41 (Nat.le_of_ble_eq_true rfl) (hts _ q_930) (fun _ h9 => h9) rfl eX10_workOf_247.2.2.2.2.2.1 ?_
    refine lv_iadd hx hb eX10_workOf_247.2.2.2.2.2.2.1 ?_
    refine lv_topi (fun v_5 ev_5 => ?_)
    have hp := hp v_5 ev_5
    refine lv_aload_n hx hb eX10_workOf_247.2.2.2.2.2.2.2.1 rfl (lv_at hl 0 rfl) ?_
    refine va_get (D := (dC, dI)) (ci := 10) (v := .int bO) (C := RX10) (T := TX10) (N := 51) hx hb hts i_X10 hown hK hP 0 rfl rfl 42 (Nat.le_of_ble_eq_true rfl) (hts _ q_931) (fun _ h9 => h9) rfl eX10_workOf_247.2.2.2.2.2.2.2.2.1 ?_
    refine lv_iadd hx hb eX10_workOf_247.2.2.2.2.2.2.2.2.2.1 ?_
    exact W.iret (v := v_5 + bO) hx hb hr (fun t ht hW => ⟨⟨v_5 + bO, (bL, bR, bO, vW), rfl, hp, by rw [ht]; exact hP, va_K.moved hW.alike hK, hD⟩, hS.F ht⟩) hS.2.2 eX10_workOf_247.2.2.2.2.2.2.2.2.2.2
  · have hp := hp.2 hc
    refine lv_aload_n hx hb eX10_workOf_197.2.2.2.2.2.2.2.1 rfl (lv_at hl 0 rfl) ?_
    refine lv_dup hx hb eX10_workOf_197.2.2.2.2.2.2.2.2.1 rfl ?_
    refine va_get (D := (dC, dI)) (ci := 10) (v := .int bO) (C := RX10) (T := TX10) (N := 51) hx hb hts i_X10 hown hK hP 0 rfl rfl 42 (Nat.le_of_ble_eq_true rfl) (hts _ q_931) (fun _ h9 => h9) rfl eX10_workOf_197.2.2.2.2.2.2.2.2.2.1 ?_
    refine lv_aload_n hx hb eX10_workOf_197.2.2.2.2.2.2.2.2.2.2.1 rfl (lv_at hl 0 rfl) ?_
    refine va_get (D := (dC, dI)) (ci := 10) (v := .ref mJ) (C := RX10) (T := TX10) (N := 51) hx hb hts i_X10 hown hK hP 0 rfl rfl 43 (Nat.le_of_ble_eq_true rfl) (hts _ q_932) (fun _ h9 => h9) rfl eX10_workOf_197.2.2.2.2.2.2.2.2.2.2.2.1 ?_
    refine lv_iload_n hx hb eX10_workOf_197.2.2.2.2.2.2.2.2.2.2.2.2.1 rfl (lv_at hl 1 rfl) ?_
    have hin := hp.1
    have hp := hp.2
    refine va_iald hx hb hK hP 7 0 rfl rfl hin eX10_workOf_197.2.2.2.2.2.2.2.2.2.2.2.2.2.1 ?_
    refine lv_topi (fun v_6 ev_6 => ?_)
    have hp := hp v_6 ev_6
    refine lv_aload_n hx hb eX10_workOf_197.2.2.2.2.2.2.2.2.2.2.2.2.2.2.1 rfl (lv_at hl 0 rfl) ?_
    refine va_get (D := (dC, dI)) (ci := 10) (v := .ref jW) (C := RX10) (T := TX10) (N := 51) hx hb hts i_X10 hown hK hP 0 rfl rfl 9 (Nat.le_of_ble_eq_true rfl) (hts _ q_765) (fun _ h9 => h9) rfl eX10_workOf_197.2.2.2.2.2.2.2.2.2.2.2.2.2.2.2 ?_
    refine lv_iconst (v := 4) hx hb eX10_workOf_225.1 ic_4 ?_
    refine va_iald hx hb hK hP 3 0 rfl rfl (g_in rfl) eX10_workOf_225.2.1 ?_
    refine lv_iadd hx hb eX10_workOf_225.2.2.1 ?_
    refine lv_topi (fun v_7 ev_7 => ?_)
    have hp := hp v_7 ev_7
    refine lv_iconst (v := 1) hx hb eX10_workOf_225.2.2.2.1 ic_1 ?_
    refine lv_isub hx hb eX10_workOf_225.2.2.2.2.1 ?_
    refine lv_topi (fun v_8 ev_8 => ?_)
    have hp := hp v_8 ev_8
    refine lv_aload_n hx hb eX10_workOf_225.2.2.2.2.2.1 rfl (lv_at hl 0 rfl) ?_
    refine va_get (D := (dC, dI)) (ci := 10) (v := .ref jW) (C := RX10) (T := TX10) (N := 51) hx hb hts i_X10 hown hK hP 0 rfl rfl 9 (Nat.le_of_ble_eq_true rfl) (hts _ q_765) (fun _ h9 => h9) rfl eX10_workOf_225.2.2.2.2.2.2.1 ?_
    refine lv_iconst (v := 4) hx hb eX10_workOf_225.2.2.2.2.2.2.2.1 ic_4 ?_
    refine va_iald hx hb hK hP 3 0 rfl rfl (g_in rfl) eX10_workOf_225.2.2.2.2.2.2.2.2.1 ?_
    have hne := hp.1
    have hp := hp.2
    refine lv_idiv hx hb eX10_workOf_225.2.2.2.2.2.2.2.2.2.1 hne ?_
    refine lv_topi (fun v_9 ev_9 => ?_)
    have hp := hp v_9 ev_9
    refine lv_aload_n hx hb eX10_workOf_225.2.2.2.2.2.2.2.2.2.2.1 rfl (lv_at hl 0 rfl) ?_
    refine lv_iload_n hx hb eX10_workOf_225.2.2.2.2.2.2.2.2.2.2.2.1 rfl (lv_at hl 1 rfl) ?_
    have hm := mgk (wc := (wd_X10_downOf cI cC cZ cB cJ a_m oJ uD dY iJ lJ jQ jR jW jK pJ bM aY jO gR gY mK jZ iY bG mJ jB mQ lY eJ bY bW aG jG bQ dG jY m_length qG uW eY aJ aB bU dN aR aE bJ aW bT gJ dU bL bR bO mY pW pR)) hP mk_265 8 rfl rfl rfl
    refine g_calli hP hD hS hA (mixT mk_265) (mixF mk_265) hm.1 hm.2 (nd_F _) (dis_g _) (g_runV (As := [.int x2]) (rest := [.int v_9, .int bO, .ref a_m]) C0 hP hD hS (mixT mk_265) hm.1 (nd_T _) 0 10 rfl rfl (c_X10_downOf l dC dI cI cC cZ cB cJ a_m oJ uD dY iJ lJ jQ jR jW jK pJ bM aY jO gR gY mK jZ iY bG mJ jB mQ lY eJ bY H.size x2 bW aG jG bQ dG jY m_length qG uW eY aJ aB bU dN aR aE bJ aW bT gJ dU bL bR bO mY pW pR _ hp) q_761 q_764 q_762 q_763 q_642 h_X10_downOf rfl rfl ⟨Nat.le_of_ble_eq_true rfl, Nat.le_of_ble_eq_true rfl⟩ rfl rfl hl.1 rfl (lv_room (Nat.le_of_ble_eq_true rfl)) eX10_workOf_225.2.2.2.2.2.2.2.2.2.2.2.2.1 ⟨Nat.zero_le _, Nat.zero_le _⟩) (fun r_10 u H locs hp hP hD hS => ?_)
    have hPD := PDm (ws' := (wd_X10_workOf cI cC cZ cB cJ a_m oJ uD dY iJ lJ jQ jR jW jK pJ bM aY jO gR gY mK jZ iY bG mJ jB mQ lY eJ bY bW aG jG bQ dG jY m_length qG uW eY aJ aB bU dN aR aE bJ aW bT gJ dU bL bR bO mY pW rD pR pX tD uG nU vW)) hP hD 8 rfl rfl rfl
    have hP := hPD.1
    have hD := hPD.2
    refine lv_imul hx hb eX10_workOf_225.2.2.2.2.2.2.2.2.2.2.2.2.2.1 ?_
    refine lv_iadd hx hb eX10_workOf_225.2.2.2.2.2.2.2.2.2.2.2.2.2.2.1 ?_
    refine lv_topi (fun v_11 ev_11 => ?_)
    have hp := hp v_11 ev_11
    refine va_put (D := (dC, dI)) (ci := 10) (v := .int v_11) (ty := .int) (C := RX10) (T := TX10) (N := 51) hx hb hts i_X10 tyX10 tyX10_ok nmX10 hown hK hP hD hS 0 rfl rfl 42 (Nat.le_of_ble_eq_true rfl) (hts _ q_931) (fun _ h9 => h9) rfl (tyX10_ok 42 (Nat.le_of_ble_eq_true rfl)) rfl rfl (Nat.le_of_ble_eq_true rfl) eX10_workOf_225.2.2.2.2.2.2.2.2.2.2.2.2.2.2.2 (fun H locs hP hD hS => ?_)
    have hP : va_P (dC, dI) classes (wd_X10_workOf cI cC cZ cB cJ a_m oJ uD dY iJ lJ jQ jR jW jK pJ bM aY jO gR gY mK jZ iY bG mJ jB mQ lY eJ bY bW aG jG bQ dG jY m_length qG uW eY aJ aB bU dN aR aE bJ aW bT gJ dU bL bR v_11 mY pW rD pR pX tD uG nU vW) H := hP
    have hD : va_D A (wd_X10_workOf cI cC cZ cB cJ a_m oJ uD dY iJ lJ jQ jR jW jK pJ bM aY jO gR gY mK jZ iY bG mJ jB mQ lY eJ bY bW aG jG bQ dG jY m_length qG uW eY aJ aB bU dN aR aE bJ aW bT gJ dU bL bR v_11 mY pW rD pR pX tD uG nU vW) := hD
    obtain ⟨v_12, ev_12⟩ : ∃ y : Int32, y = x2 + 1 := ⟨_, rfl⟩
    refine lv_iinc (v := v_12) (lv' := [(2, .int v_12), (0, .ref a_m)]) hx hb eX10_workOf_247.1 hl (k := 1) rfl (by rw [ev_12]; rfl) (by decide) rfl (fun ls hl => ?_)
    have hp := hp v_12 ev_12
    refine lv_goto (tgt := 202) hx hb eX10_workOf_247.2.1 (by decide) ?_
    exact hKn v_12 bL bR v_11 vW H locs ls hp hP hD hS (lv_sub hl [1, 0] rfl)
set_option maxHeartbeats 4000000 in
set_option maxRecDepth 100000 in
theorem kb_X10_workOf_202 (C0 : gc cX10_workOf (some .int) 5 RX10 (dC, dI) (tyl cI cC cZ cB cJ) A p s m args meth c) : ∀ (n : Nat), ∀ (x2 bL bR bO : Int32) (vW : Nat → Int32) (H : Heap) (locs : List Loc) (ls : Array Slot), (wb_X10_workOf_202 post bW aG dU rD pR pX tD uG nU n) x2 bL bR bO vW → va_P (dC, dI) classes (wd_X10_workOf cI cC cZ cB cJ a_m oJ uD dY iJ lJ jQ jR jW jK pJ bM aY jO gR gY mK jZ iY bG mJ jB mQ lY eJ bY bW aG jG bQ dG jY m_length qG uW eY aJ aB bU dN aR aE bJ aW bT gJ dU bL bR bO mY pW rD pR pX tD uG nU vW) H → va_D A (wd_X10_workOf cI cC cZ cB cJ a_m oJ uD dY iJ lJ jQ jR jW jK pJ bM aY jO gR gY mK jZ iY bG mJ jB mQ lY eJ bY bW aG jG bQ dG jY m_length qG uW eY aJ aB bU dN aR aE bJ aW bT gJ dU bL bR bO mY pW rD pR pX tD uG nU vW) → va_S A s.heap H locs → lv_has ls 5 [(0, .ref a_m), (2, .int x2)] → W p l e rm_X10_workOf s m args below meth c H locs 0 0 (MQ below (q_X10_workOf dC dI cI cC cZ cB cJ A a_m oJ uD dY iJ lJ jQ jR jW jK pJ bM aY jO gR gY mK jZ iY bG mJ jB mQ lY eJ bY bW aG jG bQ dG jY m_length qG uW eY aJ aB bU dN aR aE bJ aW bT gJ dU mY pW rD pR pX tD uG nU post) args s 0 0 A) (F0 m 202 ls []) := by
  intro n
  induction n with
  | zero =>
    intro x2 bL bR bO vW H locs ls hp
    exact False.elim hp
  | succ n ih =>
    intro x2 bL bR bO vW H locs ls hp
    exact ks_X10_workOf_202 C0 ih x2 bL bR bO vW H locs ls hp
noncomputable def ws_X10_workOf_194 (post : Int32 → Int32 → Int32 → Int32 → (Nat → Int32) → Prop) (K57 : Int32 → Int32 → Int32 → Int32 → Int32 → (Nat → Int32) → Prop) (bW aG dU : Int32) (rD pR pX tD uG nU : Nat → Int32) (x1 x2 bL bR bO : Int32) (vW : Nat → Int32) : Prop := ∀ v_19 : Int32, v_19 = x2 + 1 → K57 x1 v_19 bL bR bO vW
set_option maxHeartbeats 4000000 in
set_option maxRecDepth 100000 in
theorem ks_X10_workOf_194 (C0 : gc cX10_workOf (some .int) 5 RX10 (dC, dI) (tyl cI cC cZ cB cJ) A p s m args meth c) {K57 : Int32 → Int32 → Int32 → Int32 → Int32 → (Nat → Int32) → Prop} (hK57 : ∀ (x1 : Int32) (x2 : Int32) (bL : Int32) (bR : Int32) (bO : Int32) (vW : Nat → Int32) (H : Heap) (locs : List Loc) (ls : Array Slot), K57 x1 x2 bL bR bO vW → va_P (dC, dI) classes (wd_X10_workOf cI cC cZ cB cJ a_m oJ uD dY iJ lJ jQ jR jW jK pJ bM aY jO gR gY mK jZ iY bG mJ jB mQ lY eJ bY bW aG jG bQ dG jY m_length qG uW eY aJ aB bU dN aR aE bJ aW bT gJ dU bL bR bO mY pW rD pR pX tD uG nU vW) H → va_D A (wd_X10_workOf cI cC cZ cB cJ a_m oJ uD dY iJ lJ jQ jR jW jK pJ bM aY jO gR gY mK jZ iY bG mJ jB mQ lY eJ bY bW aG jG bQ dG jY m_length qG uW eY aJ aB bU dN aR aE bJ aW bT gJ dU bL bR bO mY pW rD pR pX tD uG nU vW) → va_S A s.heap H locs → lv_has ls 5 [(0, .ref a_m), (1, .int x1), (2, .int x2)] → W p l e rm_X10_workOf s m args below meth c H locs 0 0 (MQ below (q_X10_workOf dC dI cI cC cZ cB cJ A a_m oJ uD dY iJ lJ jQ jR jW jK pJ bM aY jO gR gY mK jZ iY bG mJ jB mQ lY eJ bY bW aG jG bQ dG jY m_length qG uW eY aJ aB bU dN aR aE bJ aW bT gJ dU mY pW rD pR pX tD uG nU post) args s 0 0 A) (F0 m 57 ls [])) : ∀ (x1 x2 bL bR bO : Int32) (vW : Nat → Int32) (H : Heap) (locs : List Loc) (ls : Array Slot), (ws_X10_workOf_194 post K57 bW aG dU rD pR pX tD uG nU) x1 x2 bL bR bO vW → va_P (dC, dI) classes (wd_X10_workOf cI cC cZ cB cJ a_m oJ uD dY iJ lJ jQ jR jW jK pJ bM aY jO gR gY mK jZ iY bG mJ jB mQ lY eJ bY bW aG jG bQ dG jY m_length qG uW eY aJ aB bU dN aR aE bJ aW bT gJ dU bL bR bO mY pW rD pR pX tD uG nU vW) H → va_D A (wd_X10_workOf cI cC cZ cB cJ a_m oJ uD dY iJ lJ jQ jR jW jK pJ bM aY jO gR gY mK jZ iY bG mJ jB mQ lY eJ bY bW aG jG bQ dG jY m_length qG uW eY aJ aB bU dN aR aE bJ aW bT gJ dU bL bR bO mY pW rD pR pX tD uG nU vW) → va_S A s.heap H locs → lv_has ls 5 [(0, .ref a_m), (1, .int x1), (2, .int x2)] → W p l e rm_X10_workOf s m args below meth c H locs 0 0 (MQ below (q_X10_workOf dC dI cI cC cZ cB cJ A a_m oJ uD dY iJ lJ jQ jR jW jK pJ bM aY jO gR gY mK jZ iY bG mJ jB mQ lY eJ bY bW aG jG bQ dG jY m_length qG uW eY aJ aB bU dN aR aE bJ aW bT gJ dU mY pW rD pR pX tD uG nU post) args s 0 0 A) (F0 m 194 ls []) := by
  obtain ⟨hx, hb, hr, hml, hown, hts, hlocks, hA, hK, hN, tL, tM, hZL, hTL, hZM, hTM, hZX⟩ := id C0
  intro x1 x2 bL bR bO vW H locs ls hp hP hD hS hl
  unfold ws_X10_workOf_194 at hp
  obtain ⟨v_19, ev_19⟩ : ∃ y : Int32, y = x2 + 1 := ⟨_, rfl⟩
  refine lv_iinc (v := v_19) (lv' := [(2, .int v_19), (0, .ref a_m), (1, .int x1)]) hx hb eX10_workOf_175.2.2.2.2.2.2.2.2.2.2.2.2.2.2.2 hl (k := 2) rfl (by rw [ev_19]; rfl) (by decide) rfl (fun ls hl => ?_)
  have hp := hp v_19 ev_19
  refine lv_goto (tgt := 57) hx hb eX10_workOf_197.1 (by decide) ?_
  exact hK57 x1 v_19 bL bR bO vW H locs ls hp hP hD hS (lv_sub hl [1, 2, 0] rfl)
noncomputable def ws_X10_workOf_150 (post : Int32 → Int32 → Int32 → Int32 → (Nat → Int32) → Prop) (K57 : Int32 → Int32 → Int32 → Int32 → Int32 → (Nat → Int32) → Prop) (K84 : Int32 → Int32 → Int32 → Int32 → Int32 → Int32 → Int32 → (Nat → Int32) → Prop) (bW aG dU : Int32) (rD pR pX tD uG nU : Nat → Int32) (x1 x2 x3 x4 bL bR bO : Int32) (vW : Nat → Int32) : Prop := ∀ v_21 : Int32, v_21 = x4 + 1 → K84 x1 x2 x3 v_21 bL bR bO vW
set_option maxHeartbeats 4000000 in
set_option maxRecDepth 100000 in
theorem ks_X10_workOf_150 (C0 : gc cX10_workOf (some .int) 5 RX10 (dC, dI) (tyl cI cC cZ cB cJ) A p s m args meth c) {K57 : Int32 → Int32 → Int32 → Int32 → Int32 → (Nat → Int32) → Prop} {K84 : Int32 → Int32 → Int32 → Int32 → Int32 → Int32 → Int32 → (Nat → Int32) → Prop} (hK57 : ∀ (x1 : Int32) (x2 : Int32) (bL : Int32) (bR : Int32) (bO : Int32) (vW : Nat → Int32) (H : Heap) (locs : List Loc) (ls : Array Slot), K57 x1 x2 bL bR bO vW → va_P (dC, dI) classes (wd_X10_workOf cI cC cZ cB cJ a_m oJ uD dY iJ lJ jQ jR jW jK pJ bM aY jO gR gY mK jZ iY bG mJ jB mQ lY eJ bY bW aG jG bQ dG jY m_length qG uW eY aJ aB bU dN aR aE bJ aW bT gJ dU bL bR bO mY pW rD pR pX tD uG nU vW) H → va_D A (wd_X10_workOf cI cC cZ cB cJ a_m oJ uD dY iJ lJ jQ jR jW jK pJ bM aY jO gR gY mK jZ iY bG mJ jB mQ lY eJ bY bW aG jG bQ dG jY m_length qG uW eY aJ aB bU dN aR aE bJ aW bT gJ dU bL bR bO mY pW rD pR pX tD uG nU vW) → va_S A s.heap H locs → lv_has ls 5 [(0, .ref a_m), (1, .int x1), (2, .int x2)] → W p l e rm_X10_workOf s m args below meth c H locs 0 0 (MQ below (q_X10_workOf dC dI cI cC cZ cB cJ A a_m oJ uD dY iJ lJ jQ jR jW jK pJ bM aY jO gR gY mK jZ iY bG mJ jB mQ lY eJ bY bW aG jG bQ dG jY m_length qG uW eY aJ aB bU dN aR aE bJ aW bT gJ dU mY pW rD pR pX tD uG nU post) args s 0 0 A) (F0 m 57 ls [])) (hK84 : ∀ (x1 : Int32) (x2 : Int32) (x3 : Int32) (x4 : Int32) (bL : Int32) (bR : Int32) (bO : Int32) (vW : Nat → Int32) (H : Heap) (locs : List Loc) (ls : Array Slot), K84 x1 x2 x3 x4 bL bR bO vW → va_P (dC, dI) classes (wd_X10_workOf cI cC cZ cB cJ a_m oJ uD dY iJ lJ jQ jR jW jK pJ bM aY jO gR gY mK jZ iY bG mJ jB mQ lY eJ bY bW aG jG bQ dG jY m_length qG uW eY aJ aB bU dN aR aE bJ aW bT gJ dU bL bR bO mY pW rD pR pX tD uG nU vW) H → va_D A (wd_X10_workOf cI cC cZ cB cJ a_m oJ uD dY iJ lJ jQ jR jW jK pJ bM aY jO gR gY mK jZ iY bG mJ jB mQ lY eJ bY bW aG jG bQ dG jY m_length qG uW eY aJ aB bU dN aR aE bJ aW bT gJ dU bL bR bO mY pW rD pR pX tD uG nU vW) → va_S A s.heap H locs → lv_has ls 5 [(0, .ref a_m), (1, .int x1), (2, .int x2), (3, .int x3), (4, .int x4)] → W p l e rm_X10_workOf s m args below meth c H locs 0 0 (MQ below (q_X10_workOf dC dI cI cC cZ cB cJ A a_m oJ uD dY iJ lJ jQ jR jW jK pJ bM aY jO gR gY mK jZ iY bG mJ jB mQ lY eJ bY bW aG jG bQ dG jY m_length qG uW eY aJ aB bU dN aR aE bJ aW bT gJ dU mY pW rD pR pX tD uG nU post) args s 0 0 A) (F0 m 84 ls [])) : ∀ (x1 x2 x3 x4 bL bR bO : Int32) (vW : Nat → Int32) (H : Heap) (locs : List Loc) (ls : Array Slot), (ws_X10_workOf_150 post K57 K84 bW aG dU rD pR pX tD uG nU) x1 x2 x3 x4 bL bR bO vW → va_P (dC, dI) classes (wd_X10_workOf cI cC cZ cB cJ a_m oJ uD dY iJ lJ jQ jR jW jK pJ bM aY jO gR gY mK jZ iY bG mJ jB mQ lY eJ bY bW aG jG bQ dG jY m_length qG uW eY aJ aB bU dN aR aE bJ aW bT gJ dU bL bR bO mY pW rD pR pX tD uG nU vW) H → va_D A (wd_X10_workOf cI cC cZ cB cJ a_m oJ uD dY iJ lJ jQ jR jW jK pJ bM aY jO gR gY mK jZ iY bG mJ jB mQ lY eJ bY bW aG jG bQ dG jY m_length qG uW eY aJ aB bU dN aR aE bJ aW bT gJ dU bL bR bO mY pW rD pR pX tD uG nU vW) → va_S A s.heap H locs → lv_has ls 5 [(0, .ref a_m), (1, .int x1), (2, .int x2), (3, .int x3), (4, .int x4)] → W p l e rm_X10_workOf s m args below meth c H locs 0 0 (MQ below (q_X10_workOf dC dI cI cC cZ cB cJ A a_m oJ uD dY iJ lJ jQ jR jW jK pJ bM aY jO gR gY mK jZ iY bG mJ jB mQ lY eJ bY bW aG jG bQ dG jY m_length qG uW eY aJ aB bU dN aR aE bJ aW bT gJ dU mY pW rD pR pX tD uG nU post) args s 0 0 A) (F0 m 150 ls []) := by
  obtain ⟨hx, hb, hr, hml, hown, hts, hlocks, hA, hK, hN, tL, tM, hZL, hTL, hZM, hTM, hZX⟩ := id C0
  intro x1 x2 x3 x4 bL bR bO vW H locs ls hp hP hD hS hl
  unfold ws_X10_workOf_150 at hp
  obtain ⟨v_21, ev_21⟩ : ∃ y : Int32, y = x4 + 1 := ⟨_, rfl⟩
  refine lv_iinc (v := v_21) (lv' := [(4, .int v_21), (0, .ref a_m), (1, .int x1), (2, .int x2), (3, .int x3)]) hx hb eX10_workOf_143.2.2.2.2.1 hl (k := 4) rfl (by rw [ev_21]; rfl) (by decide) rfl (fun ls hl => ?_)
  have hp := hp v_21 ev_21
  refine lv_goto (tgt := 84) hx hb eX10_workOf_143.2.2.2.2.2.1 (by decide) ?_
  exact hK84 x1 x2 x3 v_21 bL bR bO vW H locs ls hp hP hD hS (lv_sub hl [1, 2, 3, 4, 0] rfl)
noncomputable def ws_X10_workOf_147 (post : Int32 → Int32 → Int32 → Int32 → (Nat → Int32) → Prop) (K57 : Int32 → Int32 → Int32 → Int32 → Int32 → (Nat → Int32) → Prop) (K84 : Int32 → Int32 → Int32 → Int32 → Int32 → Int32 → Int32 → (Nat → Int32) → Prop) (bW aG dU : Int32) (rD pR pX tD uG nU : Nat → Int32) (x1 x2 x4 bL bR bO : Int32) (vW : Nat → Int32) : Prop := ws_X10_workOf_150 post K57 K84 bW aG dU rD pR pX tD uG nU x1 x2 x4 x4 bL bR bO vW
set_option maxHeartbeats 4000000 in
set_option maxRecDepth 100000 in
theorem ks_X10_workOf_147 (C0 : gc cX10_workOf (some .int) 5 RX10 (dC, dI) (tyl cI cC cZ cB cJ) A p s m args meth c) {K57 : Int32 → Int32 → Int32 → Int32 → Int32 → (Nat → Int32) → Prop} {K84 : Int32 → Int32 → Int32 → Int32 → Int32 → Int32 → Int32 → (Nat → Int32) → Prop} (hK57 : ∀ (x1 : Int32) (x2 : Int32) (bL : Int32) (bR : Int32) (bO : Int32) (vW : Nat → Int32) (H : Heap) (locs : List Loc) (ls : Array Slot), K57 x1 x2 bL bR bO vW → va_P (dC, dI) classes (wd_X10_workOf cI cC cZ cB cJ a_m oJ uD dY iJ lJ jQ jR jW jK pJ bM aY jO gR gY mK jZ iY bG mJ jB mQ lY eJ bY bW aG jG bQ dG jY m_length qG uW eY aJ aB bU dN aR aE bJ aW bT gJ dU bL bR bO mY pW rD pR pX tD uG nU vW) H → va_D A (wd_X10_workOf cI cC cZ cB cJ a_m oJ uD dY iJ lJ jQ jR jW jK pJ bM aY jO gR gY mK jZ iY bG mJ jB mQ lY eJ bY bW aG jG bQ dG jY m_length qG uW eY aJ aB bU dN aR aE bJ aW bT gJ dU bL bR bO mY pW rD pR pX tD uG nU vW) → va_S A s.heap H locs → lv_has ls 5 [(0, .ref a_m), (1, .int x1), (2, .int x2)] → W p l e rm_X10_workOf s m args below meth c H locs 0 0 (MQ below (q_X10_workOf dC dI cI cC cZ cB cJ A a_m oJ uD dY iJ lJ jQ jR jW jK pJ bM aY jO gR gY mK jZ iY bG mJ jB mQ lY eJ bY bW aG jG bQ dG jY m_length qG uW eY aJ aB bU dN aR aE bJ aW bT gJ dU mY pW rD pR pX tD uG nU post) args s 0 0 A) (F0 m 57 ls [])) (hK84 : ∀ (x1 : Int32) (x2 : Int32) (x3 : Int32) (x4 : Int32) (bL : Int32) (bR : Int32) (bO : Int32) (vW : Nat → Int32) (H : Heap) (locs : List Loc) (ls : Array Slot), K84 x1 x2 x3 x4 bL bR bO vW → va_P (dC, dI) classes (wd_X10_workOf cI cC cZ cB cJ a_m oJ uD dY iJ lJ jQ jR jW jK pJ bM aY jO gR gY mK jZ iY bG mJ jB mQ lY eJ bY bW aG jG bQ dG jY m_length qG uW eY aJ aB bU dN aR aE bJ aW bT gJ dU bL bR bO mY pW rD pR pX tD uG nU vW) H → va_D A (wd_X10_workOf cI cC cZ cB cJ a_m oJ uD dY iJ lJ jQ jR jW jK pJ bM aY jO gR gY mK jZ iY bG mJ jB mQ lY eJ bY bW aG jG bQ dG jY m_length qG uW eY aJ aB bU dN aR aE bJ aW bT gJ dU bL bR bO mY pW rD pR pX tD uG nU vW) → va_S A s.heap H locs → lv_has ls 5 [(0, .ref a_m), (1, .int x1), (2, .int x2), (3, .int x3), (4, .int x4)] → W p l e rm_X10_workOf s m args below meth c H locs 0 0 (MQ below (q_X10_workOf dC dI cI cC cZ cB cJ A a_m oJ uD dY iJ lJ jQ jR jW jK pJ bM aY jO gR gY mK jZ iY bG mJ jB mQ lY eJ bY bW aG jG bQ dG jY m_length qG uW eY aJ aB bU dN aR aE bJ aW bT gJ dU mY pW rD pR pX tD uG nU post) args s 0 0 A) (F0 m 84 ls [])) : ∀ (x1 x2 x4 bL bR bO : Int32) (vW : Nat → Int32) (H : Heap) (locs : List Loc) (ls : Array Slot), (ws_X10_workOf_147 post K57 K84 bW aG dU rD pR pX tD uG nU) x1 x2 x4 bL bR bO vW → va_P (dC, dI) classes (wd_X10_workOf cI cC cZ cB cJ a_m oJ uD dY iJ lJ jQ jR jW jK pJ bM aY jO gR gY mK jZ iY bG mJ jB mQ lY eJ bY bW aG jG bQ dG jY m_length qG uW eY aJ aB bU dN aR aE bJ aW bT gJ dU bL bR bO mY pW rD pR pX tD uG nU vW) H → va_D A (wd_X10_workOf cI cC cZ cB cJ a_m oJ uD dY iJ lJ jQ jR jW jK pJ bM aY jO gR gY mK jZ iY bG mJ jB mQ lY eJ bY bW aG jG bQ dG jY m_length qG uW eY aJ aB bU dN aR aE bJ aW bT gJ dU bL bR bO mY pW rD pR pX tD uG nU vW) → va_S A s.heap H locs → lv_has ls 5 [(0, .ref a_m), (1, .int x1), (2, .int x2), (4, .int x4)] → W p l e rm_X10_workOf s m args below meth c H locs 0 0 (MQ below (q_X10_workOf dC dI cI cC cZ cB cJ A a_m oJ uD dY iJ lJ jQ jR jW jK pJ bM aY jO gR gY mK jZ iY bG mJ jB mQ lY eJ bY bW aG jG bQ dG jY m_length qG uW eY aJ aB bU dN aR aE bJ aW bT gJ dU mY pW rD pR pX tD uG nU post) args s 0 0 A) (F0 m 147 ls []) := by
  obtain ⟨hx, hb, hr, hml, hown, hts, hlocks, hA, hK, hN, tL, tM, hZL, hTL, hZM, hTM, hZX⟩ := id C0
  intro x1 x2 x4 bL bR bO vW H locs ls hp hP hD hS hl
  unfold ws_X10_workOf_147 at hp
  refine lv_iload hx hb eX10_workOf_143.2.2.1 (lv_at hl 3 rfl) ?_
  refine lv_istore_n (lv' := [(3, .int x4), (0, .ref a_m), (1, .int x1), (2, .int x2), (4, .int x4)]) hx hb eX10_workOf_143.2.2.2.1 rfl hl (by decide) rfl (fun ls hl => ?_)
  exact ks_X10_workOf_150 C0 hK57 hK84 x1 x2 x4 x4 bL bR bO vW H locs ls hp hP hD hS (lv_sub hl [1, 2, 3, 0, 4] rfl)
noncomputable def ws_X10_workOf_84 (post : Int32 → Int32 → Int32 → Int32 → (Nat → Int32) → Prop) (K57 : Int32 → Int32 → Int32 → Int32 → Int32 → (Nat → Int32) → Prop) (next : Int32 → Int32 → Int32 → Int32 → Int32 → Int32 → Int32 → (Nat → Int32) → Prop) (bW aG dU : Int32) (rD pR pX tD uG nU : Nat → Int32) (x1 x2 x3 x4 bL bR bO : Int32) (vW : Nat → Int32) : Prop := (aG ≤ x4 → (¬ x3 = (-1) → ∀ v_14 : Int32, v_14 = 16 * x3 → ∀ v_15 : Int32, v_15 = v_14 + x2 → vp_in v_15 128 ∧ (∀ v_16 : Int32, v_16 = bR + (nU v_15.toNatClampNeg) → vp_in x3 8 ∧ (∀ v_17 : Int32, v_17 = vW x3.toNatClampNeg → ∀ v_18 : Int32, v_18 = v_17 + 1 → vp_in x3 8 ∧ (ws_X10_workOf_194 post K57 bW aG dU rD pR pX tD uG nU x1 x2 bL v_16 bO (upd vW x3.toNatClampNeg v_18))))) ∧ (x3 = (-1) → ws_X10_workOf_194 post K57 bW aG dU rD pR pX tD uG nU x1 x2 bL bR bO vW)) ∧ (¬ aG ≤ x4 → wp_X10_has (fun r_20 => (r_20 = 0 → ws_X10_workOf_150 post K57 next bW aG dU rD pR pX tD uG nU x1 x2 x3 x4 bL bR bO vW) ∧ (¬ r_20 = 0 → vp_in x4 8 ∧ (∀ v_22 : Int32, v_22 = tD x4.toNatClampNeg → wp_X10_has (fun r_23 => (r_23 = 0 → ws_X10_workOf_150 post K57 next bW aG dU rD pR pX tD uG nU x1 x2 x3 x4 bL bR bO vW) ∧ (¬ r_23 = 0 → (x3 = (-1) → ws_X10_workOf_147 post K57 next bW aG dU rD pR pX tD uG nU x1 x2 x4 bL bR bO vW) ∧ (¬ x3 = (-1) → ∀ v_24 : Int32, v_24 = 16 * x4 → ∀ v_25 : Int32, v_25 = v_24 + x2 → vp_in v_25 128 ∧ (∀ v_26 : Int32, v_26 = nU v_25.toNatClampNeg → ∀ v_27 : Int32, v_27 = 16 * x3 → ∀ v_28 : Int32, v_28 = v_27 + x2 → vp_in v_28 128 ∧ (((nU v_28.toNatClampNeg) ≤ v_26 → ws_X10_workOf_150 post K57 next bW aG dU rD pR pX tD uG nU x1 x2 x3 x4 bL bR bO vW) ∧ (¬ (nU v_28.toNatClampNeg) ≤ v_26 → ws_X10_workOf_147 post K57 next bW aG dU rD pR pX tD uG nU x1 x2 x4 bL bR bO vW)))))) v_22 x2))) x1 x4)
noncomputable def wb_X10_workOf_84 (post : Int32 → Int32 → Int32 → Int32 → (Nat → Int32) → Prop) (K57 : Int32 → Int32 → Int32 → Int32 → Int32 → (Nat → Int32) → Prop) (bW aG dU : Int32) (rD pR pX tD uG nU : Nat → Int32) : Nat → Int32 → Int32 → Int32 → Int32 → Int32 → Int32 → Int32 → (Nat → Int32) → Prop := fun n => Nat.rec (motive := fun _ => Int32 → Int32 → Int32 → Int32 → Int32 → Int32 → Int32 → (Nat → Int32) → Prop) (fun _ _ _ _ _ _ _ _ => False) (fun _ ih => ws_X10_workOf_84 post K57 ih bW aG dU rD pR pX tD uG nU) n
set_option maxHeartbeats 4000000 in
set_option maxRecDepth 100000 in
theorem ks_X10_workOf_84 (C0 : gc cX10_workOf (some .int) 5 RX10 (dC, dI) (tyl cI cC cZ cB cJ) A p s m args meth c) {K57 : Int32 → Int32 → Int32 → Int32 → Int32 → (Nat → Int32) → Prop} {next : Int32 → Int32 → Int32 → Int32 → Int32 → Int32 → Int32 → (Nat → Int32) → Prop} (hK57 : ∀ (x1 : Int32) (x2 : Int32) (bL : Int32) (bR : Int32) (bO : Int32) (vW : Nat → Int32) (H : Heap) (locs : List Loc) (ls : Array Slot), K57 x1 x2 bL bR bO vW → va_P (dC, dI) classes (wd_X10_workOf cI cC cZ cB cJ a_m oJ uD dY iJ lJ jQ jR jW jK pJ bM aY jO gR gY mK jZ iY bG mJ jB mQ lY eJ bY bW aG jG bQ dG jY m_length qG uW eY aJ aB bU dN aR aE bJ aW bT gJ dU bL bR bO mY pW rD pR pX tD uG nU vW) H → va_D A (wd_X10_workOf cI cC cZ cB cJ a_m oJ uD dY iJ lJ jQ jR jW jK pJ bM aY jO gR gY mK jZ iY bG mJ jB mQ lY eJ bY bW aG jG bQ dG jY m_length qG uW eY aJ aB bU dN aR aE bJ aW bT gJ dU bL bR bO mY pW rD pR pX tD uG nU vW) → va_S A s.heap H locs → lv_has ls 5 [(0, .ref a_m), (1, .int x1), (2, .int x2)] → W p l e rm_X10_workOf s m args below meth c H locs 0 0 (MQ below (q_X10_workOf dC dI cI cC cZ cB cJ A a_m oJ uD dY iJ lJ jQ jR jW jK pJ bM aY jO gR gY mK jZ iY bG mJ jB mQ lY eJ bY bW aG jG bQ dG jY m_length qG uW eY aJ aB bU dN aR aE bJ aW bT gJ dU mY pW rD pR pX tD uG nU post) args s 0 0 A) (F0 m 57 ls [])) (hKn : ∀ (x1 : Int32) (x2 : Int32) (x3 : Int32) (x4 : Int32) (bL : Int32) (bR : Int32) (bO : Int32) (vW : Nat → Int32) (H : Heap) (locs : List Loc) (ls : Array Slot), next x1 x2 x3 x4 bL bR bO vW → va_P (dC, dI) classes (wd_X10_workOf cI cC cZ cB cJ a_m oJ uD dY iJ lJ jQ jR jW jK pJ bM aY jO gR gY mK jZ iY bG mJ jB mQ lY eJ bY bW aG jG bQ dG jY m_length qG uW eY aJ aB bU dN aR aE bJ aW bT gJ dU bL bR bO mY pW rD pR pX tD uG nU vW) H → va_D A (wd_X10_workOf cI cC cZ cB cJ a_m oJ uD dY iJ lJ jQ jR jW jK pJ bM aY jO gR gY mK jZ iY bG mJ jB mQ lY eJ bY bW aG jG bQ dG jY m_length qG uW eY aJ aB bU dN aR aE bJ aW bT gJ dU bL bR bO mY pW rD pR pX tD uG nU vW) → va_S A s.heap H locs → lv_has ls 5 [(0, .ref a_m), (1, .int x1), (2, .int x2), (3, .int x3), (4, .int x4)] → W p l e rm_X10_workOf s m args below meth c H locs 0 0 (MQ below (q_X10_workOf dC dI cI cC cZ cB cJ A a_m oJ uD dY iJ lJ jQ jR jW jK pJ bM aY jO gR gY mK jZ iY bG mJ jB mQ lY eJ bY bW aG jG bQ dG jY m_length qG uW eY aJ aB bU dN aR aE bJ aW bT gJ dU mY pW rD pR pX tD uG nU post) args s 0 0 A) (F0 m 84 ls [])) : ∀ (x1 x2 x3 x4 bL bR bO : Int32) (vW : Nat → Int32) (H : Heap) (locs : List Loc) (ls : Array Slot), (ws_X10_workOf_84 post K57 next bW aG dU rD pR pX tD uG nU) x1 x2 x3 x4 bL bR bO vW → va_P (dC, dI) classes (wd_X10_workOf cI cC cZ cB cJ a_m oJ uD dY iJ lJ jQ jR jW jK pJ bM aY jO gR gY mK jZ iY bG mJ jB mQ lY eJ bY bW aG jG bQ dG jY m_length qG uW eY aJ aB bU dN aR aE bJ aW bT gJ dU bL bR bO mY pW rD pR pX tD uG nU vW) H → va_D A (wd_X10_workOf cI cC cZ cB cJ a_m oJ uD dY iJ lJ jQ jR jW jK pJ bM aY jO gR gY mK jZ iY bG mJ jB mQ lY eJ bY bW aG jG bQ dG jY m_length qG uW eY aJ aB bU dN aR aE bJ aW bT gJ dU bL bR bO mY pW rD pR pX tD uG nU vW) → va_S A s.heap H locs → lv_has ls 5 [(0, .ref a_m), (1, .int x1), (2, .int x2), (3, .int x3), (4, .int x4)] → W p l e rm_X10_workOf s m args below meth c H locs 0 0 (MQ below (q_X10_workOf dC dI cI cC cZ cB cJ A a_m oJ uD dY iJ lJ jQ jR jW jK pJ bM aY jO gR gY mK jZ iY bG mJ jB mQ lY eJ bY bW aG jG bQ dG jY m_length qG uW eY aJ aB bU dN aR aE bJ aW bT gJ dU mY pW rD pR pX tD uG nU post) args s 0 0 A) (F0 m 84 ls []) := by
  obtain ⟨hx, hb, hr, hml, hown, hts, hlocks, hA, hK, hN, tL, tM, hZL, hTL, hZM, hTM, hZX⟩ := id C0
  intro x1 x2 x3 x4 bL bR bO vW H locs ls hp hP hD hS hl
  unfold ws_X10_workOf_84 at hp
  refine lv_iload hx hb eX10_workOf_56.2.2.2.2.2.2.2.2.2.2.2.2.2.2.2 (lv_at hl 4 rfl) ?_
  refine lv_aload_n hx hb eX10_workOf_86.1 rfl (lv_at hl 0 rfl) ?_
  refine va_get (D := (dC, dI)) (ci := 10) (v := .int aG) (C := RX10) (T := TX10) (N := 51) hx hb hts i_X10 hown hK hP 0 rfl rfl 6 (Nat.le_of_ble_eq_true rfl) (hts _ q_666) (fun _ h9 => h9) rfl eX10_workOf_86.2.1 ?_
  refine lv_icmp_ge (tgt := 156) hx hb eX10_workOf_86.2.2.1 (by decide) (fun hc => ?_) (fun hc => ?_)
  · have hp := hp.1 hc
    refine lv_iload_n hx hb eX10_workOf_143.2.2.2.2.2.2.1 rfl (lv_at hl 3 rfl) ?_
    refine lv_iconst (v := (-1)) hx hb eX10_workOf_143.2.2.2.2.2.2.2.1 ic_m1 ?_
    refine lv_icmp_ne (tgt := 164) hx hb eX10_workOf_143.2.2.2.2.2.2.2.2.1 (by decide) (fun hc => ?_) (fun hc => ?_)
    · have hp := hp.1 hc
      refine lv_aload_n hx hb eX10_workOf_143.2.2.2.2.2.2.2.2.2.2.1 rfl (lv_at hl 0 rfl) ?_
      refine lv_dup hx hb eX10_workOf_143.2.2.2.2.2.2.2.2.2.2.2.1 rfl ?_
      refine va_get (D := (dC, dI)) (ci := 10) (v := .int bR) (C := RX10) (T := TX10) (N := 51) hx hb hts i_X10 hown hK hP 0 rfl rfl 41 (Nat.le_of_ble_eq_true rfl) (hts _ q_930) (fun _ h9 => h9) rfl eX10_workOf_143.2.2.2.2.2.2.2.2.2.2.2.2.1 ?_
      refine lv_aload_n hx hb eX10_workOf_143.2.2.2.2.2.2.2.2.2.2.2.2.2.1 rfl (lv_at hl 0 rfl) ?_
      refine va_get (D := (dC, dI)) (ci := 10) (v := .ref bG) (C := RX10) (T := TX10) (N := 51) hx hb hts i_X10 hown hK hP 0 rfl rfl 39 (Nat.le_of_ble_eq_true rfl) (hts _ q_928) (fun _ h9 => h9) rfl eX10_workOf_143.2.2.2.2.2.2.2.2.2.2.2.2.2.2.1 ?_
      refine lv_bipush (v := 16) hx hb eX10_workOf_143.2.2.2.2.2.2.2.2.2.2.2.2.2.2.2 bp_16 ?_
      refine lv_iload_n hx hb eX10_workOf_175.1 rfl (lv_at hl 3 rfl) ?_
      refine lv_imul hx hb eX10_workOf_175.2.1 ?_
      refine lv_topi (fun v_14 ev_14 => ?_)
      have hp := hp v_14 ev_14
      refine lv_iload_n hx hb eX10_workOf_175.2.2.1 rfl (lv_at hl 2 rfl) ?_
      refine lv_iadd hx hb eX10_workOf_175.2.2.2.1 ?_
      refine lv_topi (fun v_15 ev_15 => ?_)
      have hp := hp v_15 ev_15
      have hin := hp.1
      have hp := hp.2
      refine va_iald hx hb hK hP 6 0 rfl rfl hin eX10_workOf_175.2.2.2.2.1 ?_
      refine lv_iadd hx hb eX10_workOf_175.2.2.2.2.2.1 ?_
      refine lv_topi (fun v_16 ev_16 => ?_)
      have hp := hp v_16 ev_16
      refine va_put (D := (dC, dI)) (ci := 10) (v := .int v_16) (ty := .int) (C := RX10) (T := TX10) (N := 51) hx hb hts i_X10 tyX10 tyX10_ok nmX10 hown hK hP hD hS 0 rfl rfl 41 (Nat.le_of_ble_eq_true rfl) (hts _ q_930) (fun _ h9 => h9) rfl (tyX10_ok 41 (Nat.le_of_ble_eq_true rfl)) rfl rfl (Nat.le_of_ble_eq_true rfl) eX10_workOf_175.2.2.2.2.2.2.1 (fun H locs hP hD hS => ?_)
      have hP : va_P (dC, dI) classes (wd_X10_workOf cI cC cZ cB cJ a_m oJ uD dY iJ lJ jQ jR jW jK pJ bM aY jO gR gY mK jZ iY bG mJ jB mQ lY eJ bY bW aG jG bQ dG jY m_length qG uW eY aJ aB bU dN aR aE bJ aW bT gJ dU bL v_16 bO mY pW rD pR pX tD uG nU vW) H := hP
      have hD : va_D A (wd_X10_workOf cI cC cZ cB cJ a_m oJ uD dY iJ lJ jQ jR jW jK pJ bM aY jO gR gY mK jZ iY bG mJ jB mQ lY eJ bY bW aG jG bQ dG jY m_length qG uW eY aJ aB bU dN aR aE bJ aW bT gJ dU bL v_16 bO mY pW rD pR pX tD uG nU vW) := hD
      refine lv_aload_n hx hb eX10_workOf_175.2.2.2.2.2.2.2.1 rfl (lv_at hl 0 rfl) ?_
      refine va_get (D := (dC, dI)) (ci := 10) (v := .ref mJ) (C := RX10) (T := TX10) (N := 51) hx hb hts i_X10 hown hK hP 0 rfl rfl 43 (Nat.le_of_ble_eq_true rfl) (hts _ q_932) (fun _ h9 => h9) rfl eX10_workOf_175.2.2.2.2.2.2.2.2.1 ?_
      refine lv_iload_n hx hb eX10_workOf_175.2.2.2.2.2.2.2.2.2.1 rfl (lv_at hl 3 rfl) ?_
      refine lv_dup2_11 hx hb eX10_workOf_175.2.2.2.2.2.2.2.2.2.2.1 rfl rfl ?_
      have hin := hp.1
      have hp := hp.2
      refine va_iald hx hb hK hP 7 0 rfl rfl hin eX10_workOf_175.2.2.2.2.2.2.2.2.2.2.2.1 ?_
      refine lv_topi (fun v_17 ev_17 => ?_)
      have hp := hp v_17 ev_17
      refine lv_iconst (v := 1) hx hb eX10_workOf_175.2.2.2.2.2.2.2.2.2.2.2.2.1 ic_1 ?_
      refine lv_iadd hx hb eX10_workOf_175.2.2.2.2.2.2.2.2.2.2.2.2.2.1 ?_
      refine lv_topi (fun v_18 ev_18 => ?_)
      have hp := hp v_18 ev_18
      have hin := hp.1
      have hp := hp.2
      refine va_iast hx hb hK hP hD hS 7 0 rfl rfl hin eX10_workOf_175.2.2.2.2.2.2.2.2.2.2.2.2.2.2.1 (fun H locs hP hD hS => ?_)
      have hP : va_P (dC, dI) classes (wd_X10_workOf cI cC cZ cB cJ a_m oJ uD dY iJ lJ jQ jR jW jK pJ bM aY jO gR gY mK jZ iY bG mJ jB mQ lY eJ bY bW aG jG bQ dG jY m_length qG uW eY aJ aB bU dN aR aE bJ aW bT gJ dU bL v_16 bO mY pW rD pR pX tD uG nU (upd vW x3.toNatClampNeg v_18)) H := hP
      have hD : va_D A (wd_X10_workOf cI cC cZ cB cJ a_m oJ uD dY iJ lJ jQ jR jW jK pJ bM aY jO gR gY mK jZ iY bG mJ jB mQ lY eJ bY bW aG jG bQ dG jY m_length qG uW eY aJ aB bU dN aR aE bJ aW bT gJ dU bL v_16 bO mY pW rD pR pX tD uG nU (upd vW x3.toNatClampNeg v_18)) := hD
      exact ks_X10_workOf_194 C0 hK57 x1 x2 bL v_16 bO (upd vW x3.toNatClampNeg v_18) H locs ls hp hP hD hS (lv_sub hl [0, 1, 2] rfl)
    · have hp := hp.2 hc
      refine lv_goto (tgt := 194) hx hb eX10_workOf_143.2.2.2.2.2.2.2.2.2.1 (by decide) ?_
      exact ks_X10_workOf_194 C0 hK57 x1 x2 bL bR bO vW H locs ls hp hP hD hS (lv_sub hl [0, 1, 2] rfl)
  · have hp := hp.2 hc
    refine lv_iload_n hx hb eX10_workOf_86.2.2.2.1 rfl (lv_at hl 1 rfl) ?_
    refine lv_iload hx hb eX10_workOf_86.2.2.2.2.1 (lv_at hl 4 rfl) ?_
    have hm := mgk (wc := (wd_X10_has cI cC cZ cB cJ)) hP aAW 8 rfl rfl rfl
    refine g_calli hP hD hS hA (mixT aAW) (mixF aAW) hm.1 hm.2 (nd_F _) (dis_g _) (g_runS (As := [.int x1, .int x4]) (rest := []) C0 hP hD hS (mixT aAW) hm.1 (nd_T _) (c_X10_has l dC dI cI cC cZ cB cJ H.size x1 x4 _ hp) q_734 q_736 q_735 q_642 h_X10_has rfl rfl ⟨Nat.le_of_ble_eq_true rfl, Nat.le_of_ble_eq_true rfl⟩ rfl rfl hl.1 rfl (lv_room (Nat.le_of_ble_eq_true rfl)) eX10_workOf_86.2.2.2.2.2.1 ⟨Nat.zero_le _, Nat.zero_le _⟩) (fun r_20 u H locs hp hP hD hS => ?_)
    have hPD := PDm (ws' := (wd_X10_workOf cI cC cZ cB cJ a_m oJ uD dY iJ lJ jQ jR jW jK pJ bM aY jO gR gY mK jZ iY bG mJ jB mQ lY eJ bY bW aG jG bQ dG jY m_length qG uW eY aJ aB bU dN aR aE bJ aW bT gJ dU bL bR bO mY pW rD pR pX tD uG nU vW)) hP hD 8 rfl rfl rfl
    have hP := hPD.1
    have hD := hPD.2
    refine lv_if_eq (tgt := 150) hx hb eX10_workOf_86.2.2.2.2.2.2.1 (by decide) (fun hc => ?_) (fun hc => ?_)
    · have hp := hp.1 hc
      exact ks_X10_workOf_150 C0 hK57 hKn x1 x2 x3 x4 bL bR bO vW H locs ls hp hP hD hS (lv_sub hl [0, 1, 2, 3, 4] rfl)
    · have hp := hp.2 hc
      refine lv_aload_n hx hb eX10_workOf_86.2.2.2.2.2.2.2.1 rfl (lv_at hl 0 rfl) ?_
      refine va_get (D := (dC, dI)) (ci := 10) (v := .ref jZ) (C := RX10) (T := TX10) (N := 51) hx hb hts i_X10 hown hK hP 0 rfl rfl 36 (Nat.le_of_ble_eq_true rfl) (hts _ q_869) (fun _ h9 => h9) rfl eX10_workOf_86.2.2.2.2.2.2.2.2.1 ?_
      refine lv_iload hx hb eX10_workOf_86.2.2.2.2.2.2.2.2.2.1 (lv_at hl 4 rfl) ?_
      have hin := hp.1
      have hp := hp.2
      refine va_iald hx hb hK hP 4 0 rfl rfl hin eX10_workOf_86.2.2.2.2.2.2.2.2.2.2.1 ?_
      refine lv_topi (fun v_22 ev_22 => ?_)
      have hp := hp v_22 ev_22
      refine lv_iload_n hx hb eX10_workOf_86.2.2.2.2.2.2.2.2.2.2.2.1 rfl (lv_at hl 2 rfl) ?_
      have hm := mgk (wc := (wd_X10_has cI cC cZ cB cJ)) hP aAW 8 rfl rfl rfl
      refine g_calli hP hD hS hA (mixT aAW) (mixF aAW) hm.1 hm.2 (nd_F _) (dis_g _) (g_runS (As := [.int v_22, .int x2]) (rest := []) C0 hP hD hS (mixT aAW) hm.1 (nd_T _) (c_X10_has l dC dI cI cC cZ cB cJ H.size v_22 x2 _ hp) q_734 q_736 q_735 q_642 h_X10_has rfl rfl ⟨Nat.le_of_ble_eq_true rfl, Nat.le_of_ble_eq_true rfl⟩ rfl rfl hl.1 rfl (lv_room (Nat.le_of_ble_eq_true rfl)) eX10_workOf_86.2.2.2.2.2.2.2.2.2.2.2.2.1 ⟨Nat.zero_le _, Nat.zero_le _⟩) (fun r_23 u H locs hp hP hD hS => ?_)
      have hPD := PDm (ws' := (wd_X10_workOf cI cC cZ cB cJ a_m oJ uD dY iJ lJ jQ jR jW jK pJ bM aY jO gR gY mK jZ iY bG mJ jB mQ lY eJ bY bW aG jG bQ dG jY m_length qG uW eY aJ aB bU dN aR aE bJ aW bT gJ dU bL bR bO mY pW rD pR pX tD uG nU vW)) hP hD 8 rfl rfl rfl
      have hP := hPD.1
      have hD := hPD.2
      refine lv_if_eq (tgt := 150) hx hb eX10_workOf_86.2.2.2.2.2.2.2.2.2.2.2.2.2.1 (by decide) (fun hc => ?_) (fun hc => ?_)
      · have hp := hp.1 hc
        exact ks_X10_workOf_150 C0 hK57 hKn x1 x2 x3 x4 bL bR bO vW H locs ls hp hP hD hS (lv_sub hl [0, 1, 2, 3, 4] rfl)
      · have hp := hp.2 hc
        refine lv_iload_n hx hb eX10_workOf_86.2.2.2.2.2.2.2.2.2.2.2.2.2.2.1 rfl (lv_at hl 3 rfl) ?_
        refine lv_iconst (v := (-1)) hx hb eX10_workOf_86.2.2.2.2.2.2.2.2.2.2.2.2.2.2.2 ic_m1 ?_
        refine lv_icmp_eq (tgt := 147) hx hb eX10_workOf_118.1 (by decide) (fun hc => ?_) (fun hc => ?_)
        · have hp := hp.1 hc
          exact ks_X10_workOf_147 C0 hK57 hKn x1 x2 x4 bL bR bO vW H locs ls hp hP hD hS (lv_sub hl [0, 1, 2, 4] rfl)
        · have hp := hp.2 hc
          refine lv_aload_n hx hb eX10_workOf_118.2.1 rfl (lv_at hl 0 rfl) ?_
          refine va_get (D := (dC, dI)) (ci := 10) (v := .ref bG) (C := RX10) (T := TX10) (N := 51) hx hb hts i_X10 hown hK hP 0 rfl rfl 39 (Nat.le_of_ble_eq_true rfl) (hts _ q_928) (fun _ h9 => h9) rfl eX10_workOf_118.2.2.1 ?_
          refine lv_bipush (v := 16) hx hb eX10_workOf_118.2.2.2.1 bp_16 ?_
          refine lv_iload hx hb eX10_workOf_118.2.2.2.2.1 (lv_at hl 4 rfl) ?_
          refine lv_imul hx hb eX10_workOf_118.2.2.2.2.2.1 ?_
          refine lv_topi (fun v_24 ev_24 => ?_)
          have hp := hp v_24 ev_24
          refine lv_iload_n hx hb eX10_workOf_118.2.2.2.2.2.2.1 rfl (lv_at hl 2 rfl) ?_
          refine lv_iadd hx hb eX10_workOf_118.2.2.2.2.2.2.2.1 ?_
          refine lv_topi (fun v_25 ev_25 => ?_)
          have hp := hp v_25 ev_25
          have hin := hp.1
          have hp := hp.2
          refine va_iald hx hb hK hP 6 0 rfl rfl hin eX10_workOf_118.2.2.2.2.2.2.2.2.1 ?_
          refine lv_topi (fun v_26 ev_26 => ?_)
          have hp := hp v_26 ev_26
          refine lv_aload_n hx hb eX10_workOf_118.2.2.2.2.2.2.2.2.2.1 rfl (lv_at hl 0 rfl) ?_
          refine va_get (D := (dC, dI)) (ci := 10) (v := .ref bG) (C := RX10) (T := TX10) (N := 51) hx hb hts i_X10 hown hK hP 0 rfl rfl 39 (Nat.le_of_ble_eq_true rfl) (hts _ q_928) (fun _ h9 => h9) rfl eX10_workOf_118.2.2.2.2.2.2.2.2.2.2.1 ?_
          refine lv_bipush (v := 16) hx hb eX10_workOf_118.2.2.2.2.2.2.2.2.2.2.2.1 bp_16 ?_
          refine lv_iload_n hx hb eX10_workOf_118.2.2.2.2.2.2.2.2.2.2.2.2.1 rfl (lv_at hl 3 rfl) ?_
          refine lv_imul hx hb eX10_workOf_118.2.2.2.2.2.2.2.2.2.2.2.2.2.1 ?_
          refine lv_topi (fun v_27 ev_27 => ?_)
          have hp := hp v_27 ev_27
          refine lv_iload_n hx hb eX10_workOf_118.2.2.2.2.2.2.2.2.2.2.2.2.2.2.1 rfl (lv_at hl 2 rfl) ?_
          refine lv_iadd hx hb eX10_workOf_118.2.2.2.2.2.2.2.2.2.2.2.2.2.2.2 ?_
          refine lv_topi (fun v_28 ev_28 => ?_)
          have hp := hp v_28 ev_28
          have hin := hp.1
          have hp := hp.2
          refine va_iald hx hb hK hP 6 0 rfl rfl hin eX10_workOf_143.1 ?_
          refine lv_icmp_ge (tgt := 150) hx hb eX10_workOf_143.2.1 (by decide) (fun hc => ?_) (fun hc => ?_)
          · have hp := hp.1 hc
            exact ks_X10_workOf_150 C0 hK57 hKn x1 x2 x3 x4 bL bR bO vW H locs ls hp hP hD hS (lv_sub hl [0, 1, 2, 3, 4] rfl)
          · have hp := hp.2 hc
            exact ks_X10_workOf_147 C0 hK57 hKn x1 x2 x4 bL bR bO vW H locs ls hp hP hD hS (lv_sub hl [0, 1, 2, 4] rfl)
set_option maxHeartbeats 4000000 in
set_option maxRecDepth 100000 in
theorem kb_X10_workOf_84 (C0 : gc cX10_workOf (some .int) 5 RX10 (dC, dI) (tyl cI cC cZ cB cJ) A p s m args meth c) {K57 : Int32 → Int32 → Int32 → Int32 → Int32 → (Nat → Int32) → Prop} (hK57 : ∀ (x1 : Int32) (x2 : Int32) (bL : Int32) (bR : Int32) (bO : Int32) (vW : Nat → Int32) (H : Heap) (locs : List Loc) (ls : Array Slot), K57 x1 x2 bL bR bO vW → va_P (dC, dI) classes (wd_X10_workOf cI cC cZ cB cJ a_m oJ uD dY iJ lJ jQ jR jW jK pJ bM aY jO gR gY mK jZ iY bG mJ jB mQ lY eJ bY bW aG jG bQ dG jY m_length qG uW eY aJ aB bU dN aR aE bJ aW bT gJ dU bL bR bO mY pW rD pR pX tD uG nU vW) H → va_D A (wd_X10_workOf cI cC cZ cB cJ a_m oJ uD dY iJ lJ jQ jR jW jK pJ bM aY jO gR gY mK jZ iY bG mJ jB mQ lY eJ bY bW aG jG bQ dG jY m_length qG uW eY aJ aB bU dN aR aE bJ aW bT gJ dU bL bR bO mY pW rD pR pX tD uG nU vW) → va_S A s.heap H locs → lv_has ls 5 [(0, .ref a_m), (1, .int x1), (2, .int x2)] → W p l e rm_X10_workOf s m args below meth c H locs 0 0 (MQ below (q_X10_workOf dC dI cI cC cZ cB cJ A a_m oJ uD dY iJ lJ jQ jR jW jK pJ bM aY jO gR gY mK jZ iY bG mJ jB mQ lY eJ bY bW aG jG bQ dG jY m_length qG uW eY aJ aB bU dN aR aE bJ aW bT gJ dU mY pW rD pR pX tD uG nU post) args s 0 0 A) (F0 m 57 ls [])) : ∀ (n : Nat), ∀ (x1 x2 x3 x4 bL bR bO : Int32) (vW : Nat → Int32) (H : Heap) (locs : List Loc) (ls : Array Slot), (wb_X10_workOf_84 post K57 bW aG dU rD pR pX tD uG nU n) x1 x2 x3 x4 bL bR bO vW → va_P (dC, dI) classes (wd_X10_workOf cI cC cZ cB cJ a_m oJ uD dY iJ lJ jQ jR jW jK pJ bM aY jO gR gY mK jZ iY bG mJ jB mQ lY eJ bY bW aG jG bQ dG jY m_length qG uW eY aJ aB bU dN aR aE bJ aW bT gJ dU bL bR bO mY pW rD pR pX tD uG nU vW) H → va_D A (wd_X10_workOf cI cC cZ cB cJ a_m oJ uD dY iJ lJ jQ jR jW jK pJ bM aY jO gR gY mK jZ iY bG mJ jB mQ lY eJ bY bW aG jG bQ dG jY m_length qG uW eY aJ aB bU dN aR aE bJ aW bT gJ dU bL bR bO mY pW rD pR pX tD uG nU vW) → va_S A s.heap H locs → lv_has ls 5 [(0, .ref a_m), (1, .int x1), (2, .int x2), (3, .int x3), (4, .int x4)] → W p l e rm_X10_workOf s m args below meth c H locs 0 0 (MQ below (q_X10_workOf dC dI cI cC cZ cB cJ A a_m oJ uD dY iJ lJ jQ jR jW jK pJ bM aY jO gR gY mK jZ iY bG mJ jB mQ lY eJ bY bW aG jG bQ dG jY m_length qG uW eY aJ aB bU dN aR aE bJ aW bT gJ dU mY pW rD pR pX tD uG nU post) args s 0 0 A) (F0 m 84 ls []) := by
  intro n
  induction n with
  | zero =>
    intro x1 x2 x3 x4 bL bR bO vW H locs ls hp
    exact False.elim hp
  | succ n ih =>
    intro x1 x2 x3 x4 bL bR bO vW H locs ls hp
    exact ks_X10_workOf_84 C0 hK57 ih x1 x2 x3 x4 bL bR bO vW H locs ls hp
noncomputable def ws_X10_workOf_57 (post : Int32 → Int32 → Int32 → Int32 → (Nat → Int32) → Prop) (next : Int32 → Int32 → Int32 → Int32 → Int32 → (Nat → Int32) → Prop) (bW aG dU : Int32) (rD pR pX tD uG nU : Nat → Int32) (x1 x2 bL bR bO : Int32) (vW : Nat → Int32) : Prop := (bW ≤ x2 → ∃ n : Nat, wb_X10_workOf_202 post bW aG dU rD pR pX tD uG nU n 0 bL bR bO vW) ∧ (¬ bW ≤ x2 → wp_X10_has (fun r_13 => (¬ r_13 = 0 → ∃ n : Nat, wb_X10_workOf_84 post next bW aG dU rD pR pX tD uG nU n x1 x2 (-1) 0 bL bR bO vW) ∧ (r_13 = 0 → ws_X10_workOf_194 post next bW aG dU rD pR pX tD uG nU x1 x2 bL bR bO vW)) dU x2)
noncomputable def wb_X10_workOf_57 (post : Int32 → Int32 → Int32 → Int32 → (Nat → Int32) → Prop) (bW aG dU : Int32) (rD pR pX tD uG nU : Nat → Int32) : Nat → Int32 → Int32 → Int32 → Int32 → Int32 → (Nat → Int32) → Prop := fun n => Nat.rec (motive := fun _ => Int32 → Int32 → Int32 → Int32 → Int32 → (Nat → Int32) → Prop) (fun _ _ _ _ _ _ => False) (fun _ ih => ws_X10_workOf_57 post ih bW aG dU rD pR pX tD uG nU) n
set_option maxHeartbeats 4000000 in
set_option maxRecDepth 100000 in
theorem ks_X10_workOf_57 (C0 : gc cX10_workOf (some .int) 5 RX10 (dC, dI) (tyl cI cC cZ cB cJ) A p s m args meth c) {next : Int32 → Int32 → Int32 → Int32 → Int32 → (Nat → Int32) → Prop} (hKn : ∀ (x1 : Int32) (x2 : Int32) (bL : Int32) (bR : Int32) (bO : Int32) (vW : Nat → Int32) (H : Heap) (locs : List Loc) (ls : Array Slot), next x1 x2 bL bR bO vW → va_P (dC, dI) classes (wd_X10_workOf cI cC cZ cB cJ a_m oJ uD dY iJ lJ jQ jR jW jK pJ bM aY jO gR gY mK jZ iY bG mJ jB mQ lY eJ bY bW aG jG bQ dG jY m_length qG uW eY aJ aB bU dN aR aE bJ aW bT gJ dU bL bR bO mY pW rD pR pX tD uG nU vW) H → va_D A (wd_X10_workOf cI cC cZ cB cJ a_m oJ uD dY iJ lJ jQ jR jW jK pJ bM aY jO gR gY mK jZ iY bG mJ jB mQ lY eJ bY bW aG jG bQ dG jY m_length qG uW eY aJ aB bU dN aR aE bJ aW bT gJ dU bL bR bO mY pW rD pR pX tD uG nU vW) → va_S A s.heap H locs → lv_has ls 5 [(0, .ref a_m), (1, .int x1), (2, .int x2)] → W p l e rm_X10_workOf s m args below meth c H locs 0 0 (MQ below (q_X10_workOf dC dI cI cC cZ cB cJ A a_m oJ uD dY iJ lJ jQ jR jW jK pJ bM aY jO gR gY mK jZ iY bG mJ jB mQ lY eJ bY bW aG jG bQ dG jY m_length qG uW eY aJ aB bU dN aR aE bJ aW bT gJ dU mY pW rD pR pX tD uG nU post) args s 0 0 A) (F0 m 57 ls [])) : ∀ (x1 x2 bL bR bO : Int32) (vW : Nat → Int32) (H : Heap) (locs : List Loc) (ls : Array Slot), (ws_X10_workOf_57 post next bW aG dU rD pR pX tD uG nU) x1 x2 bL bR bO vW → va_P (dC, dI) classes (wd_X10_workOf cI cC cZ cB cJ a_m oJ uD dY iJ lJ jQ jR jW jK pJ bM aY jO gR gY mK jZ iY bG mJ jB mQ lY eJ bY bW aG jG bQ dG jY m_length qG uW eY aJ aB bU dN aR aE bJ aW bT gJ dU bL bR bO mY pW rD pR pX tD uG nU vW) H → va_D A (wd_X10_workOf cI cC cZ cB cJ a_m oJ uD dY iJ lJ jQ jR jW jK pJ bM aY jO gR gY mK jZ iY bG mJ jB mQ lY eJ bY bW aG jG bQ dG jY m_length qG uW eY aJ aB bU dN aR aE bJ aW bT gJ dU bL bR bO mY pW rD pR pX tD uG nU vW) → va_S A s.heap H locs → lv_has ls 5 [(0, .ref a_m), (1, .int x1), (2, .int x2)] → W p l e rm_X10_workOf s m args below meth c H locs 0 0 (MQ below (q_X10_workOf dC dI cI cC cZ cB cJ A a_m oJ uD dY iJ lJ jQ jR jW jK pJ bM aY jO gR gY mK jZ iY bG mJ jB mQ lY eJ bY bW aG jG bQ dG jY m_length qG uW eY aJ aB bU dN aR aE bJ aW bT gJ dU mY pW rD pR pX tD uG nU post) args s 0 0 A) (F0 m 57 ls []) := by
  obtain ⟨hx, hb, hr, hml, hown, hts, hlocks, hA, hK, hN, tL, tM, hZL, hTL, hZM, hTM, hZX⟩ := id C0
  intro x1 x2 bL bR bO vW H locs ls hp hP hD hS hl
  unfold ws_X10_workOf_57 at hp
  refine lv_iload_n hx hb eX10_workOf_56.2.1 rfl (lv_at hl 2 rfl) ?_
  refine lv_aload_n hx hb eX10_workOf_56.2.2.1 rfl (lv_at hl 0 rfl) ?_
  refine va_get (D := (dC, dI)) (ci := 10) (v := .int bW) (C := RX10) (T := TX10) (N := 51) hx hb hts i_X10 hown hK hP 0 rfl rfl 1 (Nat.le_of_ble_eq_true rfl) (hts _ q_677) (fun _ h9 => h9) rfl eX10_workOf_56.2.2.2.1 ?_
  refine lv_icmp_ge (tgt := 200) hx hb eX10_workOf_56.2.2.2.2.1 (by decide) (fun hc => ?_) (fun hc => ?_)
  · have hp := hp.1 hc
    refine lv_iconst (v := 0) hx hb eX10_workOf_197.2.1 ic_0 ?_
    refine lv_istore_n (lv' := [(2, .int 0), (0, .ref a_m), (1, .int x1)]) hx hb eX10_workOf_197.2.2.1 rfl hl (by decide) rfl (fun ls hl => ?_)
    obtain ⟨n9, hp⟩ := hp
    exact kb_X10_workOf_202 C0 n9 0 bL bR bO vW H locs ls hp hP hD hS (lv_sub hl [1, 0] rfl)
  · have hp := hp.2 hc
    refine lv_aload_n hx hb eX10_workOf_56.2.2.2.2.2.1 rfl (lv_at hl 0 rfl) ?_
    refine va_get (D := (dC, dI)) (ci := 10) (v := .int dU) (C := RX10) (T := TX10) (N := 51) hx hb hts i_X10 hown hK hP 0 rfl rfl 37 (Nat.le_of_ble_eq_true rfl) (hts _ q_878) (fun _ h9 => h9) rfl eX10_workOf_56.2.2.2.2.2.2.1 ?_
    refine lv_iload_n hx hb eX10_workOf_56.2.2.2.2.2.2.2.1 rfl (lv_at hl 2 rfl) ?_
    have hm := mgk (wc := (wd_X10_has cI cC cZ cB cJ)) hP aAW 8 rfl rfl rfl
    refine g_calli hP hD hS hA (mixT aAW) (mixF aAW) hm.1 hm.2 (nd_F _) (dis_g _) (g_runS (As := [.int dU, .int x2]) (rest := []) C0 hP hD hS (mixT aAW) hm.1 (nd_T _) (c_X10_has l dC dI cI cC cZ cB cJ H.size dU x2 _ hp) q_734 q_736 q_735 q_642 h_X10_has rfl rfl ⟨Nat.le_of_ble_eq_true rfl, Nat.le_of_ble_eq_true rfl⟩ rfl rfl hl.1 rfl (lv_room (Nat.le_of_ble_eq_true rfl)) eX10_workOf_56.2.2.2.2.2.2.2.2.1 ⟨Nat.zero_le _, Nat.zero_le _⟩) (fun r_13 u H locs hp hP hD hS => ?_)
    have hPD := PDm (ws' := (wd_X10_workOf cI cC cZ cB cJ a_m oJ uD dY iJ lJ jQ jR jW jK pJ bM aY jO gR gY mK jZ iY bG mJ jB mQ lY eJ bY bW aG jG bQ dG jY m_length qG uW eY aJ aB bU dN aR aE bJ aW bT gJ dU bL bR bO mY pW rD pR pX tD uG nU vW)) hP hD 8 rfl rfl rfl
    have hP := hPD.1
    have hD := hPD.2
    refine lv_if_ne (tgt := 79) hx hb eX10_workOf_56.2.2.2.2.2.2.2.2.2.1 (by decide) (fun hc => ?_) (fun hc => ?_)
    · have hp := hp.1 hc
      refine lv_iconst (v := (-1)) hx hb eX10_workOf_56.2.2.2.2.2.2.2.2.2.2.2.1 ic_m1 ?_
      refine lv_istore_n (lv' := [(3, .int (-1)), (0, .ref a_m), (1, .int x1), (2, .int x2)]) hx hb eX10_workOf_56.2.2.2.2.2.2.2.2.2.2.2.2.1 rfl hl (by decide) rfl (fun ls hl => ?_)
      refine lv_iconst (v := 0) hx hb eX10_workOf_56.2.2.2.2.2.2.2.2.2.2.2.2.2.1 ic_0 ?_
      refine lv_istore (lv' := [(4, .int 0), (3, .int (-1)), (0, .ref a_m), (1, .int x1), (2, .int x2)]) hx hb eX10_workOf_56.2.2.2.2.2.2.2.2.2.2.2.2.2.2.1 hl (by decide) rfl (fun ls hl => ?_)
      obtain ⟨n9, hp⟩ := hp
      exact kb_X10_workOf_84 C0 hKn n9 x1 x2 (-1) 0 bL bR bO vW H locs ls hp hP hD hS (lv_sub hl [2, 3, 4, 1, 0] rfl)
    · have hp := hp.2 hc
      refine lv_goto (tgt := 194) hx hb eX10_workOf_56.2.2.2.2.2.2.2.2.2.2.1 (by decide) ?_
      exact ks_X10_workOf_194 C0 hKn x1 x2 bL bR bO vW H locs ls hp hP hD hS (lv_sub hl [0, 1, 2] rfl)
set_option maxHeartbeats 4000000 in
set_option maxRecDepth 100000 in
theorem kb_X10_workOf_57 (C0 : gc cX10_workOf (some .int) 5 RX10 (dC, dI) (tyl cI cC cZ cB cJ) A p s m args meth c) : ∀ (n : Nat), ∀ (x1 x2 bL bR bO : Int32) (vW : Nat → Int32) (H : Heap) (locs : List Loc) (ls : Array Slot), (wb_X10_workOf_57 post bW aG dU rD pR pX tD uG nU n) x1 x2 bL bR bO vW → va_P (dC, dI) classes (wd_X10_workOf cI cC cZ cB cJ a_m oJ uD dY iJ lJ jQ jR jW jK pJ bM aY jO gR gY mK jZ iY bG mJ jB mQ lY eJ bY bW aG jG bQ dG jY m_length qG uW eY aJ aB bU dN aR aE bJ aW bT gJ dU bL bR bO mY pW rD pR pX tD uG nU vW) H → va_D A (wd_X10_workOf cI cC cZ cB cJ a_m oJ uD dY iJ lJ jQ jR jW jK pJ bM aY jO gR gY mK jZ iY bG mJ jB mQ lY eJ bY bW aG jG bQ dG jY m_length qG uW eY aJ aB bU dN aR aE bJ aW bT gJ dU bL bR bO mY pW rD pR pX tD uG nU vW) → va_S A s.heap H locs → lv_has ls 5 [(0, .ref a_m), (1, .int x1), (2, .int x2)] → W p l e rm_X10_workOf s m args below meth c H locs 0 0 (MQ below (q_X10_workOf dC dI cI cC cZ cB cJ A a_m oJ uD dY iJ lJ jQ jR jW jK pJ bM aY jO gR gY mK jZ iY bG mJ jB mQ lY eJ bY bW aG jG bQ dG jY m_length qG uW eY aJ aB bU dN aR aE bJ aW bT gJ dU mY pW rD pR pX tD uG nU post) args s 0 0 A) (F0 m 57 ls []) := by
  intro n
  induction n with
  | zero =>
    intro x1 x2 bL bR bO vW H locs ls hp
    exact False.elim hp
  | succ n ih =>
    intro x1 x2 bL bR bO vW H locs ls hp
    exact ks_X10_workOf_57 C0 ih x1 x2 bL bR bO vW H locs ls hp
noncomputable def ws_X10_workOf_36 (post : Int32 → Int32 → Int32 → Int32 → (Nat → Int32) → Prop) (next : Int32 → Int32 → Int32 → Int32 → Int32 → (Nat → Int32) → Prop) (bW aG dU : Int32) (rD pR pX tD uG nU : Nat → Int32) (x1 x2 bL bR bO : Int32) (vW : Nat → Int32) : Prop := (8 ≤ x2 → ∃ n : Nat, wb_X10_workOf_57 post bW aG dU rD pR pX tD uG nU n x1 0 bL bR bO vW) ∧ (¬ 8 ≤ x2 → vp_in x2 8 ∧ (∀ v_29 : Int32, v_29 = x2 + 1 → next x1 v_29 bL bR bO (upd vW x2.toNatClampNeg 0)))
noncomputable def wb_X10_workOf_36 (post : Int32 → Int32 → Int32 → Int32 → (Nat → Int32) → Prop) (bW aG dU : Int32) (rD pR pX tD uG nU : Nat → Int32) : Nat → Int32 → Int32 → Int32 → Int32 → Int32 → (Nat → Int32) → Prop := fun n => Nat.rec (motive := fun _ => Int32 → Int32 → Int32 → Int32 → Int32 → (Nat → Int32) → Prop) (fun _ _ _ _ _ _ => False) (fun _ ih => ws_X10_workOf_36 post ih bW aG dU rD pR pX tD uG nU) n
set_option maxHeartbeats 4000000 in
set_option maxRecDepth 100000 in
theorem ks_X10_workOf_36 (C0 : gc cX10_workOf (some .int) 5 RX10 (dC, dI) (tyl cI cC cZ cB cJ) A p s m args meth c) {next : Int32 → Int32 → Int32 → Int32 → Int32 → (Nat → Int32) → Prop} (hKn : ∀ (x1 : Int32) (x2 : Int32) (bL : Int32) (bR : Int32) (bO : Int32) (vW : Nat → Int32) (H : Heap) (locs : List Loc) (ls : Array Slot), next x1 x2 bL bR bO vW → va_P (dC, dI) classes (wd_X10_workOf cI cC cZ cB cJ a_m oJ uD dY iJ lJ jQ jR jW jK pJ bM aY jO gR gY mK jZ iY bG mJ jB mQ lY eJ bY bW aG jG bQ dG jY m_length qG uW eY aJ aB bU dN aR aE bJ aW bT gJ dU bL bR bO mY pW rD pR pX tD uG nU vW) H → va_D A (wd_X10_workOf cI cC cZ cB cJ a_m oJ uD dY iJ lJ jQ jR jW jK pJ bM aY jO gR gY mK jZ iY bG mJ jB mQ lY eJ bY bW aG jG bQ dG jY m_length qG uW eY aJ aB bU dN aR aE bJ aW bT gJ dU bL bR bO mY pW rD pR pX tD uG nU vW) → va_S A s.heap H locs → lv_has ls 5 [(0, .ref a_m), (1, .int x1), (2, .int x2)] → W p l e rm_X10_workOf s m args below meth c H locs 0 0 (MQ below (q_X10_workOf dC dI cI cC cZ cB cJ A a_m oJ uD dY iJ lJ jQ jR jW jK pJ bM aY jO gR gY mK jZ iY bG mJ jB mQ lY eJ bY bW aG jG bQ dG jY m_length qG uW eY aJ aB bU dN aR aE bJ aW bT gJ dU mY pW rD pR pX tD uG nU post) args s 0 0 A) (F0 m 36 ls [])) : ∀ (x1 x2 bL bR bO : Int32) (vW : Nat → Int32) (H : Heap) (locs : List Loc) (ls : Array Slot), (ws_X10_workOf_36 post next bW aG dU rD pR pX tD uG nU) x1 x2 bL bR bO vW → va_P (dC, dI) classes (wd_X10_workOf cI cC cZ cB cJ a_m oJ uD dY iJ lJ jQ jR jW jK pJ bM aY jO gR gY mK jZ iY bG mJ jB mQ lY eJ bY bW aG jG bQ dG jY m_length qG uW eY aJ aB bU dN aR aE bJ aW bT gJ dU bL bR bO mY pW rD pR pX tD uG nU vW) H → va_D A (wd_X10_workOf cI cC cZ cB cJ a_m oJ uD dY iJ lJ jQ jR jW jK pJ bM aY jO gR gY mK jZ iY bG mJ jB mQ lY eJ bY bW aG jG bQ dG jY m_length qG uW eY aJ aB bU dN aR aE bJ aW bT gJ dU bL bR bO mY pW rD pR pX tD uG nU vW) → va_S A s.heap H locs → lv_has ls 5 [(0, .ref a_m), (1, .int x1), (2, .int x2)] → W p l e rm_X10_workOf s m args below meth c H locs 0 0 (MQ below (q_X10_workOf dC dI cI cC cZ cB cJ A a_m oJ uD dY iJ lJ jQ jR jW jK pJ bM aY jO gR gY mK jZ iY bG mJ jB mQ lY eJ bY bW aG jG bQ dG jY m_length qG uW eY aJ aB bU dN aR aE bJ aW bT gJ dU mY pW rD pR pX tD uG nU post) args s 0 0 A) (F0 m 36 ls []) := by
  obtain ⟨hx, hb, hr, hml, hown, hts, hlocks, hA, hK, hN, tL, tM, hZL, hTL, hZM, hTM, hZX⟩ := id C0
  intro x1 x2 bL bR bO vW H locs ls hp hP hD hS hl
  unfold ws_X10_workOf_36 at hp
  refine lv_iload_n hx hb eX10_workOf_29.2.2.2.2.2.1 rfl (lv_at hl 2 rfl) ?_
  refine lv_bipush (v := 8) hx hb eX10_workOf_29.2.2.2.2.2.2.1 bp_8 ?_
  refine lv_icmp_ge (tgt := 55) hx hb eX10_workOf_29.2.2.2.2.2.2.2.1 (by decide) (fun hc => ?_) (fun hc => ?_)
  · have hp := hp.1 hc
    refine lv_iconst (v := 0) hx hb eX10_workOf_29.2.2.2.2.2.2.2.2.2.2.2.2.2.2.2 ic_0 ?_
    refine lv_istore_n (lv' := [(2, .int 0), (0, .ref a_m), (1, .int x1)]) hx hb eX10_workOf_56.1 rfl hl (by decide) rfl (fun ls hl => ?_)
    obtain ⟨n9, hp⟩ := hp
    exact kb_X10_workOf_57 C0 n9 x1 0 bL bR bO vW H locs ls hp hP hD hS (lv_sub hl [1, 2, 0] rfl)
  · have hp := hp.2 hc
    refine lv_aload_n hx hb eX10_workOf_29.2.2.2.2.2.2.2.2.1 rfl (lv_at hl 0 rfl) ?_
    refine va_get (D := (dC, dI)) (ci := 10) (v := .ref mJ) (C := RX10) (T := TX10) (N := 51) hx hb hts i_X10 hown hK hP 0 rfl rfl 43 (Nat.le_of_ble_eq_true rfl) (hts _ q_932) (fun _ h9 => h9) rfl eX10_workOf_29.2.2.2.2.2.2.2.2.2.1 ?_
    refine lv_iload_n hx hb eX10_workOf_29.2.2.2.2.2.2.2.2.2.2.1 rfl (lv_at hl 2 rfl) ?_
    refine lv_iconst (v := 0) hx hb eX10_workOf_29.2.2.2.2.2.2.2.2.2.2.2.1 ic_0 ?_
    have hin := hp.1
    have hp := hp.2
    refine va_iast hx hb hK hP hD hS 7 0 rfl rfl hin eX10_workOf_29.2.2.2.2.2.2.2.2.2.2.2.2.1 (fun H locs hP hD hS => ?_)
    have hP : va_P (dC, dI) classes (wd_X10_workOf cI cC cZ cB cJ a_m oJ uD dY iJ lJ jQ jR jW jK pJ bM aY jO gR gY mK jZ iY bG mJ jB mQ lY eJ bY bW aG jG bQ dG jY m_length qG uW eY aJ aB bU dN aR aE bJ aW bT gJ dU bL bR bO mY pW rD pR pX tD uG nU (upd vW x2.toNatClampNeg 0)) H := hP
    have hD : va_D A (wd_X10_workOf cI cC cZ cB cJ a_m oJ uD dY iJ lJ jQ jR jW jK pJ bM aY jO gR gY mK jZ iY bG mJ jB mQ lY eJ bY bW aG jG bQ dG jY m_length qG uW eY aJ aB bU dN aR aE bJ aW bT gJ dU bL bR bO mY pW rD pR pX tD uG nU (upd vW x2.toNatClampNeg 0)) := hD
    obtain ⟨v_29, ev_29⟩ : ∃ y : Int32, y = x2 + 1 := ⟨_, rfl⟩
    refine lv_iinc (v := v_29) (lv' := [(2, .int v_29), (0, .ref a_m), (1, .int x1)]) hx hb eX10_workOf_29.2.2.2.2.2.2.2.2.2.2.2.2.2.1 hl (k := 2) rfl (by rw [ev_29]; rfl) (by decide) rfl (fun ls hl => ?_)
    have hp := hp v_29 ev_29
    refine lv_goto (tgt := 36) hx hb eX10_workOf_29.2.2.2.2.2.2.2.2.2.2.2.2.2.2.1 (by decide) ?_
    exact hKn x1 v_29 bL bR bO (upd vW x2.toNatClampNeg 0) H locs ls hp hP hD hS (lv_sub hl [1, 2, 0] rfl)
set_option maxHeartbeats 4000000 in
set_option maxRecDepth 100000 in
theorem kb_X10_workOf_36 (C0 : gc cX10_workOf (some .int) 5 RX10 (dC, dI) (tyl cI cC cZ cB cJ) A p s m args meth c) : ∀ (n : Nat), ∀ (x1 x2 bL bR bO : Int32) (vW : Nat → Int32) (H : Heap) (locs : List Loc) (ls : Array Slot), (wb_X10_workOf_36 post bW aG dU rD pR pX tD uG nU n) x1 x2 bL bR bO vW → va_P (dC, dI) classes (wd_X10_workOf cI cC cZ cB cJ a_m oJ uD dY iJ lJ jQ jR jW jK pJ bM aY jO gR gY mK jZ iY bG mJ jB mQ lY eJ bY bW aG jG bQ dG jY m_length qG uW eY aJ aB bU dN aR aE bJ aW bT gJ dU bL bR bO mY pW rD pR pX tD uG nU vW) H → va_D A (wd_X10_workOf cI cC cZ cB cJ a_m oJ uD dY iJ lJ jQ jR jW jK pJ bM aY jO gR gY mK jZ iY bG mJ jB mQ lY eJ bY bW aG jG bQ dG jY m_length qG uW eY aJ aB bU dN aR aE bJ aW bT gJ dU bL bR bO mY pW rD pR pX tD uG nU vW) → va_S A s.heap H locs → lv_has ls 5 [(0, .ref a_m), (1, .int x1), (2, .int x2)] → W p l e rm_X10_workOf s m args below meth c H locs 0 0 (MQ below (q_X10_workOf dC dI cI cC cZ cB cJ A a_m oJ uD dY iJ lJ jQ jR jW jK pJ bM aY jO gR gY mK jZ iY bG mJ jB mQ lY eJ bY bW aG jG bQ dG jY m_length qG uW eY aJ aB bU dN aR aE bJ aW bT gJ dU mY pW rD pR pX tD uG nU post) args s 0 0 A) (F0 m 36 ls []) := by
  intro n
  induction n with
  | zero =>
    intro x1 x2 bL bR bO vW H locs ls hp
    exact False.elim hp
  | succ n ih =>
    intro x1 x2 bL bR bO vW H locs ls hp
    exact ks_X10_workOf_36 C0 ih x1 x2 bL bR bO vW H locs ls hp
end S_X10_workOf
noncomputable def wp_X10_workOf (post : Int32 → Int32 → Int32 → Int32 → (Nat → Int32) → Prop) (p0 bW aG dU bL bR bO : Int32) (rD pR pX tD uG nU vW : Nat → Int32) : Prop := ∀ v_1 : Int32, v_1 = rD (17 : Int32).toNatClampNeg → wp_X10_placeOf (fun r_2 => wp_X10_besides (fun r_3 => wp_X10_leastMoves (fun r_4 => ∃ n : Nat, wb_X10_workOf_36 post bW aG dU rD pR pX tD uG nU n p0 0 r_4 0 0 vW) r_2 r_3 uG) p0 rD) v_1
set_option maxHeartbeats 4000000 in
set_option maxRecDepth 100000 in
theorem c_X10_workOf (l : Launch) (dC : Nat → ClassId) (dI : Nat → Nat → Nat) (cI cC cZ cB cJ : ClassId) (a_m oJ uD dY iJ lJ jQ jR jW jK pJ bM aY jO gR gY mK jZ iY bG mJ jB mQ lY eJ bY sz : Nat) (p0 bW aG jG bQ dG : Int32) (jY : Nat) (m_length qG uW eY aJ aB bU dN aR aE bJ aW bT gJ dU bL bR bO mY pW : Int32) (rD pR pX tD uG nU vW : Nat → Int32) (post : Int32 → Int32 → Int32 → Int32 → (Nat → Int32) → Prop) (hw : wp_X10_workOf post p0 bW aG dU bL bR bO rD pR pX tD uG nU vW) : Met l yX10_workOf (gw yX10_workOf cX10_workOf 5 (some .int)) rm_X10_workOf (va_Pc [.ref a_m, .int p0] (gPre (dC, dI) (tyl cI cC cZ cB cJ) (wd_X10_workOf cI cC cZ cB cJ a_m oJ uD dY iJ lJ jQ jR jW jK pJ bM aY jO gR gY mK jZ iY bG mJ jB mQ lY eJ bY bW aG jG bQ dG jY m_length qG uW eY aJ aB bU dN aR aE bJ aW bT gJ dU bL bR bO mY pW rD pR pX tD uG nU vW) sz)) (q_X10_workOf dC dI cI cC cZ cB cJ (va_A (wd_X10_workOf cI cC cZ cB cJ a_m oJ uD dY iJ lJ jQ jR jW jK pJ bM aY jO gR gY mK jZ iY bG mJ jB mQ lY eJ bY bW aG jG bQ dG jY m_length qG uW eY aJ aB bU dN aR aE bJ aW bT gJ dU bL bR bO mY pW rD pR pX tD uG nU vW) sz) a_m oJ uD dY iJ lJ jQ jR jW jK pJ bM aY jO gR gY mK jZ iY bG mJ jB mQ lY eJ bY bW aG jG bQ dG jY m_length qG uW eY aJ aB bU dN aR aE bJ aW bT gJ dU mY pW rD pR pX tD uG nU post) 0 0 (va_A (wd_X10_workOf cI cC cZ cB cJ a_m oJ uD dY iJ lJ jQ jR jW jK pJ bM aY jO gR gY mK jZ iY bG mJ jB mQ lY eJ bY bW aG jG bQ dG jY m_length qG uW eY aJ aB bU dN aR aE bJ aW bT gJ dU bL bR bO mY pW rD pR pX tD uG nU vW) sz) := by
  refine g_enter (own := RX10) (dC, dI) (tyl cI cC cZ cB cJ) (wd_X10_workOf cI cC cZ cB cJ a_m oJ uD dY iJ lJ jQ jR jW jK pJ bM aY jO gR gY mK jZ iY bG mJ jB mQ lY eJ bY bW aG jG bQ dG jY m_length qG uW eY aJ aB bU dN aR aE bJ aW bT gJ dU bL bR bO mY pW rD pR pX tD uG nU vW) sz [.ref a_m, .int p0] (fun A => q_X10_workOf dC dI cI cC cZ cB cJ A a_m oJ uD dY iJ lJ jQ jR jW jK pJ bM aY jO gR gY mK jZ iY bG mJ jB mQ lY eJ bY bW aG jG bQ dG jY m_length qG uW eY aJ aB bU dN aR aE bJ aW bT gJ dU mY pW rD pR pX tD uG nU post) pn_RX10 rfl (Nat.le_of_ble_eq_true rfl) ?_
  intro p e s m args below meth c A H locs ls C0 hP hD hS hl
  have hl : lv_has ls 5 [(0, .ref a_m), (1, .int p0)] := hl
  obtain ⟨hx, hb, hr, hml, hown, hts, hlocks, hA, hK, hN, tL, tM, hZL, hTL, hZM, hTM, hZX⟩ := id C0
  have hp := hw
  unfold wp_X10_workOf at hp
  refine lv_aload_n hx hb eX10_workOf_0.1 rfl (lv_at hl 0 rfl) ?_
  refine lv_aload_n hx hb eX10_workOf_0.2.1 rfl (lv_at hl 0 rfl) ?_
  refine lv_aload_n hx hb eX10_workOf_0.2.2.1 rfl (lv_at hl 0 rfl) ?_
  refine lv_aload_n hx hb eX10_workOf_0.2.2.2.1 rfl (lv_at hl 0 rfl) ?_
  refine va_get (D := (dC, dI)) (ci := 10) (v := .ref oJ) (C := RX10) (T := TX10) (N := 51) hx hb hts i_X10 hown hK hP 0 rfl rfl 0 (Nat.le_of_ble_eq_true rfl) (hts _ q_692) (fun _ h9 => h9) rfl eX10_workOf_0.2.2.2.2.1 ?_
  refine lv_bipush (v := 17) hx hb eX10_workOf_0.2.2.2.2.2.1 bp_17 ?_
  refine va_iald hx hb hK hP 1 0 rfl rfl (g_in rfl) eX10_workOf_0.2.2.2.2.2.2.1 ?_
  refine lv_topi (fun v_1 ev_1 => ?_)
  have hp := hp v_1 ev_1
  have hm := mgk (wc := (wd_X10_placeOf cI cC cZ cB cJ a_m)) hP aAW 8 rfl rfl rfl
  refine g_calli hP hD hS hA (mixT aAW) (mixF aAW) hm.1 hm.2 (nd_F _) (dis_g _) (g_runV (As := [.int v_1]) (rest := [.ref a_m, .ref a_m]) C0 hP hD hS (mixT aAW) hm.1 (nd_T _) 0 10 rfl rfl (c_X10_placeOf l dC dI cI cC cZ cB cJ a_m H.size v_1 _ hp) q_924 q_927 q_925 q_926 q_642 h_X10_placeOf rfl rfl ⟨Nat.le_of_ble_eq_true rfl, Nat.le_of_ble_eq_true rfl⟩ rfl rfl hl.1 rfl (lv_room (Nat.le_of_ble_eq_true rfl)) eX10_workOf_0.2.2.2.2.2.2.2.1 ⟨Nat.zero_le _, Nat.zero_le _⟩) (fun r_2 u H locs hp hP hD hS => ?_)
  have hPD := PDm (ws' := (wd_X10_workOf cI cC cZ cB cJ a_m oJ uD dY iJ lJ jQ jR jW jK pJ bM aY jO gR gY mK jZ iY bG mJ jB mQ lY eJ bY bW aG jG bQ dG jY m_length qG uW eY aJ aB bU dN aR aE bJ aW bT gJ dU bL bR bO mY pW rD pR pX tD uG nU vW)) hP hD 8 rfl rfl rfl
  have hP := hPD.1
  have hD := hPD.2
  refine lv_aload_n hx hb eX10_workOf_0.2.2.2.2.2.2.2.2.1 rfl (lv_at hl 0 rfl) ?_
  refine lv_iload_n hx hb eX10_workOf_0.2.2.2.2.2.2.2.2.2.1 rfl (lv_at hl 1 rfl) ?_
  have hm := mgk (wc := (wd_X10_besides cI cC cZ cB cJ a_m oJ uD dY iJ lJ jQ jR jW jK pJ bM aY jO gR gY mK jZ iY bG mJ jB mQ lY eJ bY bW aG jG bQ dG jY m_length qG uW eY aJ aB bU dN aR aE bJ aW bT gJ dU bL bR bO mY pW rD)) hP aGn 8 rfl rfl rfl
  refine g_calli hP hD hS hA (mixT aGn) (mixF aGn) hm.1 hm.2 (nd_F _) (dis_g _) (g_runV (As := [.int p0]) (rest := [.int r_2, .ref a_m, .ref a_m]) C0 hP hD hS (mixT aGn) hm.1 (nd_T _) 0 10 rfl rfl (c_X10_besides l dC dI cI cC cZ cB cJ a_m oJ uD dY iJ lJ jQ jR jW jK pJ bM aY jO gR gY mK jZ iY bG mJ jB mQ lY eJ bY H.size p0 bW aG jG bQ dG jY m_length qG uW eY aJ aB bU dN aR aE bJ aW bT gJ dU bL bR bO mY pW rD _ hp) q_920 q_923 q_921 q_922 q_642 h_X10_besides rfl rfl ⟨Nat.le_of_ble_eq_true rfl, Nat.le_of_ble_eq_true rfl⟩ rfl rfl hl.1 rfl (lv_room (Nat.le_of_ble_eq_true rfl)) eX10_workOf_0.2.2.2.2.2.2.2.2.2.2.1 ⟨Nat.zero_le _, Nat.zero_le _⟩) (fun r_3 u H locs hp hP hD hS => ?_)
  have hPD := PDm (ws' := (wd_X10_workOf cI cC cZ cB cJ a_m oJ uD dY iJ lJ jQ jR jW jK pJ bM aY jO gR gY mK jZ iY bG mJ jB mQ lY eJ bY bW aG jG bQ dG jY m_length qG uW eY aJ aB bU dN aR aE bJ aW bT gJ dU bL bR bO mY pW rD pR pX tD uG nU vW)) hP hD 8 rfl rfl rfl
  have hP := hPD.1
  have hD := hPD.2
  have hm := mgk (wc := (wd_X10_leastMoves cI cC cZ cB cJ a_m oJ uD dY iJ lJ jQ jR jW jK pJ bM aY jO gR gY mK jZ iY bG mJ jB mQ lY eJ bY bW aG jG bQ dG jY m_length qG uW eY aJ aB bU dN aR aE bJ aW bT gJ dU bL bR bO mY pW uG)) hP mk_266 8 rfl rfl rfl
  refine g_calli hP hD hS hA (mixT mk_266) (mixF mk_266) hm.1 hm.2 (nd_F _) (dis_g _) (g_runV (As := [.int r_2, .int r_3]) (rest := [.ref a_m]) C0 hP hD hS (mixT mk_266) hm.1 (nd_T _) 0 10 rfl rfl (c_X10_leastMoves l dC dI cI cC cZ cB cJ a_m oJ uD dY iJ lJ jQ jR jW jK pJ bM aY jO gR gY mK jZ iY bG mJ jB mQ lY eJ bY H.size r_2 r_3 bW aG jG bQ dG jY m_length qG uW eY aJ aB bU dN aR aE bJ aW bT gJ dU bL bR bO mY pW uG _ hp) q_912 q_915 q_913 q_914 q_642 h_X10_leastMoves rfl rfl ⟨Nat.le_of_ble_eq_true rfl, Nat.le_of_ble_eq_true rfl⟩ rfl rfl hl.1 rfl (lv_room (Nat.le_of_ble_eq_true rfl)) eX10_workOf_0.2.2.2.2.2.2.2.2.2.2.2.1 ⟨Nat.zero_le _, Nat.zero_le _⟩) (fun r_4 u H locs hp hP hD hS => ?_)
  have hPD := PDm (ws' := (wd_X10_workOf cI cC cZ cB cJ a_m oJ uD dY iJ lJ jQ jR jW jK pJ bM aY jO gR gY mK jZ iY bG mJ jB mQ lY eJ bY bW aG jG bQ dG jY m_length qG uW eY aJ aB bU dN aR aE bJ aW bT gJ dU bL bR bO mY pW rD pR pX tD uG nU vW)) hP hD 8 rfl rfl rfl
  have hP := hPD.1
  have hD := hPD.2
  refine va_put (D := (dC, dI)) (ci := 10) (v := .int r_4) (ty := .int) (C := RX10) (T := TX10) (N := 51) hx hb hts i_X10 tyX10 tyX10_ok nmX10 hown hK hP hD hS 0 rfl rfl 40 (Nat.le_of_ble_eq_true rfl) (hts _ q_929) (fun _ h9 => h9) rfl (tyX10_ok 40 (Nat.le_of_ble_eq_true rfl)) rfl rfl (Nat.le_of_ble_eq_true rfl) eX10_workOf_0.2.2.2.2.2.2.2.2.2.2.2.2.1 (fun H locs hP hD hS => ?_)
  have hP : va_P (dC, dI) classes (wd_X10_workOf cI cC cZ cB cJ a_m oJ uD dY iJ lJ jQ jR jW jK pJ bM aY jO gR gY mK jZ iY bG mJ jB mQ lY eJ bY bW aG jG bQ dG jY m_length qG uW eY aJ aB bU dN aR aE bJ aW bT gJ dU r_4 bR bO mY pW rD pR pX tD uG nU vW) H := hP
  have hD : va_D A (wd_X10_workOf cI cC cZ cB cJ a_m oJ uD dY iJ lJ jQ jR jW jK pJ bM aY jO gR gY mK jZ iY bG mJ jB mQ lY eJ bY bW aG jG bQ dG jY m_length qG uW eY aJ aB bU dN aR aE bJ aW bT gJ dU r_4 bR bO mY pW rD pR pX tD uG nU vW) := hD
  refine lv_aload_n hx hb eX10_workOf_0.2.2.2.2.2.2.2.2.2.2.2.2.2.1 rfl (lv_at hl 0 rfl) ?_
  refine lv_iconst (v := 0) hx hb eX10_workOf_0.2.2.2.2.2.2.2.2.2.2.2.2.2.2.1 ic_0 ?_
  refine va_put (D := (dC, dI)) (ci := 10) (v := .int 0) (ty := .int) (C := RX10) (T := TX10) (N := 51) hx hb hts i_X10 tyX10 tyX10_ok nmX10 hown hK hP hD hS 0 rfl rfl 41 (Nat.le_of_ble_eq_true rfl) (hts _ q_930) (fun _ h9 => h9) rfl (tyX10_ok 41 (Nat.le_of_ble_eq_true rfl)) rfl rfl (Nat.le_of_ble_eq_true rfl) eX10_workOf_0.2.2.2.2.2.2.2.2.2.2.2.2.2.2.2 (fun H locs hP hD hS => ?_)
  have hP : va_P (dC, dI) classes (wd_X10_workOf cI cC cZ cB cJ a_m oJ uD dY iJ lJ jQ jR jW jK pJ bM aY jO gR gY mK jZ iY bG mJ jB mQ lY eJ bY bW aG jG bQ dG jY m_length qG uW eY aJ aB bU dN aR aE bJ aW bT gJ dU r_4 0 bO mY pW rD pR pX tD uG nU vW) H := hP
  have hD : va_D A (wd_X10_workOf cI cC cZ cB cJ a_m oJ uD dY iJ lJ jQ jR jW jK pJ bM aY jO gR gY mK jZ iY bG mJ jB mQ lY eJ bY bW aG jG bQ dG jY m_length qG uW eY aJ aB bU dN aR aE bJ aW bT gJ dU r_4 0 bO mY pW rD pR pX tD uG nU vW) := hD
  refine lv_aload_n hx hb eX10_workOf_29.1 rfl (lv_at hl 0 rfl) ?_
  refine lv_iconst (v := 0) hx hb eX10_workOf_29.2.1 ic_0 ?_
  refine va_put (D := (dC, dI)) (ci := 10) (v := .int 0) (ty := .int) (C := RX10) (T := TX10) (N := 51) hx hb hts i_X10 tyX10 tyX10_ok nmX10 hown hK hP hD hS 0 rfl rfl 42 (Nat.le_of_ble_eq_true rfl) (hts _ q_931) (fun _ h9 => h9) rfl (tyX10_ok 42 (Nat.le_of_ble_eq_true rfl)) rfl rfl (Nat.le_of_ble_eq_true rfl) eX10_workOf_29.2.2.1 (fun H locs hP hD hS => ?_)
  have hP : va_P (dC, dI) classes (wd_X10_workOf cI cC cZ cB cJ a_m oJ uD dY iJ lJ jQ jR jW jK pJ bM aY jO gR gY mK jZ iY bG mJ jB mQ lY eJ bY bW aG jG bQ dG jY m_length qG uW eY aJ aB bU dN aR aE bJ aW bT gJ dU r_4 0 0 mY pW rD pR pX tD uG nU vW) H := hP
  have hD : va_D A (wd_X10_workOf cI cC cZ cB cJ a_m oJ uD dY iJ lJ jQ jR jW jK pJ bM aY jO gR gY mK jZ iY bG mJ jB mQ lY eJ bY bW aG jG bQ dG jY m_length qG uW eY aJ aB bU dN aR aE bJ aW bT gJ dU r_4 0 0 mY pW rD pR pX tD uG nU vW) := hD
  refine lv_iconst (v := 0) hx hb eX10_workOf_29.2.2.2.1 ic_0 ?_
  refine lv_istore_n (lv' := [(2, .int 0), (0, .ref a_m), (1, .int p0)]) hx hb eX10_workOf_29.2.2.2.2.1 rfl hl (by decide) rfl (fun ls hl => ?_)
  obtain ⟨n9, hp⟩ := hp
  exact kb_X10_workOf_36 C0 n9 p0 0 r_4 0 0 vW H locs ls hp hP hD hS (lv_sub hl [1, 2, 0] rfl)
noncomputable abbrev wd_X10_work (cI cC cZ cB cJ : ClassId) (a_m oJ uD dY iJ lJ jQ jR jW jK pJ bM aY jO gR gY mK jZ iY bG mJ jB mQ lY eJ bY : Nat) (bW aG jG bQ dG : Int32) (jY : Nat) (m_length qG uW eY aJ aB bU dN aR aE bJ aW bT gJ dU bL bR bO mY pW : Int32) (rD m_x jA pY rW oY pR pX rG uM rQ tD uG nU vW : Nat → Int32) : va_W := [(a_m, .inr (10, [.ref oJ, .int bW, .ref uD, .ref dY, .ref iJ, .ref lJ, .int aG, .ref jQ, .ref jR, .ref jW, .ref jK, .int jG, .ref pJ, .int bQ, .int dG, rdv jK jO jY, .int m_length, .int qG, .int uW, .int eY, .ref bM, .ref aY, .int aJ, .int aB, .ref jO, .int bU, .int dN, .int aR, .int aE, .int bJ, .int aW, .ref gR, .int bT, .ref gY, .ref mK, .int gJ, .ref jZ, .int dU, .ref iY, .ref bG, .int bL, .int bR, .int bO, .ref mJ, .ref jB, .ref mQ, .int mY, .int pW, .ref lY, .ref eJ, .ref bY])), (oJ, .inl (cI, 21, .inl rD)), (uD, .inl (cI, 16, .inl m_x)), (dY, .inl (cI, 16, .inl jA)), (iJ, .inl (cI, 16, .inl pY)), (lJ, .inl (cI, 16, .inl rW)), (jQ, .inl (cI, 8, .inl oY)), (jR, .inl (cI, 8, .inl pR)), (jW, .inl (cI, 5, .inl pX)), (jK, .inl (cB, 80, .inl rG)), (pJ, .inl (cI, 32, .inl uM)), (jO, .inl (cB, 40, .inl rQ)), (jZ, .inl (cI, 8, .inl tD)), (iY, .inl (cI, 2304, .inl uG)), (bG, .inl (cI, 128, .inl nU)), (mJ, .inl (cI, 8, .inl vW))]
noncomputable abbrev q_X10_work (dC : Nat → ClassId) (dI : Nat → Nat → Nat) (cI cC cZ cB cJ : ClassId) (A : Nat → Prop) (a_m oJ uD dY iJ lJ jQ jR jW jK pJ bM aY jO gR gY mK jZ iY bG mJ jB mQ lY eJ bY : Nat) (bW aG jG aJ aB bU bT gJ mY pW : Int32) (rD m_x jA pY rW oY pR pX rG rQ : Nat → Int32) (post : Int32 → Int32 → Int32 → Nat → Int32 → Int32 → Int32 → Int32 → Int32 → Int32 → Int32 → Int32 → Int32 → Int32 → Int32 → Int32 → Int32 → (Nat → Int32) → (Nat → Int32) → (Nat → Int32) → (Nat → Int32) → (Nat → Int32) → Prop) : Array Value → State → Outcome → State → Prop := va_Qi (fun (r : Int32) (u : Int32 × Int32 × Nat × Int32 × Int32 × Int32 × Int32 × Int32 × Int32 × Int32 × Int32 × Int32 × Int32 × Int32 × Int32 × Int32 × (Nat → Int32) × (Nat → Int32) × (Nat → Int32) × (Nat → Int32) × (Nat → Int32)) => post r u.1 u.2.1 u.2.2.1 u.2.2.2.1 u.2.2.2.2.1 u.2.2.2.2.2.1 u.2.2.2.2.2.2.1 u.2.2.2.2.2.2.2.1 u.2.2.2.2.2.2.2.2.1 u.2.2.2.2.2.2.2.2.2.1 u.2.2.2.2.2.2.2.2.2.2.1 u.2.2.2.2.2.2.2.2.2.2.2.1 u.2.2.2.2.2.2.2.2.2.2.2.2.1 u.2.2.2.2.2.2.2.2.2.2.2.2.2.1 u.2.2.2.2.2.2.2.2.2.2.2.2.2.2.1 u.2.2.2.2.2.2.2.2.2.2.2.2.2.2.2.1 u.2.2.2.2.2.2.2.2.2.2.2.2.2.2.2.2.1 u.2.2.2.2.2.2.2.2.2.2.2.2.2.2.2.2.2.1 u.2.2.2.2.2.2.2.2.2.2.2.2.2.2.2.2.2.2.1 u.2.2.2.2.2.2.2.2.2.2.2.2.2.2.2.2.2.2.2.1 u.2.2.2.2.2.2.2.2.2.2.2.2.2.2.2.2.2.2.2.2) (fun u t => gB (dC, dI) (tyl cI cC cZ cB cJ) A (wd_X10_work cI cC cZ cB cJ a_m oJ uD dY iJ lJ jQ jR jW jK pJ bM aY jO gR gY mK jZ iY bG mJ jB mQ lY eJ bY bW aG jG u.1 u.2.1 u.2.2.1 u.2.2.2.1 u.2.2.2.2.1 u.2.2.2.2.2.1 u.2.2.2.2.2.2.1 aJ aB bU u.2.2.2.2.2.2.2.1 u.2.2.2.2.2.2.2.2.1 u.2.2.2.2.2.2.2.2.2.1 u.2.2.2.2.2.2.2.2.2.2.1 u.2.2.2.2.2.2.2.2.2.2.2.1 bT gJ u.2.2.2.2.2.2.2.2.2.2.2.2.1 u.2.2.2.2.2.2.2.2.2.2.2.2.2.1 u.2.2.2.2.2.2.2.2.2.2.2.2.2.2.1 u.2.2.2.2.2.2.2.2.2.2.2.2.2.2.2.1 mY pW rD m_x jA pY rW oY pR pX rG u.2.2.2.2.2.2.2.2.2.2.2.2.2.2.2.2.1 rQ u.2.2.2.2.2.2.2.2.2.2.2.2.2.2.2.2.2.1 u.2.2.2.2.2.2.2.2.2.2.2.2.2.2.2.2.2.2.1 u.2.2.2.2.2.2.2.2.2.2.2.2.2.2.2.2.2.2.2.1 u.2.2.2.2.2.2.2.2.2.2.2.2.2.2.2.2.2.2.2.2) t) A
noncomputable abbrev rm_X10_work : Room := { frames := 267, cells := 0, slots := 0, locals := 8804 }
noncomputable def wp_X10_work (post : Int32 → Int32 → Int32 → Nat → Int32 → Int32 → Int32 → Int32 → Int32 → Int32 → Int32 → Int32 → Int32 → Int32 → Int32 → Int32 → Int32 → (Nat → Int32) → (Nat → Int32) → (Nat → Int32) → (Nat → Int32) → (Nat → Int32) → Prop) (p0 bW aG bQ dG : Int32) (jY : Nat) (m_length qG uW eY bU dN aR aE bJ aW dU bL bR bO : Int32) (rD m_x jA pY rW oY pR pX rG uM rQ tD uG nU vW : Nat → Int32) : Prop := wp_X10_allStandings (fun r_1 => wp_X10_in (fun r_2 => (¬ r_2 = 0 → wp_X10_layHands (fun xT yQ => wp_X10_layMoves (fun aDq => wp_X10_laySeconds (fun aBl aAu aCb aAb yJ zV yS yK zD yW aAv => wp_X10_workOf (fun r_17 aAc aAd aAe aLj => wp_X10_tell (fun m_rowMany_22 m_row_23 => wp_X10_tell (fun m_rowMany_24 m_row_25 => wp_X10_tell (fun m_rowMany_26 m_row_27 => post r_17 m_rowMany_26 0 aBl aAu aCb aAb yJ zV yS yK zD yW xT aAc aAd aAe m_row_27 yQ aDq aAv aLj) aAe m_rowMany_24 m_row_25) aAd m_rowMany_22 m_row_23) aAc 0 uM) p0 bW aG xT bL bR bO rD pR pX yQ aDq aAv vW) bW aG jY m_length qG uW eY bU dN aR aE bJ aW m_x jA pY oY pR rG rQ nU) aG oY pX uG) bW aG dU rD m_x jA rW oY pR pX tD) ∧ (r_2 = 0 → post (-1) bQ 0 jY m_length qG uW eY dN aR aE bJ aW dU bL bR bO uM tD uG nU vW)) p0 0 r_1) aG
set_option maxHeartbeats 4000000 in
set_option maxRecDepth 100000 in
theorem c_X10_work (l : Launch) (dC : Nat → ClassId) (dI : Nat → Nat → Nat) (cI cC cZ cB cJ : ClassId) (a_m oJ uD dY iJ lJ jQ jR jW jK pJ bM aY jO gR gY mK jZ iY bG mJ jB mQ lY eJ bY sz : Nat) (p0 bW aG jG bQ dG : Int32) (jY : Nat) (m_length qG uW eY aJ aB bU dN aR aE bJ aW bT gJ dU bL bR bO mY pW : Int32) (rD m_x jA pY rW oY pR pX rG uM rQ tD uG nU vW : Nat → Int32) (post : Int32 → Int32 → Int32 → Nat → Int32 → Int32 → Int32 → Int32 → Int32 → Int32 → Int32 → Int32 → Int32 → Int32 → Int32 → Int32 → Int32 → (Nat → Int32) → (Nat → Int32) → (Nat → Int32) → (Nat → Int32) → (Nat → Int32) → Prop) (hw : wp_X10_work post p0 bW aG bQ dG jY m_length qG uW eY bU dN aR aE bJ aW dU bL bR bO rD m_x jA pY rW oY pR pX rG uM rQ tD uG nU vW) : Met l yX10_work (gw yX10_work cX10_work 3 (some .int)) rm_X10_work (va_Pc [.ref a_m, .int p0] (gPre (dC, dI) (tyl cI cC cZ cB cJ) (wd_X10_work cI cC cZ cB cJ a_m oJ uD dY iJ lJ jQ jR jW jK pJ bM aY jO gR gY mK jZ iY bG mJ jB mQ lY eJ bY bW aG jG bQ dG jY m_length qG uW eY aJ aB bU dN aR aE bJ aW bT gJ dU bL bR bO mY pW rD m_x jA pY rW oY pR pX rG uM rQ tD uG nU vW) sz)) (q_X10_work dC dI cI cC cZ cB cJ (va_A (wd_X10_work cI cC cZ cB cJ a_m oJ uD dY iJ lJ jQ jR jW jK pJ bM aY jO gR gY mK jZ iY bG mJ jB mQ lY eJ bY bW aG jG bQ dG jY m_length qG uW eY aJ aB bU dN aR aE bJ aW bT gJ dU bL bR bO mY pW rD m_x jA pY rW oY pR pX rG uM rQ tD uG nU vW) sz) a_m oJ uD dY iJ lJ jQ jR jW jK pJ bM aY jO gR gY mK jZ iY bG mJ jB mQ lY eJ bY bW aG jG aJ aB bU bT gJ mY pW rD m_x jA pY rW oY pR pX rG rQ post) 0 0 (va_A (wd_X10_work cI cC cZ cB cJ a_m oJ uD dY iJ lJ jQ jR jW jK pJ bM aY jO gR gY mK jZ iY bG mJ jB mQ lY eJ bY bW aG jG bQ dG jY m_length qG uW eY aJ aB bU dN aR aE bJ aW bT gJ dU bL bR bO mY pW rD m_x jA pY rW oY pR pX rG uM rQ tD uG nU vW) sz) := by
  refine g_enter (own := RX10) (dC, dI) (tyl cI cC cZ cB cJ) (wd_X10_work cI cC cZ cB cJ a_m oJ uD dY iJ lJ jQ jR jW jK pJ bM aY jO gR gY mK jZ iY bG mJ jB mQ lY eJ bY bW aG jG bQ dG jY m_length qG uW eY aJ aB bU dN aR aE bJ aW bT gJ dU bL bR bO mY pW rD m_x jA pY rW oY pR pX rG uM rQ tD uG nU vW) sz [.ref a_m, .int p0] (fun A => q_X10_work dC dI cI cC cZ cB cJ A a_m oJ uD dY iJ lJ jQ jR jW jK pJ bM aY jO gR gY mK jZ iY bG mJ jB mQ lY eJ bY bW aG jG aJ aB bU bT gJ mY pW rD m_x jA pY rW oY pR pX rG rQ post) pn_RX10 rfl (Nat.le_of_ble_eq_true rfl) ?_
  intro p e s m args below meth c A H locs ls C0 hP hD hS hl
  have hl : lv_has ls 3 [(0, .ref a_m), (1, .int p0)] := hl
  obtain ⟨hx, hb, hr, hml, hown, hts, hlocks, hA, hK, hN, tL, tM, hZL, hTL, hZM, hTM, hZX⟩ := id C0
  have hp := hw
  unfold wp_X10_work at hp
  refine lv_aload_n hx hb eX10_work_0.1 rfl (lv_at hl 0 rfl) ?_
  refine lv_iconst (v := 0) hx hb eX10_work_0.2.1 ic_0 ?_
  refine va_put (D := (dC, dI)) (ci := 10) (v := .int 0) (ty := .int) (C := RX10) (T := TX10) (N := 51) hx hb hts i_X10 tyX10 tyX10_ok nmX10 hown hK hP hD hS 0 rfl rfl 14 (Nat.le_of_ble_eq_true rfl) (hts _ q_638) (fun _ h9 => h9) rfl (tyX10_ok 14 (Nat.le_of_ble_eq_true rfl)) rfl rfl (Nat.le_of_ble_eq_true rfl) eX10_work_0.2.2.1 (fun H locs hP hD hS => ?_)
  have hP : va_P (dC, dI) classes (wd_X10_work cI cC cZ cB cJ a_m oJ uD dY iJ lJ jQ jR jW jK pJ bM aY jO gR gY mK jZ iY bG mJ jB mQ lY eJ bY bW aG jG bQ 0 jY m_length qG uW eY aJ aB bU dN aR aE bJ aW bT gJ dU bL bR bO mY pW rD m_x jA pY rW oY pR pX rG uM rQ tD uG nU vW) H := hP
  have hD : va_D A (wd_X10_work cI cC cZ cB cJ a_m oJ uD dY iJ lJ jQ jR jW jK pJ bM aY jO gR gY mK jZ iY bG mJ jB mQ lY eJ bY bW aG jG bQ 0 jY m_length qG uW eY aJ aB bU dN aR aE bJ aW bT gJ dU bL bR bO mY pW rD m_x jA pY rW oY pR pX rG uM rQ tD uG nU vW) := hD
  refine lv_iload_n hx hb eX10_work_0.2.2.2.1 rfl (lv_at hl 1 rfl) ?_
  refine lv_iconst (v := 0) hx hb eX10_work_0.2.2.2.2.1 ic_0 ?_
  refine lv_aload_n hx hb eX10_work_0.2.2.2.2.2.1 rfl (lv_at hl 0 rfl) ?_
  have hm := mgk (wc := (wd_X10_allStandings cI cC cZ cB cJ a_m oJ uD dY iJ lJ jQ jR jW jK pJ bM aY jO gR gY mK jZ iY bG mJ jB mQ lY eJ bY bW aG jG bQ 0 jY m_length qG uW eY aJ aB bU dN aR aE bJ aW bT gJ dU bL bR bO mY pW)) hP mk_267 16 rfl rfl rfl
  refine g_calli hP hD hS hA (mixT mk_267) (mixF mk_267) hm.1 hm.2 (nd_F _) (dis_g _) (g_runV (As := []) (rest := [.int 0, .int p0]) C0 hP hD hS (mixT mk_267) hm.1 (nd_T _) 0 10 rfl rfl (c_X10_allStandings l dC dI cI cC cZ cB cJ a_m oJ uD dY iJ lJ jQ jR jW jK pJ bM aY jO gR gY mK jZ iY bG mJ jB mQ lY eJ bY H.size bW aG jG bQ 0 jY m_length qG uW eY aJ aB bU dN aR aE bJ aW bT gJ dU bL bR bO mY pW _ hp) q_870 q_873 q_871 q_872 q_642 h_X10_allStandings rfl rfl ⟨Nat.le_of_ble_eq_true rfl, Nat.le_of_ble_eq_true rfl⟩ rfl rfl hl.1 rfl (lv_room (Nat.le_of_ble_eq_true rfl)) eX10_work_0.2.2.2.2.2.2.1 ⟨Nat.zero_le _, Nat.zero_le _⟩) (fun r_1 u H locs hp hP hD hS => ?_)
  have hPD := PDm (ws' := (wd_X10_work cI cC cZ cB cJ a_m oJ uD dY iJ lJ jQ jR jW jK pJ bM aY jO gR gY mK jZ iY bG mJ jB mQ lY eJ bY bW aG jG bQ 0 jY m_length qG uW eY aJ aB bU dN aR aE bJ aW bT gJ dU bL bR bO mY pW rD m_x jA pY rW oY pR pX rG uM rQ tD uG nU vW)) hP hD 16 rfl rfl rfl
  have hP := hPD.1
  have hD := hPD.2
  have hm := mgk (wc := (wd_X10_in cI cC cZ cB cJ)) hP mk_268 16 rfl rfl rfl
  refine g_calli hP hD hS hA (mixT mk_268) (mixF mk_268) hm.1 hm.2 (nd_F _) (dis_g _) (g_runS (As := [.int p0, .int 0, .int r_1]) (rest := []) C0 hP hD hS (mixT mk_268) hm.1 (nd_T _) (c_X10_in l dC dI cI cC cZ cB cJ H.size p0 0 r_1 _ hp) q_641 q_644 q_643 q_642 h_X10_in rfl rfl ⟨Nat.le_of_ble_eq_true rfl, Nat.le_of_ble_eq_true rfl⟩ rfl rfl hl.1 rfl (lv_room (Nat.le_of_ble_eq_true rfl)) eX10_work_0.2.2.2.2.2.2.2.1 ⟨Nat.zero_le _, Nat.zero_le _⟩) (fun r_2 u H locs hp hP hD hS => ?_)
  have hPD := PDm (ws' := (wd_X10_work cI cC cZ cB cJ a_m oJ uD dY iJ lJ jQ jR jW jK pJ bM aY jO gR gY mK jZ iY bG mJ jB mQ lY eJ bY bW aG jG bQ 0 jY m_length qG uW eY aJ aB bU dN aR aE bJ aW bT gJ dU bL bR bO mY pW rD m_x jA pY rW oY pR pX rG uM rQ tD uG nU vW)) hP hD 16 rfl rfl rfl
  have hP := hPD.1
  have hD := hPD.2
  refine lv_if_ne (tgt := 19) hx hb eX10_work_0.2.2.2.2.2.2.2.2.1 (by decide) (fun hc => ?_) (fun hc => ?_)
  · have hp := hp.1 hc
    refine lv_aload_n hx hb eX10_work_18.2.1 rfl (lv_at hl 0 rfl) ?_
    have hm := mgk (wc := (wd_X10_layHands cI cC cZ cB cJ a_m oJ uD dY iJ lJ jQ jR jW jK pJ bM aY jO gR gY mK jZ iY bG mJ jB mQ lY eJ bY bW aG jG bQ 0 jY m_length qG uW eY aJ aB bU dN aR aE bJ aW bT gJ dU bL bR bO mY pW rD m_x jA rW oY pR pX tD)) hP mk_269 16 rfl rfl rfl
    refine g_callv hP hD hS hA (mixT mk_269) (mixF mk_269) hm.1 hm.2 (nd_F _) (dis_g _) (g_runV (As := []) (rest := []) C0 hP hD hS (mixT mk_269) hm.1 (nd_T _) 0 10 rfl rfl (c_X10_layHands l dC dI cI cC cZ cB cJ a_m oJ uD dY iJ lJ jQ jR jW jK pJ bM aY jO gR gY mK jZ iY bG mJ jB mQ lY eJ bY H.size bW aG jG bQ 0 jY m_length qG uW eY aJ aB bU dN aR aE bJ aW bT gJ dU bL bR bO mY pW rD m_x jA rW oY pR pX tD _ hp) q_883 q_886 q_884 q_885 q_642 h_X10_layHands rfl rfl ⟨Nat.le_of_ble_eq_true rfl, Nat.le_of_ble_eq_true rfl⟩ rfl rfl hl.1 rfl (lv_room (Nat.le_of_ble_eq_true rfl)) eX10_work_18.2.2.1 ⟨Nat.zero_le _, Nat.zero_le _⟩) (fun u H locs hp hP hD hS => ?_)
    obtain ⟨xT, yQ⟩ := u
    have hPD := PDm (ws' := (wd_X10_work cI cC cZ cB cJ a_m oJ uD dY iJ lJ jQ jR jW jK pJ bM aY jO gR gY mK jZ iY bG mJ jB mQ lY eJ bY bW aG jG bQ 0 jY m_length qG uW eY aJ aB bU dN aR aE bJ aW bT gJ xT bL bR bO mY pW rD m_x jA pY rW oY pR pX rG uM rQ yQ uG nU vW)) hP hD 16 rfl rfl rfl
    have hP := hPD.1
    have hD := hPD.2
    refine lv_aload_n hx hb eX10_work_18.2.2.2.1 rfl (lv_at hl 0 rfl) ?_
    have hm := mgk (wc := (wd_X10_layMoves cI cC cZ cB cJ a_m oJ uD dY iJ lJ jQ jR jW jK pJ bM aY jO gR gY mK jZ iY bG mJ jB mQ lY eJ bY bW aG jG bQ 0 jY m_length qG uW eY aJ aB bU dN aR aE bJ aW bT gJ xT bL bR bO mY pW oY pX uG)) hP mk_270 16 rfl rfl rfl
    refine g_callv hP hD hS hA (mixT mk_270) (mixF mk_270) hm.1 hm.2 (nd_F _) (dis_g _) (g_runV (As := []) (rest := []) C0 hP hD hS (mixT mk_270) hm.1 (nd_T _) 0 10 rfl rfl (c_X10_layMoves l dC dI cI cC cZ cB cJ a_m oJ uD dY iJ lJ jQ jR jW jK pJ bM aY jO gR gY mK jZ iY bG mJ jB mQ lY eJ bY H.size bW aG jG bQ 0 jY m_length qG uW eY aJ aB bU dN aR aE bJ aW bT gJ xT bL bR bO mY pW oY pX uG _ hp) q_916 q_919 q_917 q_918 q_642 h_X10_layMoves rfl rfl ⟨Nat.le_of_ble_eq_true rfl, Nat.le_of_ble_eq_true rfl⟩ rfl rfl hl.1 rfl (lv_room (Nat.le_of_ble_eq_true rfl)) eX10_work_18.2.2.2.2.1 ⟨Nat.zero_le _, Nat.zero_le _⟩) (fun u H locs hp hP hD hS => ?_)
    obtain ⟨aDq, rfl⟩ : ∃ z, z = u := ⟨_, rfl⟩
    have hPD := PDm (ws' := (wd_X10_work cI cC cZ cB cJ a_m oJ uD dY iJ lJ jQ jR jW jK pJ bM aY jO gR gY mK jZ iY bG mJ jB mQ lY eJ bY bW aG jG bQ 0 jY m_length qG uW eY aJ aB bU dN aR aE bJ aW bT gJ xT bL bR bO mY pW rD m_x jA pY rW oY pR pX rG uM rQ yQ aDq nU vW)) hP hD 16 rfl rfl rfl
    have hP := hPD.1
    have hD := hPD.2
    refine lv_aload_n hx hb eX10_work_18.2.2.2.2.2.1 rfl (lv_at hl 0 rfl) ?_
    have hm := mgk (wc := (wd_X10_laySeconds cI cC cZ cB cJ a_m oJ uD dY iJ lJ jQ jR jW jK pJ bM aY jO gR gY mK jZ iY bG mJ jB mQ lY eJ bY bW aG jG bQ 0 jY m_length qG uW eY aJ aB bU dN aR aE bJ aW bT gJ xT bL bR bO mY pW m_x jA pY oY pR rG rQ nU)) hP mk_271 16 rfl rfl rfl
    refine g_callv hP hD hS hA (mixT mk_271) (mixF mk_271) hm.1 hm.2 (nd_F _) (dis_g _) (g_runV (As := []) (rest := []) C0 hP hD hS (mixT mk_271) hm.1 (nd_T _) 0 10 rfl rfl (c_X10_laySeconds l dC dI cI cC cZ cB cJ a_m oJ uD dY iJ lJ jQ jR jW jK pJ bM aY jO gR gY mK jZ iY bG mJ jB mQ lY eJ bY H.size bW aG jG bQ 0 jY m_length qG uW eY aJ aB bU dN aR aE bJ aW bT gJ xT bL bR bO mY pW m_x jA pY oY pR rG rQ nU _ hp) q_933 q_936 q_934 q_935 q_642 h_X10_laySeconds rfl rfl ⟨Nat.le_of_ble_eq_true rfl, Nat.le_of_ble_eq_true rfl⟩ rfl rfl hl.1 rfl (lv_room (Nat.le_of_ble_eq_true rfl)) eX10_work_18.2.2.2.2.2.2.1 ⟨Nat.zero_le _, Nat.zero_le _⟩) (fun u H locs hp hP hD hS => ?_)
    obtain ⟨aBl, aAu, aCb, aAb, yJ, zV, yS, yK, zD, yW, aAv⟩ := u
    have hPD := PDm (ws' := (wd_X10_work cI cC cZ cB cJ a_m oJ uD dY iJ lJ jQ jR jW jK pJ bM aY jO gR gY mK jZ iY bG mJ jB mQ lY eJ bY bW aG jG bQ 0 aBl aAu aCb aAb yJ aJ aB bU zV yS yK zD yW bT gJ xT bL bR bO mY pW rD m_x jA pY rW oY pR pX rG uM rQ yQ aDq aAv vW)) hP hD 16 rfl rfl rfl
    have hP := hPD.1
    have hD := hPD.2
    refine lv_aload_n hx hb eX10_work_18.2.2.2.2.2.2.2.1 rfl (lv_at hl 0 rfl) ?_
    refine lv_iload_n hx hb eX10_work_18.2.2.2.2.2.2.2.2.1 rfl (lv_at hl 1 rfl) ?_
    have hm := mgk (wc := (wd_X10_workOf cI cC cZ cB cJ a_m oJ uD dY iJ lJ jQ jR jW jK pJ bM aY jO gR gY mK jZ iY bG mJ jB mQ lY eJ bY bW aG jG bQ 0 aBl aAu aCb aAb yJ aJ aB bU zV yS yK zD yW bT gJ xT bL bR bO mY pW rD pR pX yQ aDq aAv vW)) hP mk_272 16 rfl rfl rfl
    refine g_calli hP hD hS hA (mixT mk_272) (mixF mk_272) hm.1 hm.2 (nd_F _) (dis_g _) (g_runV (As := [.int p0]) (rest := []) C0 hP hD hS (mixT mk_272) hm.1 (nd_T _) 0 10 rfl rfl (c_X10_workOf l dC dI cI cC cZ cB cJ a_m oJ uD dY iJ lJ jQ jR jW jK pJ bM aY jO gR gY mK jZ iY bG mJ jB mQ lY eJ bY H.size p0 bW aG jG bQ 0 aBl aAu aCb aAb yJ aJ aB bU zV yS yK zD yW bT gJ xT bL bR bO mY pW rD pR pX yQ aDq aAv vW _ hp) q_937 q_940 q_938 q_939 q_642 h_X10_workOf rfl rfl ⟨Nat.le_of_ble_eq_true rfl, Nat.le_of_ble_eq_true rfl⟩ rfl rfl hl.1 rfl (lv_room (Nat.le_of_ble_eq_true rfl)) eX10_work_18.2.2.2.2.2.2.2.2.2.1 ⟨Nat.zero_le _, Nat.zero_le _⟩) (fun r_17 u H locs hp hP hD hS => ?_)
    obtain ⟨aAc, aAd, aAe, aLj⟩ := u
    have hPD := PDm (ws' := (wd_X10_work cI cC cZ cB cJ a_m oJ uD dY iJ lJ jQ jR jW jK pJ bM aY jO gR gY mK jZ iY bG mJ jB mQ lY eJ bY bW aG jG bQ 0 aBl aAu aCb aAb yJ aJ aB bU zV yS yK zD yW bT gJ xT aAc aAd aAe mY pW rD m_x jA pY rW oY pR pX rG uM rQ yQ aDq aAv aLj)) hP hD 16 rfl rfl rfl
    have hP := hPD.1
    have hD := hPD.2
    refine lv_istore_n (lv' := [(2, .int r_17), (0, .ref a_m), (1, .int p0)]) hx hb eX10_work_18.2.2.2.2.2.2.2.2.2.2.1 rfl hl (by decide) rfl (fun ls hl => ?_)
    refine lv_aload_n hx hb eX10_work_18.2.2.2.2.2.2.2.2.2.2.2.1 rfl (lv_at hl 1 rfl) ?_
    refine lv_iconst (v := 0) hx hb eX10_work_18.2.2.2.2.2.2.2.2.2.2.2.2.1 ic_0 ?_
    refine va_put (D := (dC, dI)) (ci := 10) (v := .int 0) (ty := .int) (C := RX10) (T := TX10) (N := 51) hx hb hts i_X10 tyX10 tyX10_ok nmX10 hown hK hP hD hS 0 rfl rfl 13 (Nat.le_of_ble_eq_true rfl) (hts _ q_847) (fun _ h9 => h9) rfl (tyX10_ok 13 (Nat.le_of_ble_eq_true rfl)) rfl rfl (Nat.le_of_ble_eq_true rfl) eX10_work_18.2.2.2.2.2.2.2.2.2.2.2.2.2.1 (fun H locs hP hD hS => ?_)
    have hP : va_P (dC, dI) classes (wd_X10_work cI cC cZ cB cJ a_m oJ uD dY iJ lJ jQ jR jW jK pJ bM aY jO gR gY mK jZ iY bG mJ jB mQ lY eJ bY bW aG jG 0 0 aBl aAu aCb aAb yJ aJ aB bU zV yS yK zD yW bT gJ xT aAc aAd aAe mY pW rD m_x jA pY rW oY pR pX rG uM rQ yQ aDq aAv aLj) H := hP
    have hD : va_D A (wd_X10_work cI cC cZ cB cJ a_m oJ uD dY iJ lJ jQ jR jW jK pJ bM aY jO gR gY mK jZ iY bG mJ jB mQ lY eJ bY bW aG jG 0 0 aBl aAu aCb aAb yJ aJ aB bU zV yS yK zD yW bT gJ xT aAc aAd aAe mY pW rD m_x jA pY rW oY pR pX rG uM rQ yQ aDq aAv aLj) := hD
    refine lv_aload_n hx hb eX10_work_18.2.2.2.2.2.2.2.2.2.2.2.2.2.2.1 rfl (lv_at hl 1 rfl) ?_
    refine lv_aload_n hx hb eX10_work_18.2.2.2.2.2.2.2.2.2.2.2.2.2.2.2 rfl (lv_at hl 1 rfl) ?_
    refine va_get (D := (dC, dI)) (ci := 10) (v := .int aAc) (C := RX10) (T := TX10) (N := 51) hx hb hts i_X10 hown hK hP 0 rfl rfl 40 (Nat.le_of_ble_eq_true rfl) (hts _ q_929) (fun _ h9 => h9) rfl eX10_work_44.1 ?_
    have hm := mgk (wc := (wd_X10_tell cI cC cZ cB cJ a_m oJ uD dY iJ lJ jQ jR jW jK pJ bM aY jO gR gY mK jZ iY bG mJ jB mQ lY eJ bY bW aG jG 0 0 aBl aAu aCb aAb yJ aJ aB bU zV yS yK zD yW bT gJ xT aAc aAd aAe mY pW uM)) hP aGo 16 rfl rfl rfl
    refine g_callv hP hD hS hA (mixT aGo) (mixF aGo) hm.1 hm.2 (nd_F _) (dis_g _) (g_runV (As := [.int aAc]) (rest := []) C0 hP hD hS (mixT aGo) hm.1 (nd_T _) 0 10 rfl rfl (c_X10_tell l dC dI cI cC cZ cB cJ a_m oJ uD dY iJ lJ jQ jR jW jK pJ bM aY jO gR gY mK jZ iY bG mJ jB mQ lY eJ bY H.size aAc bW aG jG 0 0 aBl aAu aCb aAb yJ aJ aB bU zV yS yK zD yW bT gJ xT aAc aAd aAe mY pW uM _ hp) q_849 q_852 q_850 q_851 q_642 h_X10_tell rfl rfl ⟨Nat.le_of_ble_eq_true rfl, Nat.le_of_ble_eq_true rfl⟩ rfl rfl hl.1 rfl (lv_room (Nat.le_of_ble_eq_true rfl)) eX10_work_44.2.1 ⟨Nat.zero_le _, Nat.zero_le _⟩) (fun u H locs hp hP hD hS => ?_)
    obtain ⟨m_rowMany_22, m_row_23⟩ := u
    have hPD := PDm (ws' := (wd_X10_work cI cC cZ cB cJ a_m oJ uD dY iJ lJ jQ jR jW jK pJ bM aY jO gR gY mK jZ iY bG mJ jB mQ lY eJ bY bW aG jG m_rowMany_22 0 aBl aAu aCb aAb yJ aJ aB bU zV yS yK zD yW bT gJ xT aAc aAd aAe mY pW rD m_x jA pY rW oY pR pX rG m_row_23 rQ yQ aDq aAv aLj)) hP hD 16 rfl rfl rfl
    have hP := hPD.1
    have hD := hPD.2
    refine lv_aload_n hx hb eX10_work_44.2.2.1 rfl (lv_at hl 1 rfl) ?_
    refine lv_aload_n hx hb eX10_work_44.2.2.2.1 rfl (lv_at hl 1 rfl) ?_
    refine va_get (D := (dC, dI)) (ci := 10) (v := .int aAd) (C := RX10) (T := TX10) (N := 51) hx hb hts i_X10 hown hK hP 0 rfl rfl 41 (Nat.le_of_ble_eq_true rfl) (hts _ q_930) (fun _ h9 => h9) rfl eX10_work_44.2.2.2.2.1 ?_
    have hm := mgk (wc := (wd_X10_tell cI cC cZ cB cJ a_m oJ uD dY iJ lJ jQ jR jW jK pJ bM aY jO gR gY mK jZ iY bG mJ jB mQ lY eJ bY bW aG jG m_rowMany_22 0 aBl aAu aCb aAb yJ aJ aB bU zV yS yK zD yW bT gJ xT aAc aAd aAe mY pW m_row_23)) hP aGo 16 rfl rfl rfl
    refine g_callv hP hD hS hA (mixT aGo) (mixF aGo) hm.1 hm.2 (nd_F _) (dis_g _) (g_runV (As := [.int aAd]) (rest := []) C0 hP hD hS (mixT aGo) hm.1 (nd_T _) 0 10 rfl rfl (c_X10_tell l dC dI cI cC cZ cB cJ a_m oJ uD dY iJ lJ jQ jR jW jK pJ bM aY jO gR gY mK jZ iY bG mJ jB mQ lY eJ bY H.size aAd bW aG jG m_rowMany_22 0 aBl aAu aCb aAb yJ aJ aB bU zV yS yK zD yW bT gJ xT aAc aAd aAe mY pW m_row_23 _ hp) q_849 q_852 q_850 q_851 q_642 h_X10_tell rfl rfl ⟨Nat.le_of_ble_eq_true rfl, Nat.le_of_ble_eq_true rfl⟩ rfl rfl hl.1 rfl (lv_room (Nat.le_of_ble_eq_true rfl)) eX10_work_44.2.2.2.2.2.1 ⟨Nat.zero_le _, Nat.zero_le _⟩) (fun u H locs hp hP hD hS => ?_)
    obtain ⟨m_rowMany_24, m_row_25⟩ := u
    have hPD := PDm (ws' := (wd_X10_work cI cC cZ cB cJ a_m oJ uD dY iJ lJ jQ jR jW jK pJ bM aY jO gR gY mK jZ iY bG mJ jB mQ lY eJ bY bW aG jG m_rowMany_24 0 aBl aAu aCb aAb yJ aJ aB bU zV yS yK zD yW bT gJ xT aAc aAd aAe mY pW rD m_x jA pY rW oY pR pX rG m_row_25 rQ yQ aDq aAv aLj)) hP hD 16 rfl rfl rfl
    have hP := hPD.1
    have hD := hPD.2
    refine lv_aload_n hx hb eX10_work_44.2.2.2.2.2.2.1 rfl (lv_at hl 1 rfl) ?_
    refine lv_aload_n hx hb eX10_work_44.2.2.2.2.2.2.2.1 rfl (lv_at hl 1 rfl) ?_
    refine va_get (D := (dC, dI)) (ci := 10) (v := .int aAe) (C := RX10) (T := TX10) (N := 51) hx hb hts i_X10 hown hK hP 0 rfl rfl 42 (Nat.le_of_ble_eq_true rfl) (hts _ q_931) (fun _ h9 => h9) rfl eX10_work_44.2.2.2.2.2.2.2.2.1 ?_
    have hm := mgk (wc := (wd_X10_tell cI cC cZ cB cJ a_m oJ uD dY iJ lJ jQ jR jW jK pJ bM aY jO gR gY mK jZ iY bG mJ jB mQ lY eJ bY bW aG jG m_rowMany_24 0 aBl aAu aCb aAb yJ aJ aB bU zV yS yK zD yW bT gJ xT aAc aAd aAe mY pW m_row_25)) hP aGo 16 rfl rfl rfl
    refine g_callv hP hD hS hA (mixT aGo) (mixF aGo) hm.1 hm.2 (nd_F _) (dis_g _) (g_runV (As := [.int aAe]) (rest := []) C0 hP hD hS (mixT aGo) hm.1 (nd_T _) 0 10 rfl rfl (c_X10_tell l dC dI cI cC cZ cB cJ a_m oJ uD dY iJ lJ jQ jR jW jK pJ bM aY jO gR gY mK jZ iY bG mJ jB mQ lY eJ bY H.size aAe bW aG jG m_rowMany_24 0 aBl aAu aCb aAb yJ aJ aB bU zV yS yK zD yW bT gJ xT aAc aAd aAe mY pW m_row_25 _ hp) q_849 q_852 q_850 q_851 q_642 h_X10_tell rfl rfl ⟨Nat.le_of_ble_eq_true rfl, Nat.le_of_ble_eq_true rfl⟩ rfl rfl hl.1 rfl (lv_room (Nat.le_of_ble_eq_true rfl)) eX10_work_44.2.2.2.2.2.2.2.2.2.1 ⟨Nat.zero_le _, Nat.zero_le _⟩) (fun u H locs hp hP hD hS => ?_)
    obtain ⟨m_rowMany_26, m_row_27⟩ := u
    have hPD := PDm (ws' := (wd_X10_work cI cC cZ cB cJ a_m oJ uD dY iJ lJ jQ jR jW jK pJ bM aY jO gR gY mK jZ iY bG mJ jB mQ lY eJ bY bW aG jG m_rowMany_26 0 aBl aAu aCb aAb yJ aJ aB bU zV yS yK zD yW bT gJ xT aAc aAd aAe mY pW rD m_x jA pY rW oY pR pX rG m_row_27 rQ yQ aDq aAv aLj)) hP hD 16 rfl rfl rfl
    have hP := hPD.1
    have hD := hPD.2
    refine lv_iload_n hx hb eX10_work_44.2.2.2.2.2.2.2.2.2.2.1 rfl (lv_at hl 0 rfl) ?_
    exact W.iret (v := r_17) hx hb hr (fun t ht hW => ⟨⟨r_17, (m_rowMany_26, 0, aBl, aAu, aCb, aAb, yJ, zV, yS, yK, zD, yW, xT, aAc, aAd, aAe, m_row_27, yQ, aDq, aAv, aLj), rfl, hp, by rw [ht]; exact hP, va_K.moved hW.alike hK, hD⟩, hS.F ht⟩) hS.2.2 eX10_work_44.2.2.2.2.2.2.2.2.2.2.2
  · have hp := hp.2 hc
    refine lv_iconst (v := (-1)) hx hb eX10_work_0.2.2.2.2.2.2.2.2.2 ic_m1 ?_
    exact W.iret (v := (-1)) hx hb hr (fun t ht hW => ⟨⟨(-1), (bQ, 0, jY, m_length, qG, uW, eY, dN, aR, aE, bJ, aW, dU, bL, bR, bO, uM, tD, uG, nU, vW), rfl, hp, by rw [ht]; exact hP, va_K.moved hW.alike hK, hD⟩, hS.F ht⟩) hS.2.2 eX10_work_18.1
noncomputable abbrev wd_X10_soonest (cI cC cZ cB cJ : ClassId) (a_m oJ uD dY iJ lJ jQ jR jW jK pJ bM aY jO gR gY mK jZ iY bG mJ jB mQ lY eJ bY : Nat) (bW aG jG bQ dG : Int32) (jY : Nat) (m_length qG uW eY aJ aB bU dN aR aE bJ aW bT gJ dU bL bR bO mY pW : Int32) (rD m_x jA pY rW oY pR pX rG uM rQ tD uG nU vW : Nat → Int32) : va_W := [(a_m, .inr (10, [.ref oJ, .int bW, .ref uD, .ref dY, .ref iJ, .ref lJ, .int aG, .ref jQ, .ref jR, .ref jW, .ref jK, .int jG, .ref pJ, .int bQ, .int dG, rdv jK jO jY, .int m_length, .int qG, .int uW, .int eY, .ref bM, .ref aY, .int aJ, .int aB, .ref jO, .int bU, .int dN, .int aR, .int aE, .int bJ, .int aW, .ref gR, .int bT, .ref gY, .ref mK, .int gJ, .ref jZ, .int dU, .ref iY, .ref bG, .int bL, .int bR, .int bO, .ref mJ, .ref jB, .ref mQ, .int mY, .int pW, .ref lY, .ref eJ, .ref bY])), (oJ, .inl (cI, 21, .inl rD)), (uD, .inl (cI, 16, .inl m_x)), (dY, .inl (cI, 16, .inl jA)), (iJ, .inl (cI, 16, .inl pY)), (lJ, .inl (cI, 16, .inl rW)), (jQ, .inl (cI, 8, .inl oY)), (jR, .inl (cI, 8, .inl pR)), (jW, .inl (cI, 5, .inl pX)), (jK, .inl (cB, 80, .inl rG)), (pJ, .inl (cI, 32, .inl uM)), (jO, .inl (cB, 40, .inl rQ)), (jZ, .inl (cI, 8, .inl tD)), (iY, .inl (cI, 2304, .inl uG)), (bG, .inl (cI, 128, .inl nU)), (mJ, .inl (cI, 8, .inl vW))]
noncomputable abbrev q_X10_soonest (dC : Nat → ClassId) (dI : Nat → Nat → Nat) (cI cC cZ cB cJ : ClassId) (A : Nat → Prop) (a_m oJ uD dY iJ lJ jQ jR jW jK pJ bM aY jO gR gY mK jZ iY bG mJ jB mQ lY eJ bY : Nat) (bW aG jG aJ aB bU bT gJ mY pW : Int32) (rD m_x jA pY rW oY pR pX rG rQ : Nat → Int32) (post : Int32 → Int32 → Int32 → Nat → Int32 → Int32 → Int32 → Int32 → Int32 → Int32 → Int32 → Int32 → Int32 → Int32 → Int32 → Int32 → Int32 → (Nat → Int32) → (Nat → Int32) → (Nat → Int32) → (Nat → Int32) → (Nat → Int32) → Prop) : Array Value → State → Outcome → State → Prop := va_Qi (fun (r : Int32) (u : Int32 × Int32 × Nat × Int32 × Int32 × Int32 × Int32 × Int32 × Int32 × Int32 × Int32 × Int32 × Int32 × Int32 × Int32 × Int32 × (Nat → Int32) × (Nat → Int32) × (Nat → Int32) × (Nat → Int32) × (Nat → Int32)) => post r u.1 u.2.1 u.2.2.1 u.2.2.2.1 u.2.2.2.2.1 u.2.2.2.2.2.1 u.2.2.2.2.2.2.1 u.2.2.2.2.2.2.2.1 u.2.2.2.2.2.2.2.2.1 u.2.2.2.2.2.2.2.2.2.1 u.2.2.2.2.2.2.2.2.2.2.1 u.2.2.2.2.2.2.2.2.2.2.2.1 u.2.2.2.2.2.2.2.2.2.2.2.2.1 u.2.2.2.2.2.2.2.2.2.2.2.2.2.1 u.2.2.2.2.2.2.2.2.2.2.2.2.2.2.1 u.2.2.2.2.2.2.2.2.2.2.2.2.2.2.2.1 u.2.2.2.2.2.2.2.2.2.2.2.2.2.2.2.2.1 u.2.2.2.2.2.2.2.2.2.2.2.2.2.2.2.2.2.1 u.2.2.2.2.2.2.2.2.2.2.2.2.2.2.2.2.2.2.1 u.2.2.2.2.2.2.2.2.2.2.2.2.2.2.2.2.2.2.2.1 u.2.2.2.2.2.2.2.2.2.2.2.2.2.2.2.2.2.2.2.2) (fun u t => gB (dC, dI) (tyl cI cC cZ cB cJ) A (wd_X10_soonest cI cC cZ cB cJ a_m oJ uD dY iJ lJ jQ jR jW jK pJ bM aY jO gR gY mK jZ iY bG mJ jB mQ lY eJ bY bW aG jG u.1 u.2.1 u.2.2.1 u.2.2.2.1 u.2.2.2.2.1 u.2.2.2.2.2.1 u.2.2.2.2.2.2.1 aJ aB bU u.2.2.2.2.2.2.2.1 u.2.2.2.2.2.2.2.2.1 u.2.2.2.2.2.2.2.2.2.1 u.2.2.2.2.2.2.2.2.2.2.1 u.2.2.2.2.2.2.2.2.2.2.2.1 bT gJ u.2.2.2.2.2.2.2.2.2.2.2.2.1 u.2.2.2.2.2.2.2.2.2.2.2.2.2.1 u.2.2.2.2.2.2.2.2.2.2.2.2.2.2.1 u.2.2.2.2.2.2.2.2.2.2.2.2.2.2.2.1 mY pW rD m_x jA pY rW oY pR pX rG u.2.2.2.2.2.2.2.2.2.2.2.2.2.2.2.2.1 rQ u.2.2.2.2.2.2.2.2.2.2.2.2.2.2.2.2.2.1 u.2.2.2.2.2.2.2.2.2.2.2.2.2.2.2.2.2.2.1 u.2.2.2.2.2.2.2.2.2.2.2.2.2.2.2.2.2.2.2.1 u.2.2.2.2.2.2.2.2.2.2.2.2.2.2.2.2.2.2.2.2) t) A
noncomputable abbrev rm_X10_soonest : Room := { frames := 267, cells := 0, slots := 0, locals := 8804 }
section S_X10_soonest
variable {p : Program} {l : Launch} {e : Env} {s : State} {m : MethodId} {args : Array Value} {below : List Frame} {meth : Method} {c : Code} {dC : Nat → ClassId} {dI : Nat → Nat → Nat} {cI cC cZ cB cJ : ClassId} {A : Nat → Prop} {a_m oJ uD dY iJ lJ jQ jR jW jK pJ bM aY jO gR gY mK jZ iY bG mJ jB mQ lY eJ bY : Nat} {bW aG jG aJ aB bU bT gJ mY pW : Int32} {rD m_x jA pY rW oY pR pX rG rQ : Nat → Int32} {post : Int32 → Int32 → Int32 → Nat → Int32 → Int32 → Int32 → Int32 → Int32 → Int32 → Int32 → Int32 → Int32 → Int32 → Int32 → Int32 → Int32 → (Nat → Int32) → (Nat → Int32) → (Nat → Int32) → (Nat → Int32) → (Nat → Int32) → Prop}
noncomputable def ws_X10_soonest_89 (post : Int32 → Int32 → Int32 → Nat → Int32 → Int32 → Int32 → Int32 → Int32 → Int32 → Int32 → Int32 → Int32 → Int32 → Int32 → Int32 → Int32 → (Nat → Int32) → (Nat → Int32) → (Nat → Int32) → (Nat → Int32) → (Nat → Int32) → Prop) (K25 : Int32 → Int32 → Int32 → Int32 → Int32 → Nat → Int32 → Int32 → Int32 → Int32 → Int32 → Int32 → Int32 → Int32 → Int32 → Int32 → Int32 → Int32 → Int32 → (Nat → Int32) → (Nat → Int32) → (Nat → Int32) → (Nat → Int32) → (Nat → Int32) → Prop) (bW aG bU : Int32) (rD m_x jA pY rW oY pR pX rG rQ : Nat → Int32) (x1 x2 x3 bQ dG : Int32) (jY : Nat) (m_length qG uW eY dN aR aE bJ aW dU bL bR bO : Int32) (uM tD uG nU vW : Nat → Int32) : Prop := ∀ v_24 : Int32, v_24 = x3 + 1 → K25 x1 x2 v_24 bQ dG jY m_length qG uW eY dN aR aE bJ aW dU bL bR bO uM tD uG nU vW
set_option maxHeartbeats 4000000 in
set_option maxRecDepth 100000 in
theorem ks_X10_soonest_89 (C0 : gc cX10_soonest (some .int) 5 RX10 (dC, dI) (tyl cI cC cZ cB cJ) A p s m args meth c) {K25 : Int32 → Int32 → Int32 → Int32 → Int32 → Nat → Int32 → Int32 → Int32 → Int32 → Int32 → Int32 → Int32 → Int32 → Int32 → Int32 → Int32 → Int32 → Int32 → (Nat → Int32) → (Nat → Int32) → (Nat → Int32) → (Nat → Int32) → (Nat → Int32) → Prop} (hK25 : ∀ (x1 : Int32) (x2 : Int32) (x3 : Int32) (bQ : Int32) (dG : Int32) (jY : Nat) (m_length : Int32) (qG : Int32) (uW : Int32) (eY : Int32) (dN : Int32) (aR : Int32) (aE : Int32) (bJ : Int32) (aW : Int32) (dU : Int32) (bL : Int32) (bR : Int32) (bO : Int32) (uM : Nat → Int32) (tD : Nat → Int32) (uG : Nat → Int32) (nU : Nat → Int32) (vW : Nat → Int32) (H : Heap) (locs : List Loc) (ls : Array Slot), K25 x1 x2 x3 bQ dG jY m_length qG uW eY dN aR aE bJ aW dU bL bR bO uM tD uG nU vW → va_P (dC, dI) classes (wd_X10_soonest cI cC cZ cB cJ a_m oJ uD dY iJ lJ jQ jR jW jK pJ bM aY jO gR gY mK jZ iY bG mJ jB mQ lY eJ bY bW aG jG bQ dG jY m_length qG uW eY aJ aB bU dN aR aE bJ aW bT gJ dU bL bR bO mY pW rD m_x jA pY rW oY pR pX rG uM rQ tD uG nU vW) H → va_D A (wd_X10_soonest cI cC cZ cB cJ a_m oJ uD dY iJ lJ jQ jR jW jK pJ bM aY jO gR gY mK jZ iY bG mJ jB mQ lY eJ bY bW aG jG bQ dG jY m_length qG uW eY aJ aB bU dN aR aE bJ aW bT gJ dU bL bR bO mY pW rD m_x jA pY rW oY pR pX rG uM rQ tD uG nU vW) → va_S A s.heap H locs → lv_has ls 5 [(0, .ref a_m), (1, .int x1), (2, .int x2), (3, .int x3)] → W p l e rm_X10_soonest s m args below meth c H locs 0 0 (MQ below (q_X10_soonest dC dI cI cC cZ cB cJ A a_m oJ uD dY iJ lJ jQ jR jW jK pJ bM aY jO gR gY mK jZ iY bG mJ jB mQ lY eJ bY bW aG jG aJ aB bU bT gJ mY pW rD m_x jA pY rW oY pR pX rG rQ post) args s 0 0 A) (F0 m 25 ls [])) : ∀ (x1 x2 x3 bQ dG : Int32) (jY : Nat) (m_length qG uW eY dN aR aE bJ aW dU bL bR bO : Int32) (uM tD uG nU vW : Nat → Int32) (H : Heap) (locs : List Loc) (ls : Array Slot), (ws_X10_soonest_89 post K25 bW aG bU rD m_x jA pY rW oY pR pX rG rQ) x1 x2 x3 bQ dG jY m_length qG uW eY dN aR aE bJ aW dU bL bR bO uM tD uG nU vW → va_P (dC, dI) classes (wd_X10_soonest cI cC cZ cB cJ a_m oJ uD dY iJ lJ jQ jR jW jK pJ bM aY jO gR gY mK jZ iY bG mJ jB mQ lY eJ bY bW aG jG bQ dG jY m_length qG uW eY aJ aB bU dN aR aE bJ aW bT gJ dU bL bR bO mY pW rD m_x jA pY rW oY pR pX rG uM rQ tD uG nU vW) H → va_D A (wd_X10_soonest cI cC cZ cB cJ a_m oJ uD dY iJ lJ jQ jR jW jK pJ bM aY jO gR gY mK jZ iY bG mJ jB mQ lY eJ bY bW aG jG bQ dG jY m_length qG uW eY aJ aB bU dN aR aE bJ aW bT gJ dU bL bR bO mY pW rD m_x jA pY rW oY pR pX rG uM rQ tD uG nU vW) → va_S A s.heap H locs → lv_has ls 5 [(0, .ref a_m), (1, .int x1), (2, .int x2), (3, .int x3)] → W p l e rm_X10_soonest s m args below meth c H locs 0 0 (MQ below (q_X10_soonest dC dI cI cC cZ cB cJ A a_m oJ uD dY iJ lJ jQ jR jW jK pJ bM aY jO gR gY mK jZ iY bG mJ jB mQ lY eJ bY bW aG jG aJ aB bU bT gJ mY pW rD m_x jA pY rW oY pR pX rG rQ post) args s 0 0 A) (F0 m 89 ls []) := by
  obtain ⟨hx, hb, hr, hml, hown, hts, hlocks, hA, hK, hN, tL, tM, hZL, hTL, hZM, hTM, hZX⟩ := id C0
  intro x1 x2 x3 bQ dG jY m_length qG uW eY dN aR aE bJ aW dU bL bR bO uM tD uG nU vW H locs ls hp hP hD hS hl
  unfold ws_X10_soonest_89 at hp
  obtain ⟨v_24, ev_24⟩ : ∃ y : Int32, y = x3 + 1 := ⟨_, rfl⟩
  refine lv_iinc (v := v_24) (lv' := [(3, .int v_24), (0, .ref a_m), (1, .int x1), (2, .int x2)]) hx hb eX10_soonest_88.2.1 hl (k := 3) rfl (by rw [ev_24]; rfl) (by decide) rfl (fun ls hl => ?_)
  have hp := hp v_24 ev_24
  refine lv_goto (tgt := 25) hx hb eX10_soonest_88.2.2.1 (by decide) ?_
  exact hK25 x1 x2 v_24 bQ dG jY m_length qG uW eY dN aR aE bJ aW dU bL bR bO uM tD uG nU vW H locs ls hp hP hD hS (lv_sub hl [1, 2, 3, 0] rfl)
noncomputable def ws_X10_soonest_84 (post : Int32 → Int32 → Int32 → Nat → Int32 → Int32 → Int32 → Int32 → Int32 → Int32 → Int32 → Int32 → Int32 → Int32 → Int32 → Int32 → Int32 → (Nat → Int32) → (Nat → Int32) → (Nat → Int32) → (Nat → Int32) → (Nat → Int32) → Prop) (K25 : Int32 → Int32 → Int32 → Int32 → Int32 → Nat → Int32 → Int32 → Int32 → Int32 → Int32 → Int32 → Int32 → Int32 → Int32 → Int32 → Int32 → Int32 → Int32 → (Nat → Int32) → (Nat → Int32) → (Nat → Int32) → (Nat → Int32) → (Nat → Int32) → Prop) (bW aG bU : Int32) (rD m_x jA pY rW oY pR pX rG rQ : Nat → Int32) (x3 x4 bQ dG : Int32) (jY : Nat) (m_length qG uW eY dN aR aE bJ aW dU bL bR bO : Int32) (uM tD uG nU vW : Nat → Int32) : Prop := ws_X10_soonest_89 post K25 bW aG bU rD m_x jA pY rW oY pR pX rG rQ x3 x4 x3 bQ dG jY m_length qG uW eY dN aR aE bJ aW dU bL bR bO uM tD uG nU vW
set_option maxHeartbeats 4000000 in
set_option maxRecDepth 100000 in
theorem ks_X10_soonest_84 (C0 : gc cX10_soonest (some .int) 5 RX10 (dC, dI) (tyl cI cC cZ cB cJ) A p s m args meth c) {K25 : Int32 → Int32 → Int32 → Int32 → Int32 → Nat → Int32 → Int32 → Int32 → Int32 → Int32 → Int32 → Int32 → Int32 → Int32 → Int32 → Int32 → Int32 → Int32 → (Nat → Int32) → (Nat → Int32) → (Nat → Int32) → (Nat → Int32) → (Nat → Int32) → Prop} (hK25 : ∀ (x1 : Int32) (x2 : Int32) (x3 : Int32) (bQ : Int32) (dG : Int32) (jY : Nat) (m_length : Int32) (qG : Int32) (uW : Int32) (eY : Int32) (dN : Int32) (aR : Int32) (aE : Int32) (bJ : Int32) (aW : Int32) (dU : Int32) (bL : Int32) (bR : Int32) (bO : Int32) (uM : Nat → Int32) (tD : Nat → Int32) (uG : Nat → Int32) (nU : Nat → Int32) (vW : Nat → Int32) (H : Heap) (locs : List Loc) (ls : Array Slot), K25 x1 x2 x3 bQ dG jY m_length qG uW eY dN aR aE bJ aW dU bL bR bO uM tD uG nU vW → va_P (dC, dI) classes (wd_X10_soonest cI cC cZ cB cJ a_m oJ uD dY iJ lJ jQ jR jW jK pJ bM aY jO gR gY mK jZ iY bG mJ jB mQ lY eJ bY bW aG jG bQ dG jY m_length qG uW eY aJ aB bU dN aR aE bJ aW bT gJ dU bL bR bO mY pW rD m_x jA pY rW oY pR pX rG uM rQ tD uG nU vW) H → va_D A (wd_X10_soonest cI cC cZ cB cJ a_m oJ uD dY iJ lJ jQ jR jW jK pJ bM aY jO gR gY mK jZ iY bG mJ jB mQ lY eJ bY bW aG jG bQ dG jY m_length qG uW eY aJ aB bU dN aR aE bJ aW bT gJ dU bL bR bO mY pW rD m_x jA pY rW oY pR pX rG uM rQ tD uG nU vW) → va_S A s.heap H locs → lv_has ls 5 [(0, .ref a_m), (1, .int x1), (2, .int x2), (3, .int x3)] → W p l e rm_X10_soonest s m args below meth c H locs 0 0 (MQ below (q_X10_soonest dC dI cI cC cZ cB cJ A a_m oJ uD dY iJ lJ jQ jR jW jK pJ bM aY jO gR gY mK jZ iY bG mJ jB mQ lY eJ bY bW aG jG aJ aB bU bT gJ mY pW rD m_x jA pY rW oY pR pX rG rQ post) args s 0 0 A) (F0 m 25 ls [])) : ∀ (x3 x4 bQ dG : Int32) (jY : Nat) (m_length qG uW eY dN aR aE bJ aW dU bL bR bO : Int32) (uM tD uG nU vW : Nat → Int32) (H : Heap) (locs : List Loc) (ls : Array Slot), (ws_X10_soonest_84 post K25 bW aG bU rD m_x jA pY rW oY pR pX rG rQ) x3 x4 bQ dG jY m_length qG uW eY dN aR aE bJ aW dU bL bR bO uM tD uG nU vW → va_P (dC, dI) classes (wd_X10_soonest cI cC cZ cB cJ a_m oJ uD dY iJ lJ jQ jR jW jK pJ bM aY jO gR gY mK jZ iY bG mJ jB mQ lY eJ bY bW aG jG bQ dG jY m_length qG uW eY aJ aB bU dN aR aE bJ aW bT gJ dU bL bR bO mY pW rD m_x jA pY rW oY pR pX rG uM rQ tD uG nU vW) H → va_D A (wd_X10_soonest cI cC cZ cB cJ a_m oJ uD dY iJ lJ jQ jR jW jK pJ bM aY jO gR gY mK jZ iY bG mJ jB mQ lY eJ bY bW aG jG bQ dG jY m_length qG uW eY aJ aB bU dN aR aE bJ aW bT gJ dU bL bR bO mY pW rD m_x jA pY rW oY pR pX rG uM rQ tD uG nU vW) → va_S A s.heap H locs → lv_has ls 5 [(0, .ref a_m), (3, .int x3), (4, .int x4)] → W p l e rm_X10_soonest s m args below meth c H locs 0 0 (MQ below (q_X10_soonest dC dI cI cC cZ cB cJ A a_m oJ uD dY iJ lJ jQ jR jW jK pJ bM aY jO gR gY mK jZ iY bG mJ jB mQ lY eJ bY bW aG jG aJ aB bU bT gJ mY pW rD m_x jA pY rW oY pR pX rG rQ post) args s 0 0 A) (F0 m 84 ls []) := by
  obtain ⟨hx, hb, hr, hml, hown, hts, hlocks, hA, hK, hN, tL, tM, hZL, hTL, hZM, hTM, hZX⟩ := id C0
  intro x3 x4 bQ dG jY m_length qG uW eY dN aR aE bJ aW dU bL bR bO uM tD uG nU vW H locs ls hp hP hD hS hl
  unfold ws_X10_soonest_84 at hp
  refine lv_iload_n hx hb eX10_soonest_56.2.2.2.2.2.2.2.2.2.2.2.2.2.1 rfl (lv_at hl 1 rfl) ?_
  refine lv_istore_n (lv' := [(1, .int x3), (0, .ref a_m), (3, .int x3), (4, .int x4)]) hx hb eX10_soonest_56.2.2.2.2.2.2.2.2.2.2.2.2.2.2.1 rfl hl (by decide) rfl (fun ls hl => ?_)
  refine lv_iload hx hb eX10_soonest_56.2.2.2.2.2.2.2.2.2.2.2.2.2.2.2 (lv_at hl 3 rfl) ?_
  refine lv_istore_n (lv' := [(2, .int x4), (1, .int x3), (0, .ref a_m), (3, .int x3), (4, .int x4)]) hx hb eX10_soonest_88.1 rfl hl (by decide) rfl (fun ls hl => ?_)
  exact ks_X10_soonest_89 C0 hK25 x3 x4 x3 bQ dG jY m_length qG uW eY dN aR aE bJ aW dU bL bR bO uM tD uG nU vW H locs ls hp hP hD hS (lv_sub hl [2, 1, 0, 3] rfl)
noncomputable def ws_X10_soonest_25 (post : Int32 → Int32 → Int32 → Nat → Int32 → Int32 → Int32 → Int32 → Int32 → Int32 → Int32 → Int32 → Int32 → Int32 → Int32 → Int32 → Int32 → (Nat → Int32) → (Nat → Int32) → (Nat → Int32) → (Nat → Int32) → (Nat → Int32) → Prop) (next : Int32 → Int32 → Int32 → Int32 → Int32 → Nat → Int32 → Int32 → Int32 → Int32 → Int32 → Int32 → Int32 → Int32 → Int32 → Int32 → Int32 → Int32 → Int32 → (Nat → Int32) → (Nat → Int32) → (Nat → Int32) → (Nat → Int32) → (Nat → Int32) → Prop) (bW aG bU : Int32) (rD m_x jA pY rW oY pR pX rG rQ : Nat → Int32) (x1 x2 x3 bQ dG : Int32) (jY : Nat) (m_length qG uW eY dN aR aE bJ aW dU bL bR bO : Int32) (uM tD uG nU vW : Nat → Int32) : Prop := wp_X10_allStandings (fun r_15 => (r_15 < x3 → wp_X10_tell (fun m_rowMany_16 m_row_17 => post x2 m_rowMany_16 dG jY m_length qG uW eY dN aR aE bJ aW dU bL bR bO m_row_17 tD uG nU vW) x1 0 uM) ∧ (¬ r_15 < x3 → wp_X10_handOf (fun r_18 => ((dU &&& (r_18 ^^^ (-1))) = 0 → wp_X10_workOf (fun r_19 aAf zJ zK aBG => (x2 < r_19 → ws_X10_soonest_89 post next bW aG bU rD m_x jA pY rW oY pR pX rG rQ x1 x2 x3 bQ dG jY m_length qG uW eY dN aR aE bJ aW dU aAf zJ zK uM tD uG nU aBG) ∧ (¬ x2 < r_19 → (¬ r_19 = x2 → ws_X10_soonest_84 post next bW aG bU rD m_x jA pY rW oY pR pX rG rQ x3 r_19 bQ dG jY m_length qG uW eY dN aR aE bJ aW dU aAf zJ zK uM tD uG nU aBG) ∧ (r_19 = x2 → wp_J6_bitCount_0f7a4 (fun r_25 => wp_J6_bitCount_0f7a4 (fun r_26 => (r_25 < r_26 → ws_X10_soonest_84 post next bW aG bU rD m_x jA pY rW oY pR pX rG rQ x3 r_19 bQ dG jY m_length qG uW eY dN aR aE bJ aW dU aAf zJ zK uM tD uG nU aBG) ∧ (¬ r_25 < r_26 → ws_X10_soonest_89 post next bW aG bU rD m_x jA pY rW oY pR pX rG rQ x1 x2 x3 bQ dG jY m_length qG uW eY dN aR aE bJ aW dU aAf zJ zK uM tD uG nU aBG)) x1) x3))) x3 bW aG dU bL bR bO rD pR pX tD uG nU vW) ∧ (¬ (dU &&& (r_18 ^^^ (-1))) = 0 → ws_X10_soonest_89 post next bW aG bU rD m_x jA pY rW oY pR pX rG rQ x1 x2 x3 bQ dG jY m_length qG uW eY dN aR aE bJ aW dU bL bR bO uM tD uG nU vW)) x3 aG tD)) aG
noncomputable def wb_X10_soonest_25 (post : Int32 → Int32 → Int32 → Nat → Int32 → Int32 → Int32 → Int32 → Int32 → Int32 → Int32 → Int32 → Int32 → Int32 → Int32 → Int32 → Int32 → (Nat → Int32) → (Nat → Int32) → (Nat → Int32) → (Nat → Int32) → (Nat → Int32) → Prop) (bW aG bU : Int32) (rD m_x jA pY rW oY pR pX rG rQ : Nat → Int32) : Nat → Int32 → Int32 → Int32 → Int32 → Int32 → Nat → Int32 → Int32 → Int32 → Int32 → Int32 → Int32 → Int32 → Int32 → Int32 → Int32 → Int32 → Int32 → Int32 → (Nat → Int32) → (Nat → Int32) → (Nat → Int32) → (Nat → Int32) → (Nat → Int32) → Prop := fun n => Nat.rec (motive := fun _ => Int32 → Int32 → Int32 → Int32 → Int32 → Nat → Int32 → Int32 → Int32 → Int32 → Int32 → Int32 → Int32 → Int32 → Int32 → Int32 → Int32 → Int32 → Int32 → (Nat → Int32) → (Nat → Int32) → (Nat → Int32) → (Nat → Int32) → (Nat → Int32) → Prop) (fun _ _ _ _ _ _ _ _ _ _ _ _ _ _ _ _ _ _ _ _ _ _ _ _ => False) (fun _ ih => ws_X10_soonest_25 post ih bW aG bU rD m_x jA pY rW oY pR pX rG rQ) n
set_option maxHeartbeats 4000000 in
set_option maxRecDepth 100000 in
theorem ks_X10_soonest_25 (C0 : gc cX10_soonest (some .int) 5 RX10 (dC, dI) (tyl cI cC cZ cB cJ) A p s m args meth c) {next : Int32 → Int32 → Int32 → Int32 → Int32 → Nat → Int32 → Int32 → Int32 → Int32 → Int32 → Int32 → Int32 → Int32 → Int32 → Int32 → Int32 → Int32 → Int32 → (Nat → Int32) → (Nat → Int32) → (Nat → Int32) → (Nat → Int32) → (Nat → Int32) → Prop} (hKn : ∀ (x1 : Int32) (x2 : Int32) (x3 : Int32) (bQ : Int32) (dG : Int32) (jY : Nat) (m_length : Int32) (qG : Int32) (uW : Int32) (eY : Int32) (dN : Int32) (aR : Int32) (aE : Int32) (bJ : Int32) (aW : Int32) (dU : Int32) (bL : Int32) (bR : Int32) (bO : Int32) (uM : Nat → Int32) (tD : Nat → Int32) (uG : Nat → Int32) (nU : Nat → Int32) (vW : Nat → Int32) (H : Heap) (locs : List Loc) (ls : Array Slot), next x1 x2 x3 bQ dG jY m_length qG uW eY dN aR aE bJ aW dU bL bR bO uM tD uG nU vW → va_P (dC, dI) classes (wd_X10_soonest cI cC cZ cB cJ a_m oJ uD dY iJ lJ jQ jR jW jK pJ bM aY jO gR gY mK jZ iY bG mJ jB mQ lY eJ bY bW aG jG bQ dG jY m_length qG uW eY aJ aB bU dN aR aE bJ aW bT gJ dU bL bR bO mY pW rD m_x jA pY rW oY pR pX rG uM rQ tD uG nU vW) H → va_D A (wd_X10_soonest cI cC cZ cB cJ a_m oJ uD dY iJ lJ jQ jR jW jK pJ bM aY jO gR gY mK jZ iY bG mJ jB mQ lY eJ bY bW aG jG bQ dG jY m_length qG uW eY aJ aB bU dN aR aE bJ aW bT gJ dU bL bR bO mY pW rD m_x jA pY rW oY pR pX rG uM rQ tD uG nU vW) → va_S A s.heap H locs → lv_has ls 5 [(0, .ref a_m), (1, .int x1), (2, .int x2), (3, .int x3)] → W p l e rm_X10_soonest s m args below meth c H locs 0 0 (MQ below (q_X10_soonest dC dI cI cC cZ cB cJ A a_m oJ uD dY iJ lJ jQ jR jW jK pJ bM aY jO gR gY mK jZ iY bG mJ jB mQ lY eJ bY bW aG jG aJ aB bU bT gJ mY pW rD m_x jA pY rW oY pR pX rG rQ post) args s 0 0 A) (F0 m 25 ls [])) : ∀ (x1 x2 x3 bQ dG : Int32) (jY : Nat) (m_length qG uW eY dN aR aE bJ aW dU bL bR bO : Int32) (uM tD uG nU vW : Nat → Int32) (H : Heap) (locs : List Loc) (ls : Array Slot), (ws_X10_soonest_25 post next bW aG bU rD m_x jA pY rW oY pR pX rG rQ) x1 x2 x3 bQ dG jY m_length qG uW eY dN aR aE bJ aW dU bL bR bO uM tD uG nU vW → va_P (dC, dI) classes (wd_X10_soonest cI cC cZ cB cJ a_m oJ uD dY iJ lJ jQ jR jW jK pJ bM aY jO gR gY mK jZ iY bG mJ jB mQ lY eJ bY bW aG jG bQ dG jY m_length qG uW eY aJ aB bU dN aR aE bJ aW bT gJ dU bL bR bO mY pW rD m_x jA pY rW oY pR pX rG uM rQ tD uG nU vW) H → va_D A (wd_X10_soonest cI cC cZ cB cJ a_m oJ uD dY iJ lJ jQ jR jW jK pJ bM aY jO gR gY mK jZ iY bG mJ jB mQ lY eJ bY bW aG jG bQ dG jY m_length qG uW eY aJ aB bU dN aR aE bJ aW bT gJ dU bL bR bO mY pW rD m_x jA pY rW oY pR pX rG uM rQ tD uG nU vW) → va_S A s.heap H locs → lv_has ls 5 [(0, .ref a_m), (1, .int x1), (2, .int x2), (3, .int x3)] → W p l e rm_X10_soonest s m args below meth c H locs 0 0 (MQ below (q_X10_soonest dC dI cI cC cZ cB cJ A a_m oJ uD dY iJ lJ jQ jR jW jK pJ bM aY jO gR gY mK jZ iY bG mJ jB mQ lY eJ bY bW aG jG aJ aB bU bT gJ mY pW rD m_x jA pY rW oY pR pX rG rQ post) args s 0 0 A) (F0 m 25 ls []) := by
  obtain ⟨hx, hb, hr, hml, hown, hts, hlocks, hA, hK, hN, tL, tM, hZL, hTL, hZM, hTM, hZX⟩ := id C0
  intro x1 x2 x3 bQ dG jY m_length qG uW eY dN aR aE bJ aW dU bL bR bO uM tD uG nU vW H locs ls hp hP hD hS hl
  unfold ws_X10_soonest_25 at hp
  refine lv_iload_n hx hb eX10_soonest_0.2.2.2.2.2.2.2.2.2.2.2.2.2.2.2 rfl (lv_at hl 3 rfl) ?_
  refine lv_aload_n hx hb eX10_soonest_26.1 rfl (lv_at hl 0 rfl) ?_
  have hm := mgk (wc := (wd_X10_allStandings cI cC cZ cB cJ a_m oJ uD dY iJ lJ jQ jR jW jK pJ bM aY jO gR gY mK jZ iY bG mJ jB mQ lY eJ bY bW aG jG bQ dG jY m_length qG uW eY aJ aB bU dN aR aE bJ aW bT gJ dU bL bR bO mY pW)) hP mk_267 16 rfl rfl rfl
  refine g_calli hP hD hS hA (mixT mk_267) (mixF mk_267) hm.1 hm.2 (nd_F _) (dis_g _) (g_runV (As := []) (rest := [.int x3]) C0 hP hD hS (mixT mk_267) hm.1 (nd_T _) 0 10 rfl rfl (c_X10_allStandings l dC dI cI cC cZ cB cJ a_m oJ uD dY iJ lJ jQ jR jW jK pJ bM aY jO gR gY mK jZ iY bG mJ jB mQ lY eJ bY H.size bW aG jG bQ dG jY m_length qG uW eY aJ aB bU dN aR aE bJ aW bT gJ dU bL bR bO mY pW _ hp) q_870 q_873 q_871 q_872 q_642 h_X10_allStandings rfl rfl ⟨Nat.le_of_ble_eq_true rfl, Nat.le_of_ble_eq_true rfl⟩ rfl rfl hl.1 rfl (lv_room (Nat.le_of_ble_eq_true rfl)) eX10_soonest_26.2.1 ⟨Nat.zero_le _, Nat.zero_le _⟩) (fun r_15 u H locs hp hP hD hS => ?_)
  have hPD := PDm (ws' := (wd_X10_soonest cI cC cZ cB cJ a_m oJ uD dY iJ lJ jQ jR jW jK pJ bM aY jO gR gY mK jZ iY bG mJ jB mQ lY eJ bY bW aG jG bQ dG jY m_length qG uW eY aJ aB bU dN aR aE bJ aW bT gJ dU bL bR bO mY pW rD m_x jA pY rW oY pR pX rG uM rQ tD uG nU vW)) hP hD 16 rfl rfl rfl
  have hP := hPD.1
  have hD := hPD.2
  refine lv_icmp_gt (tgt := 95) hx hb eX10_soonest_26.2.2.1 (by decide) (fun hc => ?_) (fun hc => ?_)
  · have hp := hp.1 hc
    refine lv_aload_n hx hb eX10_soonest_88.2.2.2.1 rfl (lv_at hl 0 rfl) ?_
    refine lv_iconst (v := 0) hx hb eX10_soonest_88.2.2.2.2.1 ic_0 ?_
    refine va_put (D := (dC, dI)) (ci := 10) (v := .int 0) (ty := .int) (C := RX10) (T := TX10) (N := 51) hx hb hts i_X10 tyX10 tyX10_ok nmX10 hown hK hP hD hS 0 rfl rfl 13 (Nat.le_of_ble_eq_true rfl) (hts _ q_847) (fun _ h9 => h9) rfl (tyX10_ok 13 (Nat.le_of_ble_eq_true rfl)) rfl rfl (Nat.le_of_ble_eq_true rfl) eX10_soonest_88.2.2.2.2.2.1 (fun H locs hP hD hS => ?_)
    have hP : va_P (dC, dI) classes (wd_X10_soonest cI cC cZ cB cJ a_m oJ uD dY iJ lJ jQ jR jW jK pJ bM aY jO gR gY mK jZ iY bG mJ jB mQ lY eJ bY bW aG jG 0 dG jY m_length qG uW eY aJ aB bU dN aR aE bJ aW bT gJ dU bL bR bO mY pW rD m_x jA pY rW oY pR pX rG uM rQ tD uG nU vW) H := hP
    have hD : va_D A (wd_X10_soonest cI cC cZ cB cJ a_m oJ uD dY iJ lJ jQ jR jW jK pJ bM aY jO gR gY mK jZ iY bG mJ jB mQ lY eJ bY bW aG jG 0 dG jY m_length qG uW eY aJ aB bU dN aR aE bJ aW bT gJ dU bL bR bO mY pW rD m_x jA pY rW oY pR pX rG uM rQ tD uG nU vW) := hD
    refine lv_aload_n hx hb eX10_soonest_88.2.2.2.2.2.2.1 rfl (lv_at hl 0 rfl) ?_
    refine lv_iload_n hx hb eX10_soonest_88.2.2.2.2.2.2.2.1 rfl (lv_at hl 1 rfl) ?_
    have hm := mgk (wc := (wd_X10_tell cI cC cZ cB cJ a_m oJ uD dY iJ lJ jQ jR jW jK pJ bM aY jO gR gY mK jZ iY bG mJ jB mQ lY eJ bY bW aG jG 0 dG jY m_length qG uW eY aJ aB bU dN aR aE bJ aW bT gJ dU bL bR bO mY pW uM)) hP aGo 16 rfl rfl rfl
    refine g_callv hP hD hS hA (mixT aGo) (mixF aGo) hm.1 hm.2 (nd_F _) (dis_g _) (g_runV (As := [.int x1]) (rest := []) C0 hP hD hS (mixT aGo) hm.1 (nd_T _) 0 10 rfl rfl (c_X10_tell l dC dI cI cC cZ cB cJ a_m oJ uD dY iJ lJ jQ jR jW jK pJ bM aY jO gR gY mK jZ iY bG mJ jB mQ lY eJ bY H.size x1 bW aG jG 0 dG jY m_length qG uW eY aJ aB bU dN aR aE bJ aW bT gJ dU bL bR bO mY pW uM _ hp) q_849 q_852 q_850 q_851 q_642 h_X10_tell rfl rfl ⟨Nat.le_of_ble_eq_true rfl, Nat.le_of_ble_eq_true rfl⟩ rfl rfl hl.1 rfl (lv_room (Nat.le_of_ble_eq_true rfl)) eX10_soonest_88.2.2.2.2.2.2.2.2.1 ⟨Nat.zero_le _, Nat.zero_le _⟩) (fun u H locs hp hP hD hS => ?_)
    obtain ⟨m_rowMany_16, m_row_17⟩ := u
    have hPD := PDm (ws' := (wd_X10_soonest cI cC cZ cB cJ a_m oJ uD dY iJ lJ jQ jR jW jK pJ bM aY jO gR gY mK jZ iY bG mJ jB mQ lY eJ bY bW aG jG m_rowMany_16 dG jY m_length qG uW eY aJ aB bU dN aR aE bJ aW bT gJ dU bL bR bO mY pW rD m_x jA pY rW oY pR pX rG m_row_17 rQ tD uG nU vW)) hP hD 16 rfl rfl rfl
    have hP := hPD.1
    have hD := hPD.2
    refine lv_iload_n hx hb eX10_soonest_88.2.2.2.2.2.2.2.2.2.1 rfl (lv_at hl 2 rfl) ?_
    exact W.iret (v := x2) hx hb hr (fun t ht hW => ⟨⟨x2, (m_rowMany_16, dG, jY, m_length, qG, uW, eY, dN, aR, aE, bJ, aW, dU, bL, bR, bO, m_row_17, tD, uG, nU, vW), rfl, hp, by rw [ht]; exact hP, va_K.moved hW.alike hK, hD⟩, hS.F ht⟩) hS.2.2 eX10_soonest_88.2.2.2.2.2.2.2.2.2.2
  · have hp := hp.2 hc
    refine lv_aload_n hx hb eX10_soonest_26.2.2.2.1 rfl (lv_at hl 0 rfl) ?_
    refine va_get (D := (dC, dI)) (ci := 10) (v := .int dU) (C := RX10) (T := TX10) (N := 51) hx hb hts i_X10 hown hK hP 0 rfl rfl 37 (Nat.le_of_ble_eq_true rfl) (hts _ q_878) (fun _ h9 => h9) rfl eX10_soonest_26.2.2.2.2.1 ?_
    refine lv_aload_n hx hb eX10_soonest_26.2.2.2.2.2.1 rfl (lv_at hl 0 rfl) ?_
    refine lv_iload_n hx hb eX10_soonest_26.2.2.2.2.2.2.1 rfl (lv_at hl 3 rfl) ?_
    have hm := mgk (wc := (wd_X10_handOf cI cC cZ cB cJ a_m oJ uD dY iJ lJ jQ jR jW jK pJ bM aY jO gR gY mK jZ iY bG mJ jB mQ lY eJ bY bW aG jG bQ dG jY m_length qG uW eY aJ aB bU dN aR aE bJ aW bT gJ dU bL bR bO mY pW tD)) hP mk_274 16 rfl rfl rfl
    refine g_calli hP hD hS hA (mixT mk_274) (mixF mk_274) hm.1 hm.2 (nd_F _) (dis_g _) (g_runV (As := [.int x3]) (rest := [.int dU]) C0 hP hD hS (mixT mk_274) hm.1 (nd_T _) 0 10 rfl rfl (c_X10_handOf l dC dI cI cC cZ cB cJ a_m oJ uD dY iJ lJ jQ jR jW jK pJ bM aY jO gR gY mK jZ iY bG mJ jB mQ lY eJ bY H.size x3 bW aG jG bQ dG jY m_length qG uW eY aJ aB bU dN aR aE bJ aW bT gJ dU bL bR bO mY pW tD _ hp) q_874 q_877 q_875 q_876 q_642 h_X10_handOf rfl rfl ⟨Nat.le_of_ble_eq_true rfl, Nat.le_of_ble_eq_true rfl⟩ rfl rfl hl.1 rfl (lv_room (Nat.le_of_ble_eq_true rfl)) eX10_soonest_26.2.2.2.2.2.2.2.1 ⟨Nat.zero_le _, Nat.zero_le _⟩) (fun r_18 u H locs hp hP hD hS => ?_)
    have hPD := PDm (ws' := (wd_X10_soonest cI cC cZ cB cJ a_m oJ uD dY iJ lJ jQ jR jW jK pJ bM aY jO gR gY mK jZ iY bG mJ jB mQ lY eJ bY bW aG jG bQ dG jY m_length qG uW eY aJ aB bU dN aR aE bJ aW bT gJ dU bL bR bO mY pW rD m_x jA pY rW oY pR pX rG uM rQ tD uG nU vW)) hP hD 16 rfl rfl rfl
    have hP := hPD.1
    have hD := hPD.2
    refine lv_iconst (v := (-1)) hx hb eX10_soonest_26.2.2.2.2.2.2.2.2.1 ic_m1 ?_
    refine lv_ixor hx hb eX10_soonest_26.2.2.2.2.2.2.2.2.2.1 ?_
    refine lv_iand hx hb eX10_soonest_26.2.2.2.2.2.2.2.2.2.2.1 ?_
    refine lv_if_eq (tgt := 51) hx hb eX10_soonest_26.2.2.2.2.2.2.2.2.2.2.2.1 (by decide) (fun hc => ?_) (fun hc => ?_)
    · have hp := hp.1 hc
      refine lv_aload_n hx hb eX10_soonest_26.2.2.2.2.2.2.2.2.2.2.2.2.2.1 rfl (lv_at hl 0 rfl) ?_
      refine lv_iload_n hx hb eX10_soonest_26.2.2.2.2.2.2.2.2.2.2.2.2.2.2.1 rfl (lv_at hl 3 rfl) ?_
      have hm := mgk (wc := (wd_X10_workOf cI cC cZ cB cJ a_m oJ uD dY iJ lJ jQ jR jW jK pJ bM aY jO gR gY mK jZ iY bG mJ jB mQ lY eJ bY bW aG jG bQ dG jY m_length qG uW eY aJ aB bU dN aR aE bJ aW bT gJ dU bL bR bO mY pW rD pR pX tD uG nU vW)) hP mk_272 16 rfl rfl rfl
      refine g_calli hP hD hS hA (mixT mk_272) (mixF mk_272) hm.1 hm.2 (nd_F _) (dis_g _) (g_runV (As := [.int x3]) (rest := []) C0 hP hD hS (mixT mk_272) hm.1 (nd_T _) 0 10 rfl rfl (c_X10_workOf l dC dI cI cC cZ cB cJ a_m oJ uD dY iJ lJ jQ jR jW jK pJ bM aY jO gR gY mK jZ iY bG mJ jB mQ lY eJ bY H.size x3 bW aG jG bQ dG jY m_length qG uW eY aJ aB bU dN aR aE bJ aW bT gJ dU bL bR bO mY pW rD pR pX tD uG nU vW _ hp) q_937 q_940 q_938 q_939 q_642 h_X10_workOf rfl rfl ⟨Nat.le_of_ble_eq_true rfl, Nat.le_of_ble_eq_true rfl⟩ rfl rfl hl.1 rfl (lv_room (Nat.le_of_ble_eq_true rfl)) eX10_soonest_26.2.2.2.2.2.2.2.2.2.2.2.2.2.2.2 ⟨Nat.zero_le _, Nat.zero_le _⟩) (fun r_19 u H locs hp hP hD hS => ?_)
      obtain ⟨aAf, zJ, zK, aBG⟩ := u
      have hPD := PDm (ws' := (wd_X10_soonest cI cC cZ cB cJ a_m oJ uD dY iJ lJ jQ jR jW jK pJ bM aY jO gR gY mK jZ iY bG mJ jB mQ lY eJ bY bW aG jG bQ dG jY m_length qG uW eY aJ aB bU dN aR aE bJ aW bT gJ dU aAf zJ zK mY pW rD m_x jA pY rW oY pR pX rG uM rQ tD uG nU aBG)) hP hD 16 rfl rfl rfl
      have hP := hPD.1
      have hD := hPD.2
      refine lv_istore (lv' := [(4, .int r_19), (0, .ref a_m), (1, .int x1), (2, .int x2), (3, .int x3)]) hx hb eX10_soonest_56.1 hl (by decide) rfl (fun ls hl => ?_)
      refine lv_iload hx hb eX10_soonest_56.2.1 (lv_at hl 0 rfl) ?_
      refine lv_iload_n hx hb eX10_soonest_56.2.2.1 rfl (lv_at hl 3 rfl) ?_
      refine lv_icmp_gt (tgt := 89) hx hb eX10_soonest_56.2.2.2.1 (by decide) (fun hc => ?_) (fun hc => ?_)
      · have hp := hp.1 hc
        exact ks_X10_soonest_89 C0 hKn x1 x2 x3 bQ dG jY m_length qG uW eY dN aR aE bJ aW dU aAf zJ zK uM tD uG nU aBG H locs ls hp hP hD hS (lv_sub hl [1, 2, 3, 4] rfl)
      · have hp := hp.2 hc
        refine lv_iload hx hb eX10_soonest_56.2.2.2.2.1 (lv_at hl 0 rfl) ?_
        refine lv_iload_n hx hb eX10_soonest_56.2.2.2.2.2.1 rfl (lv_at hl 3 rfl) ?_
        refine lv_icmp_ne (tgt := 84) hx hb eX10_soonest_56.2.2.2.2.2.2.1 (by decide) (fun hc => ?_) (fun hc => ?_)
        · have hp := hp.1 hc
          exact ks_X10_soonest_84 C0 hKn x3 r_19 bQ dG jY m_length qG uW eY dN aR aE bJ aW dU aAf zJ zK uM tD uG nU aBG H locs ls hp hP hD hS (lv_sub hl [1, 4, 0] rfl)
        · have hp := hp.2 hc
          refine lv_iload_n hx hb eX10_soonest_56.2.2.2.2.2.2.2.1 rfl (lv_at hl 4 rfl) ?_
          have hm := mgk (wc := (wd_J6_bitCount_0f7a4 cI cC cZ cB cJ)) hP mk_268 16 rfl rfl rfl
          refine g_calli hP hD hS hA (mixT mk_268) (mixF mk_268) hm.1 hm.2 (nd_F _) (dis_g _) (g_runS (As := [.int x3]) (rest := []) C0 hP hD hS (mixT mk_268) hm.1 (nd_T _) (c_J6_bitCount_0f7a4 l dC dI cI cC cZ cB cJ H.size x3 _ hp) q_320 q_803 q_322 q_321 h_J6_bitCount_0f7a4 rfl rfl ⟨Nat.le_of_ble_eq_true rfl, Nat.le_of_ble_eq_true rfl⟩ rfl rfl hl.1 rfl (lv_room (Nat.le_of_ble_eq_true rfl)) eX10_soonest_56.2.2.2.2.2.2.2.2.1 ⟨Nat.zero_le _, Nat.zero_le _⟩) (fun r_25 u H locs hp hP hD hS => ?_)
          have hPD := PDm (ws' := (wd_X10_soonest cI cC cZ cB cJ a_m oJ uD dY iJ lJ jQ jR jW jK pJ bM aY jO gR gY mK jZ iY bG mJ jB mQ lY eJ bY bW aG jG bQ dG jY m_length qG uW eY aJ aB bU dN aR aE bJ aW bT gJ dU aAf zJ zK mY pW rD m_x jA pY rW oY pR pX rG uM rQ tD uG nU aBG)) hP hD 16 rfl rfl rfl
          have hP := hPD.1
          have hD := hPD.2
          refine lv_iload_n hx hb eX10_soonest_56.2.2.2.2.2.2.2.2.2.1 rfl (lv_at hl 2 rfl) ?_
          have hm := mgk (wc := (wd_J6_bitCount_0f7a4 cI cC cZ cB cJ)) hP mk_268 16 rfl rfl rfl
          refine g_calli hP hD hS hA (mixT mk_268) (mixF mk_268) hm.1 hm.2 (nd_F _) (dis_g _) (g_runS (As := [.int x1]) (rest := [.int r_25]) C0 hP hD hS (mixT mk_268) hm.1 (nd_T _) (c_J6_bitCount_0f7a4 l dC dI cI cC cZ cB cJ H.size x1 _ hp) q_320 q_803 q_322 q_321 h_J6_bitCount_0f7a4 rfl rfl ⟨Nat.le_of_ble_eq_true rfl, Nat.le_of_ble_eq_true rfl⟩ rfl rfl hl.1 rfl (lv_room (Nat.le_of_ble_eq_true rfl)) eX10_soonest_56.2.2.2.2.2.2.2.2.2.2.1 ⟨Nat.zero_le _, Nat.zero_le _⟩) (fun r_26 u H locs hp hP hD hS => ?_)
          have hPD := PDm (ws' := (wd_X10_soonest cI cC cZ cB cJ a_m oJ uD dY iJ lJ jQ jR jW jK pJ bM aY jO gR gY mK jZ iY bG mJ jB mQ lY eJ bY bW aG jG bQ dG jY m_length qG uW eY aJ aB bU dN aR aE bJ aW bT gJ dU aAf zJ zK mY pW rD m_x jA pY rW oY pR pX rG uM rQ tD uG nU aBG)) hP hD 16 rfl rfl rfl
          have hP := hPD.1
          have hD := hPD.2
          refine lv_icmp_lt (tgt := 84) hx hb eX10_soonest_56.2.2.2.2.2.2.2.2.2.2.2.1 (by decide) (fun hc => ?_) (fun hc => ?_)
          · have hp := hp.1 hc
            exact ks_X10_soonest_84 C0 hKn x3 r_19 bQ dG jY m_length qG uW eY dN aR aE bJ aW dU aAf zJ zK uM tD uG nU aBG H locs ls hp hP hD hS (lv_sub hl [1, 4, 0] rfl)
          · have hp := hp.2 hc
            refine lv_goto (tgt := 89) hx hb eX10_soonest_56.2.2.2.2.2.2.2.2.2.2.2.2.1 (by decide) ?_
            exact ks_X10_soonest_89 C0 hKn x1 x2 x3 bQ dG jY m_length qG uW eY dN aR aE bJ aW dU aAf zJ zK uM tD uG nU aBG H locs ls hp hP hD hS (lv_sub hl [1, 2, 3, 4] rfl)
    · have hp := hp.2 hc
      refine lv_goto (tgt := 89) hx hb eX10_soonest_26.2.2.2.2.2.2.2.2.2.2.2.2.1 (by decide) ?_
      exact ks_X10_soonest_89 C0 hKn x1 x2 x3 bQ dG jY m_length qG uW eY dN aR aE bJ aW dU bL bR bO uM tD uG nU vW H locs ls hp hP hD hS (lv_sub hl [0, 1, 2, 3] rfl)
set_option maxHeartbeats 4000000 in
set_option maxRecDepth 100000 in
theorem kb_X10_soonest_25 (C0 : gc cX10_soonest (some .int) 5 RX10 (dC, dI) (tyl cI cC cZ cB cJ) A p s m args meth c) : ∀ (n : Nat), ∀ (x1 x2 x3 bQ dG : Int32) (jY : Nat) (m_length qG uW eY dN aR aE bJ aW dU bL bR bO : Int32) (uM tD uG nU vW : Nat → Int32) (H : Heap) (locs : List Loc) (ls : Array Slot), (wb_X10_soonest_25 post bW aG bU rD m_x jA pY rW oY pR pX rG rQ n) x1 x2 x3 bQ dG jY m_length qG uW eY dN aR aE bJ aW dU bL bR bO uM tD uG nU vW → va_P (dC, dI) classes (wd_X10_soonest cI cC cZ cB cJ a_m oJ uD dY iJ lJ jQ jR jW jK pJ bM aY jO gR gY mK jZ iY bG mJ jB mQ lY eJ bY bW aG jG bQ dG jY m_length qG uW eY aJ aB bU dN aR aE bJ aW bT gJ dU bL bR bO mY pW rD m_x jA pY rW oY pR pX rG uM rQ tD uG nU vW) H → va_D A (wd_X10_soonest cI cC cZ cB cJ a_m oJ uD dY iJ lJ jQ jR jW jK pJ bM aY jO gR gY mK jZ iY bG mJ jB mQ lY eJ bY bW aG jG bQ dG jY m_length qG uW eY aJ aB bU dN aR aE bJ aW bT gJ dU bL bR bO mY pW rD m_x jA pY rW oY pR pX rG uM rQ tD uG nU vW) → va_S A s.heap H locs → lv_has ls 5 [(0, .ref a_m), (1, .int x1), (2, .int x2), (3, .int x3)] → W p l e rm_X10_soonest s m args below meth c H locs 0 0 (MQ below (q_X10_soonest dC dI cI cC cZ cB cJ A a_m oJ uD dY iJ lJ jQ jR jW jK pJ bM aY jO gR gY mK jZ iY bG mJ jB mQ lY eJ bY bW aG jG aJ aB bU bT gJ mY pW rD m_x jA pY rW oY pR pX rG rQ post) args s 0 0 A) (F0 m 25 ls []) := by
  intro n
  induction n with
  | zero =>
    intro x1 x2 x3 bQ dG jY m_length qG uW eY dN aR aE bJ aW dU bL bR bO uM tD uG nU vW H locs ls hp
    exact False.elim hp
  | succ n ih =>
    intro x1 x2 x3 bQ dG jY m_length qG uW eY dN aR aE bJ aW dU bL bR bO uM tD uG nU vW H locs ls hp
    exact ks_X10_soonest_25 C0 ih x1 x2 x3 bQ dG jY m_length qG uW eY dN aR aE bJ aW dU bL bR bO uM tD uG nU vW H locs ls hp
end S_X10_soonest
noncomputable def wp_X10_soonest (post : Int32 → Int32 → Int32 → Nat → Int32 → Int32 → Int32 → Int32 → Int32 → Int32 → Int32 → Int32 → Int32 → Int32 → Int32 → Int32 → Int32 → (Nat → Int32) → (Nat → Int32) → (Nat → Int32) → (Nat → Int32) → (Nat → Int32) → Prop) (bW aG bQ dG : Int32) (jY : Nat) (m_length qG uW eY bU dN aR aE bJ aW dU bL bR bO : Int32) (rD m_x jA pY rW oY pR pX rG uM rQ tD uG nU vW : Nat → Int32) : Prop := wp_X10_layHands (fun xX zP => wp_X10_layMoves (fun aBF => wp_X10_laySeconds (fun m_read_4 m_length_5 m_top_6 m_at_7 aLh m_isAsked_9 aLk aGr m_askedHook_12 aLl aIy => ∃ n : Nat, wb_X10_soonest_25 post bW aG bU rD m_x jA pY rW oY pR pX rG rQ n (-1) 1000000 0 bQ 0 m_read_4 m_length_5 m_top_6 m_at_7 aLh m_isAsked_9 aLk aGr m_askedHook_12 aLl xX bL bR bO uM zP aBF aIy vW) bW aG jY m_length qG uW eY bU dN aR aE bJ aW m_x jA pY oY pR rG rQ nU) aG oY pX uG) bW aG dU rD m_x jA rW oY pR pX tD
set_option maxHeartbeats 4000000 in
set_option maxRecDepth 100000 in
theorem c_X10_soonest (l : Launch) (dC : Nat → ClassId) (dI : Nat → Nat → Nat) (cI cC cZ cB cJ : ClassId) (a_m oJ uD dY iJ lJ jQ jR jW jK pJ bM aY jO gR gY mK jZ iY bG mJ jB mQ lY eJ bY sz : Nat) (bW aG jG bQ dG : Int32) (jY : Nat) (m_length qG uW eY aJ aB bU dN aR aE bJ aW bT gJ dU bL bR bO mY pW : Int32) (rD m_x jA pY rW oY pR pX rG uM rQ tD uG nU vW : Nat → Int32) (post : Int32 → Int32 → Int32 → Nat → Int32 → Int32 → Int32 → Int32 → Int32 → Int32 → Int32 → Int32 → Int32 → Int32 → Int32 → Int32 → Int32 → (Nat → Int32) → (Nat → Int32) → (Nat → Int32) → (Nat → Int32) → (Nat → Int32) → Prop) (hw : wp_X10_soonest post bW aG bQ dG jY m_length qG uW eY bU dN aR aE bJ aW dU bL bR bO rD m_x jA pY rW oY pR pX rG uM rQ tD uG nU vW) : Met l yX10_soonest (gw yX10_soonest cX10_soonest 5 (some .int)) rm_X10_soonest (va_Pc [.ref a_m] (gPre (dC, dI) (tyl cI cC cZ cB cJ) (wd_X10_soonest cI cC cZ cB cJ a_m oJ uD dY iJ lJ jQ jR jW jK pJ bM aY jO gR gY mK jZ iY bG mJ jB mQ lY eJ bY bW aG jG bQ dG jY m_length qG uW eY aJ aB bU dN aR aE bJ aW bT gJ dU bL bR bO mY pW rD m_x jA pY rW oY pR pX rG uM rQ tD uG nU vW) sz)) (q_X10_soonest dC dI cI cC cZ cB cJ (va_A (wd_X10_soonest cI cC cZ cB cJ a_m oJ uD dY iJ lJ jQ jR jW jK pJ bM aY jO gR gY mK jZ iY bG mJ jB mQ lY eJ bY bW aG jG bQ dG jY m_length qG uW eY aJ aB bU dN aR aE bJ aW bT gJ dU bL bR bO mY pW rD m_x jA pY rW oY pR pX rG uM rQ tD uG nU vW) sz) a_m oJ uD dY iJ lJ jQ jR jW jK pJ bM aY jO gR gY mK jZ iY bG mJ jB mQ lY eJ bY bW aG jG aJ aB bU bT gJ mY pW rD m_x jA pY rW oY pR pX rG rQ post) 0 0 (va_A (wd_X10_soonest cI cC cZ cB cJ a_m oJ uD dY iJ lJ jQ jR jW jK pJ bM aY jO gR gY mK jZ iY bG mJ jB mQ lY eJ bY bW aG jG bQ dG jY m_length qG uW eY aJ aB bU dN aR aE bJ aW bT gJ dU bL bR bO mY pW rD m_x jA pY rW oY pR pX rG uM rQ tD uG nU vW) sz) := by
  refine g_enter (own := RX10) (dC, dI) (tyl cI cC cZ cB cJ) (wd_X10_soonest cI cC cZ cB cJ a_m oJ uD dY iJ lJ jQ jR jW jK pJ bM aY jO gR gY mK jZ iY bG mJ jB mQ lY eJ bY bW aG jG bQ dG jY m_length qG uW eY aJ aB bU dN aR aE bJ aW bT gJ dU bL bR bO mY pW rD m_x jA pY rW oY pR pX rG uM rQ tD uG nU vW) sz [.ref a_m] (fun A => q_X10_soonest dC dI cI cC cZ cB cJ A a_m oJ uD dY iJ lJ jQ jR jW jK pJ bM aY jO gR gY mK jZ iY bG mJ jB mQ lY eJ bY bW aG jG aJ aB bU bT gJ mY pW rD m_x jA pY rW oY pR pX rG rQ post) pn_RX10 rfl (Nat.le_of_ble_eq_true rfl) ?_
  intro p e s m args below meth c A H locs ls C0 hP hD hS hl
  have hl : lv_has ls 5 [(0, .ref a_m)] := hl
  obtain ⟨hx, hb, hr, hml, hown, hts, hlocks, hA, hK, hN, tL, tM, hZL, hTL, hZM, hTM, hZX⟩ := id C0
  have hp := hw
  unfold wp_X10_soonest at hp
  refine lv_aload_n hx hb eX10_soonest_0.1 rfl (lv_at hl 0 rfl) ?_
  refine lv_iconst (v := 0) hx hb eX10_soonest_0.2.1 ic_0 ?_
  refine va_put (D := (dC, dI)) (ci := 10) (v := .int 0) (ty := .int) (C := RX10) (T := TX10) (N := 51) hx hb hts i_X10 tyX10 tyX10_ok nmX10 hown hK hP hD hS 0 rfl rfl 14 (Nat.le_of_ble_eq_true rfl) (hts _ q_638) (fun _ h9 => h9) rfl (tyX10_ok 14 (Nat.le_of_ble_eq_true rfl)) rfl rfl (Nat.le_of_ble_eq_true rfl) eX10_soonest_0.2.2.1 (fun H locs hP hD hS => ?_)
  have hP : va_P (dC, dI) classes (wd_X10_soonest cI cC cZ cB cJ a_m oJ uD dY iJ lJ jQ jR jW jK pJ bM aY jO gR gY mK jZ iY bG mJ jB mQ lY eJ bY bW aG jG bQ 0 jY m_length qG uW eY aJ aB bU dN aR aE bJ aW bT gJ dU bL bR bO mY pW rD m_x jA pY rW oY pR pX rG uM rQ tD uG nU vW) H := hP
  have hD : va_D A (wd_X10_soonest cI cC cZ cB cJ a_m oJ uD dY iJ lJ jQ jR jW jK pJ bM aY jO gR gY mK jZ iY bG mJ jB mQ lY eJ bY bW aG jG bQ 0 jY m_length qG uW eY aJ aB bU dN aR aE bJ aW bT gJ dU bL bR bO mY pW rD m_x jA pY rW oY pR pX rG uM rQ tD uG nU vW) := hD
  refine lv_aload_n hx hb eX10_soonest_0.2.2.2.1 rfl (lv_at hl 0 rfl) ?_
  have hm := mgk (wc := (wd_X10_layHands cI cC cZ cB cJ a_m oJ uD dY iJ lJ jQ jR jW jK pJ bM aY jO gR gY mK jZ iY bG mJ jB mQ lY eJ bY bW aG jG bQ 0 jY m_length qG uW eY aJ aB bU dN aR aE bJ aW bT gJ dU bL bR bO mY pW rD m_x jA rW oY pR pX tD)) hP mk_269 16 rfl rfl rfl
  refine g_callv hP hD hS hA (mixT mk_269) (mixF mk_269) hm.1 hm.2 (nd_F _) (dis_g _) (g_runV (As := []) (rest := []) C0 hP hD hS (mixT mk_269) hm.1 (nd_T _) 0 10 rfl rfl (c_X10_layHands l dC dI cI cC cZ cB cJ a_m oJ uD dY iJ lJ jQ jR jW jK pJ bM aY jO gR gY mK jZ iY bG mJ jB mQ lY eJ bY H.size bW aG jG bQ 0 jY m_length qG uW eY aJ aB bU dN aR aE bJ aW bT gJ dU bL bR bO mY pW rD m_x jA rW oY pR pX tD _ hp) q_883 q_886 q_884 q_885 q_642 h_X10_layHands rfl rfl ⟨Nat.le_of_ble_eq_true rfl, Nat.le_of_ble_eq_true rfl⟩ rfl rfl hl.1 rfl (lv_room (Nat.le_of_ble_eq_true rfl)) eX10_soonest_0.2.2.2.2.1 ⟨Nat.zero_le _, Nat.zero_le _⟩) (fun u H locs hp hP hD hS => ?_)
  obtain ⟨xX, zP⟩ := u
  have hPD := PDm (ws' := (wd_X10_soonest cI cC cZ cB cJ a_m oJ uD dY iJ lJ jQ jR jW jK pJ bM aY jO gR gY mK jZ iY bG mJ jB mQ lY eJ bY bW aG jG bQ 0 jY m_length qG uW eY aJ aB bU dN aR aE bJ aW bT gJ xX bL bR bO mY pW rD m_x jA pY rW oY pR pX rG uM rQ zP uG nU vW)) hP hD 16 rfl rfl rfl
  have hP := hPD.1
  have hD := hPD.2
  refine lv_aload_n hx hb eX10_soonest_0.2.2.2.2.2.1 rfl (lv_at hl 0 rfl) ?_
  have hm := mgk (wc := (wd_X10_layMoves cI cC cZ cB cJ a_m oJ uD dY iJ lJ jQ jR jW jK pJ bM aY jO gR gY mK jZ iY bG mJ jB mQ lY eJ bY bW aG jG bQ 0 jY m_length qG uW eY aJ aB bU dN aR aE bJ aW bT gJ xX bL bR bO mY pW oY pX uG)) hP mk_270 16 rfl rfl rfl
  refine g_callv hP hD hS hA (mixT mk_270) (mixF mk_270) hm.1 hm.2 (nd_F _) (dis_g _) (g_runV (As := []) (rest := []) C0 hP hD hS (mixT mk_270) hm.1 (nd_T _) 0 10 rfl rfl (c_X10_layMoves l dC dI cI cC cZ cB cJ a_m oJ uD dY iJ lJ jQ jR jW jK pJ bM aY jO gR gY mK jZ iY bG mJ jB mQ lY eJ bY H.size bW aG jG bQ 0 jY m_length qG uW eY aJ aB bU dN aR aE bJ aW bT gJ xX bL bR bO mY pW oY pX uG _ hp) q_916 q_919 q_917 q_918 q_642 h_X10_layMoves rfl rfl ⟨Nat.le_of_ble_eq_true rfl, Nat.le_of_ble_eq_true rfl⟩ rfl rfl hl.1 rfl (lv_room (Nat.le_of_ble_eq_true rfl)) eX10_soonest_0.2.2.2.2.2.2.1 ⟨Nat.zero_le _, Nat.zero_le _⟩) (fun u H locs hp hP hD hS => ?_)
  obtain ⟨aBF, rfl⟩ : ∃ z, z = u := ⟨_, rfl⟩
  have hPD := PDm (ws' := (wd_X10_soonest cI cC cZ cB cJ a_m oJ uD dY iJ lJ jQ jR jW jK pJ bM aY jO gR gY mK jZ iY bG mJ jB mQ lY eJ bY bW aG jG bQ 0 jY m_length qG uW eY aJ aB bU dN aR aE bJ aW bT gJ xX bL bR bO mY pW rD m_x jA pY rW oY pR pX rG uM rQ zP aBF nU vW)) hP hD 16 rfl rfl rfl
  have hP := hPD.1
  have hD := hPD.2
  refine lv_aload_n hx hb eX10_soonest_0.2.2.2.2.2.2.2.1 rfl (lv_at hl 0 rfl) ?_
  have hm := mgk (wc := (wd_X10_laySeconds cI cC cZ cB cJ a_m oJ uD dY iJ lJ jQ jR jW jK pJ bM aY jO gR gY mK jZ iY bG mJ jB mQ lY eJ bY bW aG jG bQ 0 jY m_length qG uW eY aJ aB bU dN aR aE bJ aW bT gJ xX bL bR bO mY pW m_x jA pY oY pR rG rQ nU)) hP mk_271 16 rfl rfl rfl
  refine g_callv hP hD hS hA (mixT mk_271) (mixF mk_271) hm.1 hm.2 (nd_F _) (dis_g _) (g_runV (As := []) (rest := []) C0 hP hD hS (mixT mk_271) hm.1 (nd_T _) 0 10 rfl rfl (c_X10_laySeconds l dC dI cI cC cZ cB cJ a_m oJ uD dY iJ lJ jQ jR jW jK pJ bM aY jO gR gY mK jZ iY bG mJ jB mQ lY eJ bY H.size bW aG jG bQ 0 jY m_length qG uW eY aJ aB bU dN aR aE bJ aW bT gJ xX bL bR bO mY pW m_x jA pY oY pR rG rQ nU _ hp) q_933 q_936 q_934 q_935 q_642 h_X10_laySeconds rfl rfl ⟨Nat.le_of_ble_eq_true rfl, Nat.le_of_ble_eq_true rfl⟩ rfl rfl hl.1 rfl (lv_room (Nat.le_of_ble_eq_true rfl)) eX10_soonest_0.2.2.2.2.2.2.2.2.1 ⟨Nat.zero_le _, Nat.zero_le _⟩) (fun u H locs hp hP hD hS => ?_)
  obtain ⟨m_read_4, m_length_5, m_top_6, m_at_7, aLh, m_isAsked_9, aLk, aGr, m_askedHook_12, aLl, aIy⟩ := u
  have hPD := PDm (ws' := (wd_X10_soonest cI cC cZ cB cJ a_m oJ uD dY iJ lJ jQ jR jW jK pJ bM aY jO gR gY mK jZ iY bG mJ jB mQ lY eJ bY bW aG jG bQ 0 m_read_4 m_length_5 m_top_6 m_at_7 aLh aJ aB bU m_isAsked_9 aLk aGr m_askedHook_12 aLl bT gJ xX bL bR bO mY pW rD m_x jA pY rW oY pR pX rG uM rQ zP aBF aIy vW)) hP hD 16 rfl rfl rfl
  have hP := hPD.1
  have hD := hPD.2
  refine lv_iconst (v := (-1)) hx hb eX10_soonest_0.2.2.2.2.2.2.2.2.2.1 ic_m1 ?_
  refine lv_istore_n (lv' := [(1, .int (-1)), (0, .ref a_m)]) hx hb eX10_soonest_0.2.2.2.2.2.2.2.2.2.2.1 rfl hl (by decide) rfl (fun ls hl => ?_)
  refine lv_ldcw (v := 1000000) hx hb hown (hts _ q_911) eX10_soonest_0.2.2.2.2.2.2.2.2.2.2.2.1 ?_
  refine lv_istore_n (lv' := [(2, .int 1000000), (1, .int (-1)), (0, .ref a_m)]) hx hb eX10_soonest_0.2.2.2.2.2.2.2.2.2.2.2.2.1 rfl hl (by decide) rfl (fun ls hl => ?_)
  refine lv_iconst (v := 0) hx hb eX10_soonest_0.2.2.2.2.2.2.2.2.2.2.2.2.2.1 ic_0 ?_
  refine lv_istore_n (lv' := [(3, .int 0), (2, .int 1000000), (1, .int (-1)), (0, .ref a_m)]) hx hb eX10_soonest_0.2.2.2.2.2.2.2.2.2.2.2.2.2.2.1 rfl hl (by decide) rfl (fun ls hl => ?_)
  obtain ⟨n9, hp⟩ := hp
  exact kb_X10_soonest_25 C0 n9 (-1) 1000000 0 bQ 0 m_read_4 m_length_5 m_top_6 m_at_7 aLh m_isAsked_9 aLk aGr m_askedHook_12 aLl xX bL bR bO uM zP aBF aIy vW H locs ls hp hP hD hS (lv_sub hl [3, 2, 1, 0] rfl)
noncomputable abbrev wd_X10_pays (cI cC cZ cB cJ : ClassId) (a_m oJ uD dY iJ lJ jQ jR jW jK pJ bM aY jO gR gY mK jZ iY bG mJ jB mQ lY eJ bY : Nat) (bW aG jG bQ dG : Int32) (jY : Nat) (m_length qG uW eY aJ aB bU dN aR aE bJ aW bT gJ dU bL bR bO mY pW : Int32) (rD m_x jA pY rW oY pR pX rG uM rQ tD : Nat → Int32) : va_W := [(a_m, .inr (10, [.ref oJ, .int bW, .ref uD, .ref dY, .ref iJ, .ref lJ, .int aG, .ref jQ, .ref jR, .ref jW, .ref jK, .int jG, .ref pJ, .int bQ, .int dG, rdv jK jO jY, .int m_length, .int qG, .int uW, .int eY, .ref bM, .ref aY, .int aJ, .int aB, .ref jO, .int bU, .int dN, .int aR, .int aE, .int bJ, .int aW, .ref gR, .int bT, .ref gY, .ref mK, .int gJ, .ref jZ, .int dU, .ref iY, .ref bG, .int bL, .int bR, .int bO, .ref mJ, .ref jB, .ref mQ, .int mY, .int pW, .ref lY, .ref eJ, .ref bY])), (oJ, .inl (cI, 21, .inl rD)), (uD, .inl (cI, 16, .inl m_x)), (dY, .inl (cI, 16, .inl jA)), (iJ, .inl (cI, 16, .inl pY)), (lJ, .inl (cI, 16, .inl rW)), (jQ, .inl (cI, 8, .inl oY)), (jR, .inl (cI, 8, .inl pR)), (jW, .inl (cI, 5, .inl pX)), (jK, .inl (cB, 80, .inl rG)), (pJ, .inl (cI, 32, .inl uM)), (jO, .inl (cB, 40, .inl rQ)), (jZ, .inl (cI, 8, .inl tD))]
noncomputable abbrev q_X10_pays (dC : Nat → ClassId) (dI : Nat → Nat → Nat) (cI cC cZ cB cJ : ClassId) (A : Nat → Prop) (a_m oJ uD dY iJ lJ jQ jR jW jK pJ bM aY jO gR gY mK jZ iY bG mJ jB mQ lY eJ bY : Nat) (bW aG jG aJ aB bU bT gJ bL bR bO mY pW : Int32) (rD m_x jA pY rW oY pR pX rG rQ : Nat → Int32) (post : Int32 → Int32 → Int32 → Nat → Int32 → Int32 → Int32 → Int32 → Int32 → Int32 → Int32 → Int32 → Int32 → Int32 → (Nat → Int32) → (Nat → Int32) → Prop) : Array Value → State → Outcome → State → Prop := va_Qi (fun (r : Int32) (u : Int32 × Int32 × Nat × Int32 × Int32 × Int32 × Int32 × Int32 × Int32 × Int32 × Int32 × Int32 × Int32 × (Nat → Int32) × (Nat → Int32)) => post r u.1 u.2.1 u.2.2.1 u.2.2.2.1 u.2.2.2.2.1 u.2.2.2.2.2.1 u.2.2.2.2.2.2.1 u.2.2.2.2.2.2.2.1 u.2.2.2.2.2.2.2.2.1 u.2.2.2.2.2.2.2.2.2.1 u.2.2.2.2.2.2.2.2.2.2.1 u.2.2.2.2.2.2.2.2.2.2.2.1 u.2.2.2.2.2.2.2.2.2.2.2.2.1 u.2.2.2.2.2.2.2.2.2.2.2.2.2.1 u.2.2.2.2.2.2.2.2.2.2.2.2.2.2) (fun u t => gB (dC, dI) (tyl cI cC cZ cB cJ) A (wd_X10_pays cI cC cZ cB cJ a_m oJ uD dY iJ lJ jQ jR jW jK pJ bM aY jO gR gY mK jZ iY bG mJ jB mQ lY eJ bY bW aG jG u.1 u.2.1 u.2.2.1 u.2.2.2.1 u.2.2.2.2.1 u.2.2.2.2.2.1 u.2.2.2.2.2.2.1 aJ aB bU u.2.2.2.2.2.2.2.1 u.2.2.2.2.2.2.2.2.1 u.2.2.2.2.2.2.2.2.2.1 u.2.2.2.2.2.2.2.2.2.2.1 u.2.2.2.2.2.2.2.2.2.2.2.1 bT gJ u.2.2.2.2.2.2.2.2.2.2.2.2.1 bL bR bO mY pW rD m_x jA pY rW oY pR pX rG u.2.2.2.2.2.2.2.2.2.2.2.2.2.1 rQ u.2.2.2.2.2.2.2.2.2.2.2.2.2.2) t) A
noncomputable abbrev rm_X10_pays : Room := { frames := 266, cells := 0, slots := 0, locals := 8782 }
section S_X10_pays
variable {p : Program} {l : Launch} {e : Env} {s : State} {m : MethodId} {args : Array Value} {below : List Frame} {meth : Method} {c : Code} {dC : Nat → ClassId} {dI : Nat → Nat → Nat} {cI cC cZ cB cJ : ClassId} {A : Nat → Prop} {a_m oJ uD dY iJ lJ jQ jR jW jK pJ bM aY jO gR gY mK jZ iY bG mJ jB mQ lY eJ bY : Nat} {bW aG jG aJ aB bU bT gJ bL bR bO mY pW : Int32} {rD m_x jA pY rW oY pR pX rG rQ : Nat → Int32} {post : Int32 → Int32 → Int32 → Nat → Int32 → Int32 → Int32 → Int32 → Int32 → Int32 → Int32 → Int32 → Int32 → Int32 → (Nat → Int32) → (Nat → Int32) → Prop}
noncomputable def ws_X10_pays_109 (post : Int32 → Int32 → Int32 → Nat → Int32 → Int32 → Int32 → Int32 → Int32 → Int32 → Int32 → Int32 → Int32 → Int32 → (Nat → Int32) → (Nat → Int32) → Prop) (bW aG bU : Int32) (rD m_x jA pY rW oY pR pX rG rQ : Nat → Int32) (x1 x2 x3 k1 bQ dG : Int32) (jY : Nat) (m_length qG uW eY dN aR aE bJ aW dU : Int32) (uM tD : Nat → Int32) : Prop := wp_X10_tell (fun yY aA1 => wp_X10_tell (fun xW zG => wp_J6_bitCount_0f7a4 (fun r_12 => ∀ v_13 : Int32, v_13 = r_12 + (pX (4 : Int32).toNatClampNeg) → ∀ v_14 : Int32, v_14 = v_13 - 1 → ¬ pX (4 : Int32).toNatClampNeg = 0 ∧ (∀ v_15 : Int32, v_15 = v_14 / (pX (4 : Int32).toNatClampNeg) → wp_X10_downOf (fun r_16 => ∀ v_17 : Int32, v_17 = v_15 * r_16 → wp_X10_tell (fun aGE m_row_19 => ∀ v_20 : Int32, v_20 = rD (16 : Int32).toNatClampNeg → wp_X10_worthOfAll (fun r_21 => post r_21 aGE dG jY m_length qG uW eY dN aR aE bJ aW dU m_row_19 tD) x2 v_20 bW pY) v_17 xW zG) x1 pR)) x2) x3 yY aA1) k1 bQ uM
set_option maxHeartbeats 4000000 in
set_option maxRecDepth 100000 in
theorem ks_X10_pays_109 (C0 : gc cX10_pays (some .int) 5 RX10 (dC, dI) (tyl cI cC cZ cB cJ) A p s m args meth c) : ∀ (x1 x2 x3 k1 bQ dG : Int32) (jY : Nat) (m_length qG uW eY dN aR aE bJ aW dU : Int32) (uM tD : Nat → Int32) (H : Heap) (locs : List Loc) (ls : Array Slot), (ws_X10_pays_109 post bW aG bU rD m_x jA pY rW oY pR pX rG rQ) x1 x2 x3 k1 bQ dG jY m_length qG uW eY dN aR aE bJ aW dU uM tD → va_P (dC, dI) classes (wd_X10_pays cI cC cZ cB cJ a_m oJ uD dY iJ lJ jQ jR jW jK pJ bM aY jO gR gY mK jZ iY bG mJ jB mQ lY eJ bY bW aG jG bQ dG jY m_length qG uW eY aJ aB bU dN aR aE bJ aW bT gJ dU bL bR bO mY pW rD m_x jA pY rW oY pR pX rG uM rQ tD) H → va_D A (wd_X10_pays cI cC cZ cB cJ a_m oJ uD dY iJ lJ jQ jR jW jK pJ bM aY jO gR gY mK jZ iY bG mJ jB mQ lY eJ bY bW aG jG bQ dG jY m_length qG uW eY aJ aB bU dN aR aE bJ aW bT gJ dU bL bR bO mY pW rD m_x jA pY rW oY pR pX rG uM rQ tD) → va_S A s.heap H locs → lv_has ls 5 [(0, .ref a_m), (1, .int x1), (2, .int x2), (3, .int x3)] → W p l e rm_X10_pays s m args below meth c H locs 0 0 (MQ below (q_X10_pays dC dI cI cC cZ cB cJ A a_m oJ uD dY iJ lJ jQ jR jW jK pJ bM aY jO gR gY mK jZ iY bG mJ jB mQ lY eJ bY bW aG jG aJ aB bU bT gJ bL bR bO mY pW rD m_x jA pY rW oY pR pX rG rQ post) args s 0 0 A) (F0 m 109 ls [.int k1, .ref a_m]) := by
  obtain ⟨hx, hb, hr, hml, hown, hts, hlocks, hA, hK, hN, tL, tM, hZL, hTL, hZM, hTM, hZX⟩ := id C0
  intro x1 x2 x3 k1 bQ dG jY m_length qG uW eY dN aR aE bJ aW dU uM tD H locs ls hp hP hD hS hl
  unfold ws_X10_pays_109 at hp
  have hm := mgk (wc := (wd_X10_tell cI cC cZ cB cJ a_m oJ uD dY iJ lJ jQ jR jW jK pJ bM aY jO gR gY mK jZ iY bG mJ jB mQ lY eJ bY bW aG jG bQ dG jY m_length qG uW eY aJ aB bU dN aR aE bJ aW bT gJ dU bL bR bO mY pW uM)) hP aJP 13 rfl rfl rfl
  refine g_callv hP hD hS hA (mixT aJP) (mixF aJP) hm.1 hm.2 (nd_F _) (dis_g _) (g_runV (As := [.int k1]) (rest := []) C0 hP hD hS (mixT aJP) hm.1 (nd_T _) 0 10 rfl rfl (c_X10_tell l dC dI cI cC cZ cB cJ a_m oJ uD dY iJ lJ jQ jR jW jK pJ bM aY jO gR gY mK jZ iY bG mJ jB mQ lY eJ bY H.size k1 bW aG jG bQ dG jY m_length qG uW eY aJ aB bU dN aR aE bJ aW bT gJ dU bL bR bO mY pW uM _ hp) q_849 q_852 q_850 q_851 q_642 h_X10_tell rfl rfl ⟨Nat.le_of_ble_eq_true rfl, Nat.le_of_ble_eq_true rfl⟩ rfl rfl hl.1 rfl (lv_room (Nat.le_of_ble_eq_true rfl)) eX10_pays_82.2.2.2.2.2.2.2.2.2.2.2.2.2.2.2 ⟨Nat.zero_le _, Nat.zero_le _⟩) (fun u H locs hp hP hD hS => ?_)
  obtain ⟨yY, aA1⟩ := u
  have hPD := PDm (ws' := (wd_X10_pays cI cC cZ cB cJ a_m oJ uD dY iJ lJ jQ jR jW jK pJ bM aY jO gR gY mK jZ iY bG mJ jB mQ lY eJ bY bW aG jG yY dG jY m_length qG uW eY aJ aB bU dN aR aE bJ aW bT gJ dU bL bR bO mY pW rD m_x jA pY rW oY pR pX rG aA1 rQ tD)) hP hD 13 rfl rfl rfl
  have hP := hPD.1
  have hD := hPD.2
  refine lv_aload_n hx hb eX10_pays_112.1 rfl (lv_at hl 0 rfl) ?_
  refine lv_iload_n hx hb eX10_pays_112.2.1 rfl (lv_at hl 3 rfl) ?_
  have hm := mgk (wc := (wd_X10_tell cI cC cZ cB cJ a_m oJ uD dY iJ lJ jQ jR jW jK pJ bM aY jO gR gY mK jZ iY bG mJ jB mQ lY eJ bY bW aG jG yY dG jY m_length qG uW eY aJ aB bU dN aR aE bJ aW bT gJ dU bL bR bO mY pW aA1)) hP aJP 13 rfl rfl rfl
  refine g_callv hP hD hS hA (mixT aJP) (mixF aJP) hm.1 hm.2 (nd_F _) (dis_g _) (g_runV (As := [.int x3]) (rest := []) C0 hP hD hS (mixT aJP) hm.1 (nd_T _) 0 10 rfl rfl (c_X10_tell l dC dI cI cC cZ cB cJ a_m oJ uD dY iJ lJ jQ jR jW jK pJ bM aY jO gR gY mK jZ iY bG mJ jB mQ lY eJ bY H.size x3 bW aG jG yY dG jY m_length qG uW eY aJ aB bU dN aR aE bJ aW bT gJ dU bL bR bO mY pW aA1 _ hp) q_849 q_852 q_850 q_851 q_642 h_X10_tell rfl rfl ⟨Nat.le_of_ble_eq_true rfl, Nat.le_of_ble_eq_true rfl⟩ rfl rfl hl.1 rfl (lv_room (Nat.le_of_ble_eq_true rfl)) eX10_pays_112.2.2.1 ⟨Nat.zero_le _, Nat.zero_le _⟩) (fun u H locs hp hP hD hS => ?_)
  obtain ⟨xW, zG⟩ := u
  have hPD := PDm (ws' := (wd_X10_pays cI cC cZ cB cJ a_m oJ uD dY iJ lJ jQ jR jW jK pJ bM aY jO gR gY mK jZ iY bG mJ jB mQ lY eJ bY bW aG jG xW dG jY m_length qG uW eY aJ aB bU dN aR aE bJ aW bT gJ dU bL bR bO mY pW rD m_x jA pY rW oY pR pX rG zG rQ tD)) hP hD 13 rfl rfl rfl
  have hP := hPD.1
  have hD := hPD.2
  refine lv_aload_n hx hb eX10_pays_112.2.2.2.1 rfl (lv_at hl 0 rfl) ?_
  refine lv_iload_n hx hb eX10_pays_112.2.2.2.2.1 rfl (lv_at hl 2 rfl) ?_
  have hm := mgk (wc := (wd_J6_bitCount_0f7a4 cI cC cZ cB cJ)) hP aJQ 13 rfl rfl rfl
  refine g_calli hP hD hS hA (mixT aJQ) (mixF aJQ) hm.1 hm.2 (nd_F _) (dis_g _) (g_runS (As := [.int x2]) (rest := [.ref a_m]) C0 hP hD hS (mixT aJQ) hm.1 (nd_T _) (c_J6_bitCount_0f7a4 l dC dI cI cC cZ cB cJ H.size x2 _ hp) q_320 q_803 q_322 q_321 h_J6_bitCount_0f7a4 rfl rfl ⟨Nat.le_of_ble_eq_true rfl, Nat.le_of_ble_eq_true rfl⟩ rfl rfl hl.1 rfl (lv_room (Nat.le_of_ble_eq_true rfl)) eX10_pays_112.2.2.2.2.2.1 ⟨Nat.zero_le _, Nat.zero_le _⟩) (fun r_12 u H locs hp hP hD hS => ?_)
  have hPD := PDm (ws' := (wd_X10_pays cI cC cZ cB cJ a_m oJ uD dY iJ lJ jQ jR jW jK pJ bM aY jO gR gY mK jZ iY bG mJ jB mQ lY eJ bY bW aG jG xW dG jY m_length qG uW eY aJ aB bU dN aR aE bJ aW bT gJ dU bL bR bO mY pW rD m_x jA pY rW oY pR pX rG zG rQ tD)) hP hD 13 rfl rfl rfl
  have hP := hPD.1
  have hD := hPD.2
  refine lv_aload_n hx hb eX10_pays_112.2.2.2.2.2.2.1 rfl (lv_at hl 0 rfl) ?_
  refine va_get (D := (dC, dI)) (ci := 10) (v := .ref jW) (C := RX10) (T := TX10) (N := 51) hx hb hts i_X10 hown hK hP 0 rfl rfl 9 (Nat.le_of_ble_eq_true rfl) (hts _ q_765) (fun _ h9 => h9) rfl eX10_pays_112.2.2.2.2.2.2.2.1 ?_
  refine lv_iconst (v := 4) hx hb eX10_pays_112.2.2.2.2.2.2.2.2.1 ic_4 ?_
  refine va_iald hx hb hK hP 8 0 rfl rfl (g_in rfl) eX10_pays_112.2.2.2.2.2.2.2.2.2.1 ?_
  refine lv_iadd hx hb eX10_pays_112.2.2.2.2.2.2.2.2.2.2.1 ?_
  refine lv_topi (fun v_13 ev_13 => ?_)
  have hp := hp v_13 ev_13
  refine lv_iconst (v := 1) hx hb eX10_pays_112.2.2.2.2.2.2.2.2.2.2.2.1 ic_1 ?_
  refine lv_isub hx hb eX10_pays_112.2.2.2.2.2.2.2.2.2.2.2.2.1 ?_
  refine lv_topi (fun v_14 ev_14 => ?_)
  have hp := hp v_14 ev_14
  refine lv_aload_n hx hb eX10_pays_112.2.2.2.2.2.2.2.2.2.2.2.2.2.1 rfl (lv_at hl 0 rfl) ?_
  refine va_get (D := (dC, dI)) (ci := 10) (v := .ref jW) (C := RX10) (T := TX10) (N := 51) hx hb hts i_X10 hown hK hP 0 rfl rfl 9 (Nat.le_of_ble_eq_true rfl) (hts _ q_765) (fun _ h9 => h9) rfl eX10_pays_112.2.2.2.2.2.2.2.2.2.2.2.2.2.2.1 ?_
  refine lv_iconst (v := 4) hx hb eX10_pays_112.2.2.2.2.2.2.2.2.2.2.2.2.2.2.2 ic_4 ?_
  refine va_iald hx hb hK hP 8 0 rfl rfl (g_in rfl) eX10_pays_136.1 ?_
  have hne := hp.1
  have hp := hp.2
  refine lv_idiv hx hb eX10_pays_136.2.1 hne ?_
  refine lv_topi (fun v_15 ev_15 => ?_)
  have hp := hp v_15 ev_15
  refine lv_aload_n hx hb eX10_pays_136.2.2.1 rfl (lv_at hl 0 rfl) ?_
  refine lv_iload_n hx hb eX10_pays_136.2.2.2.1 rfl (lv_at hl 1 rfl) ?_
  have hm := mgk (wc := (wd_X10_downOf cI cC cZ cB cJ a_m oJ uD dY iJ lJ jQ jR jW jK pJ bM aY jO gR gY mK jZ iY bG mJ jB mQ lY eJ bY bW aG jG xW dG jY m_length qG uW eY aJ aB bU dN aR aE bJ aW bT gJ dU bL bR bO mY pW pR)) hP mk_277 13 rfl rfl rfl
  refine g_calli hP hD hS hA (mixT mk_277) (mixF mk_277) hm.1 hm.2 (nd_F _) (dis_g _) (g_runV (As := [.int x1]) (rest := [.int v_15, .ref a_m]) C0 hP hD hS (mixT mk_277) hm.1 (nd_T _) 0 10 rfl rfl (c_X10_downOf l dC dI cI cC cZ cB cJ a_m oJ uD dY iJ lJ jQ jR jW jK pJ bM aY jO gR gY mK jZ iY bG mJ jB mQ lY eJ bY H.size x1 bW aG jG xW dG jY m_length qG uW eY aJ aB bU dN aR aE bJ aW bT gJ dU bL bR bO mY pW pR _ hp) q_761 q_764 q_762 q_763 q_642 h_X10_downOf rfl rfl ⟨Nat.le_of_ble_eq_true rfl, Nat.le_of_ble_eq_true rfl⟩ rfl rfl hl.1 rfl (lv_room (Nat.le_of_ble_eq_true rfl)) eX10_pays_136.2.2.2.2.1 ⟨Nat.zero_le _, Nat.zero_le _⟩) (fun r_16 u H locs hp hP hD hS => ?_)
  have hPD := PDm (ws' := (wd_X10_pays cI cC cZ cB cJ a_m oJ uD dY iJ lJ jQ jR jW jK pJ bM aY jO gR gY mK jZ iY bG mJ jB mQ lY eJ bY bW aG jG xW dG jY m_length qG uW eY aJ aB bU dN aR aE bJ aW bT gJ dU bL bR bO mY pW rD m_x jA pY rW oY pR pX rG zG rQ tD)) hP hD 13 rfl rfl rfl
  have hP := hPD.1
  have hD := hPD.2
  refine lv_imul hx hb eX10_pays_136.2.2.2.2.2.1 ?_
  refine lv_topi (fun v_17 ev_17 => ?_)
  have hp := hp v_17 ev_17
  have hm := mgk (wc := (wd_X10_tell cI cC cZ cB cJ a_m oJ uD dY iJ lJ jQ jR jW jK pJ bM aY jO gR gY mK jZ iY bG mJ jB mQ lY eJ bY bW aG jG xW dG jY m_length qG uW eY aJ aB bU dN aR aE bJ aW bT gJ dU bL bR bO mY pW zG)) hP aJP 13 rfl rfl rfl
  refine g_callv hP hD hS hA (mixT aJP) (mixF aJP) hm.1 hm.2 (nd_F _) (dis_g _) (g_runV (As := [.int v_17]) (rest := []) C0 hP hD hS (mixT aJP) hm.1 (nd_T _) 0 10 rfl rfl (c_X10_tell l dC dI cI cC cZ cB cJ a_m oJ uD dY iJ lJ jQ jR jW jK pJ bM aY jO gR gY mK jZ iY bG mJ jB mQ lY eJ bY H.size v_17 bW aG jG xW dG jY m_length qG uW eY aJ aB bU dN aR aE bJ aW bT gJ dU bL bR bO mY pW zG _ hp) q_849 q_852 q_850 q_851 q_642 h_X10_tell rfl rfl ⟨Nat.le_of_ble_eq_true rfl, Nat.le_of_ble_eq_true rfl⟩ rfl rfl hl.1 rfl (lv_room (Nat.le_of_ble_eq_true rfl)) eX10_pays_136.2.2.2.2.2.2.1 ⟨Nat.zero_le _, Nat.zero_le _⟩) (fun u H locs hp hP hD hS => ?_)
  obtain ⟨aGE, m_row_19⟩ := u
  have hPD := PDm (ws' := (wd_X10_pays cI cC cZ cB cJ a_m oJ uD dY iJ lJ jQ jR jW jK pJ bM aY jO gR gY mK jZ iY bG mJ jB mQ lY eJ bY bW aG jG aGE dG jY m_length qG uW eY aJ aB bU dN aR aE bJ aW bT gJ dU bL bR bO mY pW rD m_x jA pY rW oY pR pX rG m_row_19 rQ tD)) hP hD 13 rfl rfl rfl
  have hP := hPD.1
  have hD := hPD.2
  refine lv_aload_n hx hb eX10_pays_136.2.2.2.2.2.2.2.1 rfl (lv_at hl 0 rfl) ?_
  refine lv_iload_n hx hb eX10_pays_136.2.2.2.2.2.2.2.2.1 rfl (lv_at hl 2 rfl) ?_
  refine lv_aload_n hx hb eX10_pays_136.2.2.2.2.2.2.2.2.2.1 rfl (lv_at hl 0 rfl) ?_
  refine va_get (D := (dC, dI)) (ci := 10) (v := .ref oJ) (C := RX10) (T := TX10) (N := 51) hx hb hts i_X10 hown hK hP 0 rfl rfl 0 (Nat.le_of_ble_eq_true rfl) (hts _ q_692) (fun _ h9 => h9) rfl eX10_pays_136.2.2.2.2.2.2.2.2.2.2.1 ?_
  refine lv_bipush (v := 16) hx hb eX10_pays_136.2.2.2.2.2.2.2.2.2.2.2.1 bp_16 ?_
  refine va_iald hx hb hK hP 1 0 rfl rfl (g_in rfl) eX10_pays_136.2.2.2.2.2.2.2.2.2.2.2.2.1 ?_
  refine lv_topi (fun v_20 ev_20 => ?_)
  have hp := hp v_20 ev_20
  have hm := mgk (wc := (wd_X10_worthOfAll cI cC cZ cB cJ a_m oJ uD dY iJ lJ jQ jR jW jK pJ bM aY jO gR gY mK jZ iY bG mJ jB mQ lY eJ bY bW aG jG aGE dG jY m_length qG uW eY aJ aB bU dN aR aE bJ aW bT gJ dU bL bR bO mY pW pY)) hP mk_278 13 rfl rfl rfl
  refine g_calli hP hD hS hA (mixT mk_278) (mixF mk_278) hm.1 hm.2 (nd_F _) (dis_g _) (g_runV (As := [.int x2, .int v_20]) (rest := []) C0 hP hD hS (mixT mk_278) hm.1 (nd_T _) 0 10 rfl rfl (c_X10_worthOfAll l dC dI cI cC cZ cB cJ a_m oJ uD dY iJ lJ jQ jR jW jK pJ bM aY jO gR gY mK jZ iY bG mJ jB mQ lY eJ bY H.size x2 v_20 bW aG jG aGE dG jY m_length qG uW eY aJ aB bU dN aR aE bJ aW bT gJ dU bL bR bO mY pW pY _ hp) q_865 q_868 q_866 q_867 q_642 h_X10_worthOfAll rfl rfl ⟨Nat.le_of_ble_eq_true rfl, Nat.le_of_ble_eq_true rfl⟩ rfl rfl hl.1 rfl (lv_room (Nat.le_of_ble_eq_true rfl)) eX10_pays_136.2.2.2.2.2.2.2.2.2.2.2.2.2.1 ⟨Nat.zero_le _, Nat.zero_le _⟩) (fun r_21 u H locs hp hP hD hS => ?_)
  have hPD := PDm (ws' := (wd_X10_pays cI cC cZ cB cJ a_m oJ uD dY iJ lJ jQ jR jW jK pJ bM aY jO gR gY mK jZ iY bG mJ jB mQ lY eJ bY bW aG jG aGE dG jY m_length qG uW eY aJ aB bU dN aR aE bJ aW bT gJ dU bL bR bO mY pW rD m_x jA pY rW oY pR pX rG m_row_19 rQ tD)) hP hD 13 rfl rfl rfl
  have hP := hPD.1
  have hD := hPD.2
  exact W.iret (v := r_21) hx hb hr (fun t ht hW => ⟨⟨r_21, (aGE, dG, jY, m_length, qG, uW, eY, dN, aR, aE, bJ, aW, dU, m_row_19, tD), rfl, hp, by rw [ht]; exact hP, va_K.moved hW.alike hK, hD⟩, hS.F ht⟩) hS.2.2 eX10_pays_136.2.2.2.2.2.2.2.2.2.2.2.2.2.2
noncomputable def ws_X10_pays_68 (post : Int32 → Int32 → Int32 → Nat → Int32 → Int32 → Int32 → Int32 → Int32 → Int32 → Int32 → Int32 → Int32 → Int32 → (Nat → Int32) → (Nat → Int32) → Prop) (K36 : Int32 → Int32 → Int32 → Int32 → Int32 → Int32 → Nat → Int32 → Int32 → Int32 → Int32 → Int32 → Int32 → Int32 → Int32 → Int32 → Int32 → (Nat → Int32) → (Nat → Int32) → Prop) (bW aG bU : Int32) (rD m_x jA pY rW oY pR pX rG rQ : Nat → Int32) (x1 x2 x4 k0 k1 bQ dG : Int32) (jY : Nat) (m_length qG uW eY dN aR aE bJ aW dU : Int32) (uM tD : Nat → Int32) : Prop := ∀ v_23 : Int32, v_23 = k0 + k1 → ∀ v_24 : Int32, v_24 = x4 + 1 → K36 x1 x2 v_23 v_24 bQ dG jY m_length qG uW eY dN aR aE bJ aW dU uM tD
set_option maxHeartbeats 4000000 in
set_option maxRecDepth 100000 in
theorem ks_X10_pays_68 (C0 : gc cX10_pays (some .int) 5 RX10 (dC, dI) (tyl cI cC cZ cB cJ) A p s m args meth c) {K36 : Int32 → Int32 → Int32 → Int32 → Int32 → Int32 → Nat → Int32 → Int32 → Int32 → Int32 → Int32 → Int32 → Int32 → Int32 → Int32 → Int32 → (Nat → Int32) → (Nat → Int32) → Prop} (hK36 : ∀ (x1 : Int32) (x2 : Int32) (x3 : Int32) (x4 : Int32) (bQ : Int32) (dG : Int32) (jY : Nat) (m_length : Int32) (qG : Int32) (uW : Int32) (eY : Int32) (dN : Int32) (aR : Int32) (aE : Int32) (bJ : Int32) (aW : Int32) (dU : Int32) (uM : Nat → Int32) (tD : Nat → Int32) (H : Heap) (locs : List Loc) (ls : Array Slot), K36 x1 x2 x3 x4 bQ dG jY m_length qG uW eY dN aR aE bJ aW dU uM tD → va_P (dC, dI) classes (wd_X10_pays cI cC cZ cB cJ a_m oJ uD dY iJ lJ jQ jR jW jK pJ bM aY jO gR gY mK jZ iY bG mJ jB mQ lY eJ bY bW aG jG bQ dG jY m_length qG uW eY aJ aB bU dN aR aE bJ aW bT gJ dU bL bR bO mY pW rD m_x jA pY rW oY pR pX rG uM rQ tD) H → va_D A (wd_X10_pays cI cC cZ cB cJ a_m oJ uD dY iJ lJ jQ jR jW jK pJ bM aY jO gR gY mK jZ iY bG mJ jB mQ lY eJ bY bW aG jG bQ dG jY m_length qG uW eY aJ aB bU dN aR aE bJ aW bT gJ dU bL bR bO mY pW rD m_x jA pY rW oY pR pX rG uM rQ tD) → va_S A s.heap H locs → lv_has ls 5 [(0, .ref a_m), (1, .int x1), (2, .int x2), (3, .int x3), (4, .int x4)] → W p l e rm_X10_pays s m args below meth c H locs 0 0 (MQ below (q_X10_pays dC dI cI cC cZ cB cJ A a_m oJ uD dY iJ lJ jQ jR jW jK pJ bM aY jO gR gY mK jZ iY bG mJ jB mQ lY eJ bY bW aG jG aJ aB bU bT gJ bL bR bO mY pW rD m_x jA pY rW oY pR pX rG rQ post) args s 0 0 A) (F0 m 36 ls [])) : ∀ (x1 x2 x4 k0 k1 bQ dG : Int32) (jY : Nat) (m_length qG uW eY dN aR aE bJ aW dU : Int32) (uM tD : Nat → Int32) (H : Heap) (locs : List Loc) (ls : Array Slot), (ws_X10_pays_68 post K36 bW aG bU rD m_x jA pY rW oY pR pX rG rQ) x1 x2 x4 k0 k1 bQ dG jY m_length qG uW eY dN aR aE bJ aW dU uM tD → va_P (dC, dI) classes (wd_X10_pays cI cC cZ cB cJ a_m oJ uD dY iJ lJ jQ jR jW jK pJ bM aY jO gR gY mK jZ iY bG mJ jB mQ lY eJ bY bW aG jG bQ dG jY m_length qG uW eY aJ aB bU dN aR aE bJ aW bT gJ dU bL bR bO mY pW rD m_x jA pY rW oY pR pX rG uM rQ tD) H → va_D A (wd_X10_pays cI cC cZ cB cJ a_m oJ uD dY iJ lJ jQ jR jW jK pJ bM aY jO gR gY mK jZ iY bG mJ jB mQ lY eJ bY bW aG jG bQ dG jY m_length qG uW eY aJ aB bU dN aR aE bJ aW bT gJ dU bL bR bO mY pW rD m_x jA pY rW oY pR pX rG uM rQ tD) → va_S A s.heap H locs → lv_has ls 5 [(0, .ref a_m), (1, .int x1), (2, .int x2), (4, .int x4)] → W p l e rm_X10_pays s m args below meth c H locs 0 0 (MQ below (q_X10_pays dC dI cI cC cZ cB cJ A a_m oJ uD dY iJ lJ jQ jR jW jK pJ bM aY jO gR gY mK jZ iY bG mJ jB mQ lY eJ bY bW aG jG aJ aB bU bT gJ bL bR bO mY pW rD m_x jA pY rW oY pR pX rG rQ post) args s 0 0 A) (F0 m 68 ls [.int k1, .int k0]) := by
  obtain ⟨hx, hb, hr, hml, hown, hts, hlocks, hA, hK, hN, tL, tM, hZL, hTL, hZM, hTM, hZX⟩ := id C0
  intro x1 x2 x4 k0 k1 bQ dG jY m_length qG uW eY dN aR aE bJ aW dU uM tD H locs ls hp hP hD hS hl
  unfold ws_X10_pays_68 at hp
  refine lv_iadd hx hb eX10_pays_55.2.2.2.2.2.2.2.2.1 ?_
  refine lv_topi (fun v_23 ev_23 => ?_)
  have hp := hp v_23 ev_23
  refine lv_istore_n (lv' := [(3, .int v_23), (0, .ref a_m), (1, .int x1), (2, .int x2), (4, .int x4)]) hx hb eX10_pays_55.2.2.2.2.2.2.2.2.2.1 rfl hl (by decide) rfl (fun ls hl => ?_)
  obtain ⟨v_24, ev_24⟩ : ∃ y : Int32, y = x4 + 1 := ⟨_, rfl⟩
  refine lv_iinc (v := v_24) (lv' := [(4, .int v_24), (3, .int v_23), (0, .ref a_m), (1, .int x1), (2, .int x2)]) hx hb eX10_pays_55.2.2.2.2.2.2.2.2.2.2.1 hl (k := 4) rfl (by rw [ev_24]; rfl) (by decide) rfl (fun ls hl => ?_)
  have hp := hp v_24 ev_24
  refine lv_goto (tgt := 36) hx hb eX10_pays_55.2.2.2.2.2.2.2.2.2.2.2.1 (by decide) ?_
  exact hK36 x1 x2 v_23 v_24 bQ dG jY m_length qG uW eY dN aR aE bJ aW dU uM tD H locs ls hp hP hD hS (lv_sub hl [2, 3, 4, 1, 0] rfl)
noncomputable def ws_X10_pays_36 (post : Int32 → Int32 → Int32 → Nat → Int32 → Int32 → Int32 → Int32 → Int32 → Int32 → Int32 → Int32 → Int32 → Int32 → (Nat → Int32) → (Nat → Int32) → Prop) (next : Int32 → Int32 → Int32 → Int32 → Int32 → Int32 → Nat → Int32 → Int32 → Int32 → Int32 → Int32 → Int32 → Int32 → Int32 → Int32 → Int32 → (Nat → Int32) → (Nat → Int32) → Prop) (bW aG bU : Int32) (rD m_x jA pY rW oY pR pX rG rQ : Nat → Int32) (x1 x2 x3 x4 bQ dG : Int32) (jY : Nat) (m_length qG uW eY dN aR aE bJ aW dU : Int32) (uM tD : Nat → Int32) : Prop := (bW ≤ x4 → ∀ v_5 : Int32, v_5 = rD (17 : Int32).toNatClampNeg → (¬ v_5 = x1 → ∀ v_6 : Int32, v_6 = rD (17 : Int32).toNatClampNeg → wp_X10_moveOf (fun r_7 => ws_X10_pays_109 post bW aG bU rD m_x jA pY rW oY pR pX rG rQ x1 x2 x3 r_7 0 dG jY m_length qG uW eY dN aR aE bJ aW dU uM tD) v_6 x1 oY pX) ∧ (v_5 = x1 → ws_X10_pays_109 post bW aG bU rD m_x jA pY rW oY pR pX rG rQ x1 x2 x3 0 0 dG jY m_length qG uW eY dN aR aE bJ aW dU uM tD)) ∧ (¬ bW ≤ x4 → wp_X10_has (fun r_22 => (r_22 = 0 → ws_X10_pays_68 post next bW aG bU rD m_x jA pY rW oY pR pX rG rQ x1 x2 x4 x3 0 bQ dG jY m_length qG uW eY dN aR aE bJ aW dU uM tD) ∧ (¬ r_22 = 0 → wp_X10_secondsOf (fun r_25 m_read_26 m_length_27 m_top_28 m_at_29 m_wrong_30 m_isAsked_31 aLm aGs m_askedHook_34 aLn => ws_X10_pays_68 post next bW aG bU rD m_x jA pY rW oY pR pX rG rQ x1 x2 x4 x3 r_25 bQ dG m_read_26 m_length_27 m_top_28 m_at_29 m_wrong_30 m_isAsked_31 aLm aGs m_askedHook_34 aLn dU uM tD) x4 x1 0 0 jY m_length qG uW eY bU dN aR aE bJ aW m_x jA pY oY pR rG rQ)) x2 x4)
noncomputable def wb_X10_pays_36 (post : Int32 → Int32 → Int32 → Nat → Int32 → Int32 → Int32 → Int32 → Int32 → Int32 → Int32 → Int32 → Int32 → Int32 → (Nat → Int32) → (Nat → Int32) → Prop) (bW aG bU : Int32) (rD m_x jA pY rW oY pR pX rG rQ : Nat → Int32) : Nat → Int32 → Int32 → Int32 → Int32 → Int32 → Int32 → Nat → Int32 → Int32 → Int32 → Int32 → Int32 → Int32 → Int32 → Int32 → Int32 → Int32 → (Nat → Int32) → (Nat → Int32) → Prop := fun n => Nat.rec (motive := fun _ => Int32 → Int32 → Int32 → Int32 → Int32 → Int32 → Nat → Int32 → Int32 → Int32 → Int32 → Int32 → Int32 → Int32 → Int32 → Int32 → Int32 → (Nat → Int32) → (Nat → Int32) → Prop) (fun _ _ _ _ _ _ _ _ _ _ _ _ _ _ _ _ _ _ _ => False) (fun _ ih => ws_X10_pays_36 post ih bW aG bU rD m_x jA pY rW oY pR pX rG rQ) n
set_option maxHeartbeats 4000000 in
set_option maxRecDepth 100000 in
theorem ks_X10_pays_36 (C0 : gc cX10_pays (some .int) 5 RX10 (dC, dI) (tyl cI cC cZ cB cJ) A p s m args meth c) {next : Int32 → Int32 → Int32 → Int32 → Int32 → Int32 → Nat → Int32 → Int32 → Int32 → Int32 → Int32 → Int32 → Int32 → Int32 → Int32 → Int32 → (Nat → Int32) → (Nat → Int32) → Prop} (hKn : ∀ (x1 : Int32) (x2 : Int32) (x3 : Int32) (x4 : Int32) (bQ : Int32) (dG : Int32) (jY : Nat) (m_length : Int32) (qG : Int32) (uW : Int32) (eY : Int32) (dN : Int32) (aR : Int32) (aE : Int32) (bJ : Int32) (aW : Int32) (dU : Int32) (uM : Nat → Int32) (tD : Nat → Int32) (H : Heap) (locs : List Loc) (ls : Array Slot), next x1 x2 x3 x4 bQ dG jY m_length qG uW eY dN aR aE bJ aW dU uM tD → va_P (dC, dI) classes (wd_X10_pays cI cC cZ cB cJ a_m oJ uD dY iJ lJ jQ jR jW jK pJ bM aY jO gR gY mK jZ iY bG mJ jB mQ lY eJ bY bW aG jG bQ dG jY m_length qG uW eY aJ aB bU dN aR aE bJ aW bT gJ dU bL bR bO mY pW rD m_x jA pY rW oY pR pX rG uM rQ tD) H → va_D A (wd_X10_pays cI cC cZ cB cJ a_m oJ uD dY iJ lJ jQ jR jW jK pJ bM aY jO gR gY mK jZ iY bG mJ jB mQ lY eJ bY bW aG jG bQ dG jY m_length qG uW eY aJ aB bU dN aR aE bJ aW bT gJ dU bL bR bO mY pW rD m_x jA pY rW oY pR pX rG uM rQ tD) → va_S A s.heap H locs → lv_has ls 5 [(0, .ref a_m), (1, .int x1), (2, .int x2), (3, .int x3), (4, .int x4)] → W p l e rm_X10_pays s m args below meth c H locs 0 0 (MQ below (q_X10_pays dC dI cI cC cZ cB cJ A a_m oJ uD dY iJ lJ jQ jR jW jK pJ bM aY jO gR gY mK jZ iY bG mJ jB mQ lY eJ bY bW aG jG aJ aB bU bT gJ bL bR bO mY pW rD m_x jA pY rW oY pR pX rG rQ post) args s 0 0 A) (F0 m 36 ls [])) : ∀ (x1 x2 x3 x4 bQ dG : Int32) (jY : Nat) (m_length qG uW eY dN aR aE bJ aW dU : Int32) (uM tD : Nat → Int32) (H : Heap) (locs : List Loc) (ls : Array Slot), (ws_X10_pays_36 post next bW aG bU rD m_x jA pY rW oY pR pX rG rQ) x1 x2 x3 x4 bQ dG jY m_length qG uW eY dN aR aE bJ aW dU uM tD → va_P (dC, dI) classes (wd_X10_pays cI cC cZ cB cJ a_m oJ uD dY iJ lJ jQ jR jW jK pJ bM aY jO gR gY mK jZ iY bG mJ jB mQ lY eJ bY bW aG jG bQ dG jY m_length qG uW eY aJ aB bU dN aR aE bJ aW bT gJ dU bL bR bO mY pW rD m_x jA pY rW oY pR pX rG uM rQ tD) H → va_D A (wd_X10_pays cI cC cZ cB cJ a_m oJ uD dY iJ lJ jQ jR jW jK pJ bM aY jO gR gY mK jZ iY bG mJ jB mQ lY eJ bY bW aG jG bQ dG jY m_length qG uW eY aJ aB bU dN aR aE bJ aW bT gJ dU bL bR bO mY pW rD m_x jA pY rW oY pR pX rG uM rQ tD) → va_S A s.heap H locs → lv_has ls 5 [(0, .ref a_m), (1, .int x1), (2, .int x2), (3, .int x3), (4, .int x4)] → W p l e rm_X10_pays s m args below meth c H locs 0 0 (MQ below (q_X10_pays dC dI cI cC cZ cB cJ A a_m oJ uD dY iJ lJ jQ jR jW jK pJ bM aY jO gR gY mK jZ iY bG mJ jB mQ lY eJ bY bW aG jG aJ aB bU bT gJ bL bR bO mY pW rD m_x jA pY rW oY pR pX rG rQ post) args s 0 0 A) (F0 m 36 ls []) := by
  obtain ⟨hx, hb, hr, hml, hown, hts, hlocks, hA, hK, hN, tL, tM, hZL, hTL, hZM, hTM, hZX⟩ := id C0
  intro x1 x2 x3 x4 bQ dG jY m_length qG uW eY dN aR aE bJ aW dU uM tD H locs ls hp hP hD hS hl
  unfold ws_X10_pays_36 at hp
  refine lv_iload hx hb eX10_pays_28.2.2.2.2.2.2.2.1 (lv_at hl 4 rfl) ?_
  refine lv_aload_n hx hb eX10_pays_28.2.2.2.2.2.2.2.2.1 rfl (lv_at hl 0 rfl) ?_
  refine va_get (D := (dC, dI)) (ci := 10) (v := .int bW) (C := RX10) (T := TX10) (N := 51) hx hb hts i_X10 hown hK hP 0 rfl rfl 1 (Nat.le_of_ble_eq_true rfl) (hts _ q_677) (fun _ h9 => h9) rfl eX10_pays_28.2.2.2.2.2.2.2.2.2.1 ?_
  refine lv_icmp_ge (tgt := 76) hx hb eX10_pays_28.2.2.2.2.2.2.2.2.2.2.1 (by decide) (fun hc => ?_) (fun hc => ?_)
  · have hp := hp.1 hc
    refine lv_aload_n hx hb eX10_pays_55.2.2.2.2.2.2.2.2.2.2.2.2.1 rfl (lv_at hl 0 rfl) ?_
    refine lv_iconst (v := 0) hx hb eX10_pays_55.2.2.2.2.2.2.2.2.2.2.2.2.2.1 ic_0 ?_
    refine va_put (D := (dC, dI)) (ci := 10) (v := .int 0) (ty := .int) (C := RX10) (T := TX10) (N := 51) hx hb hts i_X10 tyX10 tyX10_ok nmX10 hown hK hP hD hS 0 rfl rfl 13 (Nat.le_of_ble_eq_true rfl) (hts _ q_847) (fun _ h9 => h9) rfl (tyX10_ok 13 (Nat.le_of_ble_eq_true rfl)) rfl rfl (Nat.le_of_ble_eq_true rfl) eX10_pays_55.2.2.2.2.2.2.2.2.2.2.2.2.2.2.1 (fun H locs hP hD hS => ?_)
    have hP : va_P (dC, dI) classes (wd_X10_pays cI cC cZ cB cJ a_m oJ uD dY iJ lJ jQ jR jW jK pJ bM aY jO gR gY mK jZ iY bG mJ jB mQ lY eJ bY bW aG jG 0 dG jY m_length qG uW eY aJ aB bU dN aR aE bJ aW bT gJ dU bL bR bO mY pW rD m_x jA pY rW oY pR pX rG uM rQ tD) H := hP
    have hD : va_D A (wd_X10_pays cI cC cZ cB cJ a_m oJ uD dY iJ lJ jQ jR jW jK pJ bM aY jO gR gY mK jZ iY bG mJ jB mQ lY eJ bY bW aG jG 0 dG jY m_length qG uW eY aJ aB bU dN aR aE bJ aW bT gJ dU bL bR bO mY pW rD m_x jA pY rW oY pR pX rG uM rQ tD) := hD
    refine lv_aload_n hx hb eX10_pays_55.2.2.2.2.2.2.2.2.2.2.2.2.2.2.2 rfl (lv_at hl 0 rfl) ?_
    refine lv_aload_n hx hb eX10_pays_82.1 rfl (lv_at hl 0 rfl) ?_
    refine va_get (D := (dC, dI)) (ci := 10) (v := .ref oJ) (C := RX10) (T := TX10) (N := 51) hx hb hts i_X10 hown hK hP 0 rfl rfl 0 (Nat.le_of_ble_eq_true rfl) (hts _ q_692) (fun _ h9 => h9) rfl eX10_pays_82.2.1 ?_
    refine lv_bipush (v := 17) hx hb eX10_pays_82.2.2.1 bp_17 ?_
    refine va_iald hx hb hK hP 1 0 rfl rfl (g_in rfl) eX10_pays_82.2.2.2.1 ?_
    refine lv_topi (fun v_5 ev_5 => ?_)
    have hp := hp v_5 ev_5
    refine lv_iload_n hx hb eX10_pays_82.2.2.2.2.1 rfl (lv_at hl 1 rfl) ?_
    refine lv_icmp_ne (tgt := 97) hx hb eX10_pays_82.2.2.2.2.2.1 (by decide) (fun hc => ?_) (fun hc => ?_)
    · have hp := hp.1 hc
      refine lv_aload_n hx hb eX10_pays_82.2.2.2.2.2.2.2.2.1 rfl (lv_at hl 0 rfl) ?_
      refine lv_aload_n hx hb eX10_pays_82.2.2.2.2.2.2.2.2.2.1 rfl (lv_at hl 0 rfl) ?_
      refine va_get (D := (dC, dI)) (ci := 10) (v := .ref oJ) (C := RX10) (T := TX10) (N := 51) hx hb hts i_X10 hown hK hP 0 rfl rfl 0 (Nat.le_of_ble_eq_true rfl) (hts _ q_692) (fun _ h9 => h9) rfl eX10_pays_82.2.2.2.2.2.2.2.2.2.2.1 ?_
      refine lv_bipush (v := 17) hx hb eX10_pays_82.2.2.2.2.2.2.2.2.2.2.2.1 bp_17 ?_
      refine va_iald hx hb hK hP 1 0 rfl rfl (g_in rfl) eX10_pays_82.2.2.2.2.2.2.2.2.2.2.2.2.1 ?_
      refine lv_topi (fun v_6 ev_6 => ?_)
      have hp := hp v_6 ev_6
      refine lv_iload_n hx hb eX10_pays_82.2.2.2.2.2.2.2.2.2.2.2.2.2.1 rfl (lv_at hl 1 rfl) ?_
      have hm := mgk (wc := (wd_X10_moveOf cI cC cZ cB cJ a_m oJ uD dY iJ lJ jQ jR jW jK pJ bM aY jO gR gY mK jZ iY bG mJ jB mQ lY eJ bY bW aG jG 0 dG jY m_length qG uW eY aJ aB bU dN aR aE bJ aW bT gJ dU bL bR bO mY pW oY pX)) hP mk_279 13 rfl rfl rfl
      refine g_calli hP hD hS hA (mixT mk_279) (mixF mk_279) hm.1 hm.2 (nd_F _) (dis_g _) (g_runV (As := [.int v_6, .int x1]) (rest := [.ref a_m]) C0 hP hD hS (mixT mk_279) hm.1 (nd_T _) 0 10 rfl rfl (c_X10_moveOf l dC dI cI cC cZ cB cJ a_m oJ uD dY iJ lJ jQ jR jW jK pJ bM aY jO gR gY mK jZ iY bG mJ jB mQ lY eJ bY H.size v_6 x1 bW aG jG 0 dG jY m_length qG uW eY aJ aB bU dN aR aE bJ aW bT gJ dU bL bR bO mY pW oY pX _ hp) q_771 q_774 q_772 q_773 q_642 h_X10_moveOf rfl rfl ⟨Nat.le_of_ble_eq_true rfl, Nat.le_of_ble_eq_true rfl⟩ rfl rfl hl.1 rfl (lv_room (Nat.le_of_ble_eq_true rfl)) eX10_pays_82.2.2.2.2.2.2.2.2.2.2.2.2.2.2.1 ⟨Nat.zero_le _, Nat.zero_le _⟩) (fun r_7 u H locs hp hP hD hS => ?_)
      have hPD := PDm (ws' := (wd_X10_pays cI cC cZ cB cJ a_m oJ uD dY iJ lJ jQ jR jW jK pJ bM aY jO gR gY mK jZ iY bG mJ jB mQ lY eJ bY bW aG jG 0 dG jY m_length qG uW eY aJ aB bU dN aR aE bJ aW bT gJ dU bL bR bO mY pW rD m_x jA pY rW oY pR pX rG uM rQ tD)) hP hD 13 rfl rfl rfl
      have hP := hPD.1
      have hD := hPD.2
      exact ks_X10_pays_109 C0 x1 x2 x3 r_7 0 dG jY m_length qG uW eY dN aR aE bJ aW dU uM tD H locs ls hp hP hD hS (lv_sub hl [0, 1, 2, 3] rfl)
    · have hp := hp.2 hc
      refine lv_iconst (v := 0) hx hb eX10_pays_82.2.2.2.2.2.2.1 ic_0 ?_
      refine lv_goto (tgt := 109) hx hb eX10_pays_82.2.2.2.2.2.2.2.1 (by decide) ?_
      exact ks_X10_pays_109 C0 x1 x2 x3 0 0 dG jY m_length qG uW eY dN aR aE bJ aW dU uM tD H locs ls hp hP hD hS (lv_sub hl [0, 1, 2, 3] rfl)
  · have hp := hp.2 hc
    refine lv_iload_n hx hb eX10_pays_28.2.2.2.2.2.2.2.2.2.2.2.1 rfl (lv_at hl 3 rfl) ?_
    refine lv_iload_n hx hb eX10_pays_28.2.2.2.2.2.2.2.2.2.2.2.2.1 rfl (lv_at hl 2 rfl) ?_
    refine lv_iload hx hb eX10_pays_28.2.2.2.2.2.2.2.2.2.2.2.2.2.1 (lv_at hl 4 rfl) ?_
    have hm := mgk (wc := (wd_X10_has cI cC cZ cB cJ)) hP aJQ 13 rfl rfl rfl
    refine g_calli hP hD hS hA (mixT aJQ) (mixF aJQ) hm.1 hm.2 (nd_F _) (dis_g _) (g_runS (As := [.int x2, .int x4]) (rest := [.int x3]) C0 hP hD hS (mixT aJQ) hm.1 (nd_T _) (c_X10_has l dC dI cI cC cZ cB cJ H.size x2 x4 _ hp) q_734 q_736 q_735 q_642 h_X10_has rfl rfl ⟨Nat.le_of_ble_eq_true rfl, Nat.le_of_ble_eq_true rfl⟩ rfl rfl hl.1 rfl (lv_room (Nat.le_of_ble_eq_true rfl)) eX10_pays_28.2.2.2.2.2.2.2.2.2.2.2.2.2.2.1 ⟨Nat.zero_le _, Nat.zero_le _⟩) (fun r_22 u H locs hp hP hD hS => ?_)
    have hPD := PDm (ws' := (wd_X10_pays cI cC cZ cB cJ a_m oJ uD dY iJ lJ jQ jR jW jK pJ bM aY jO gR gY mK jZ iY bG mJ jB mQ lY eJ bY bW aG jG bQ dG jY m_length qG uW eY aJ aB bU dN aR aE bJ aW bT gJ dU bL bR bO mY pW rD m_x jA pY rW oY pR pX rG uM rQ tD)) hP hD 13 rfl rfl rfl
    have hP := hPD.1
    have hD := hPD.2
    refine lv_if_eq (tgt := 67) hx hb eX10_pays_28.2.2.2.2.2.2.2.2.2.2.2.2.2.2.2 (by decide) (fun hc => ?_) (fun hc => ?_)
    · have hp := hp.1 hc
      refine lv_iconst (v := 0) hx hb eX10_pays_55.2.2.2.2.2.2.2.1 ic_0 ?_
      exact ks_X10_pays_68 C0 hKn x1 x2 x4 x3 0 bQ dG jY m_length qG uW eY dN aR aE bJ aW dU uM tD H locs ls hp hP hD hS (lv_sub hl [0, 1, 2, 4] rfl)
    · have hp := hp.2 hc
      refine lv_aload_n hx hb eX10_pays_55.1 rfl (lv_at hl 0 rfl) ?_
      refine lv_iload hx hb eX10_pays_55.2.1 (lv_at hl 4 rfl) ?_
      refine lv_iload_n hx hb eX10_pays_55.2.2.1 rfl (lv_at hl 1 rfl) ?_
      refine lv_iconst (v := 0) hx hb eX10_pays_55.2.2.2.1 ic_0 ?_
      refine lv_iconst (v := 0) hx hb eX10_pays_55.2.2.2.2.1 ic_0 ?_
      have hm := mgk (wc := (wd_X10_secondsOf cI cC cZ cB cJ a_m oJ uD dY iJ lJ jQ jR jW jK pJ bM aY jO gR gY mK jZ iY bG mJ jB mQ lY eJ bY bW aG jG bQ dG jY m_length qG uW eY aJ aB bU dN aR aE bJ aW bT gJ dU bL bR bO mY pW m_x jA pY oY pR rG rQ)) hP mk_280 13 rfl rfl rfl
      refine g_calli hP hD hS hA (mixT mk_280) (mixF mk_280) hm.1 hm.2 (nd_F _) (dis_g _) (g_runV (As := [.int x4, .int x1, .int 0, .int 0]) (rest := [.int x3]) C0 hP hD hS (mixT mk_280) hm.1 (nd_T _) 0 10 rfl rfl (c_X10_secondsOf l dC dI cI cC cZ cB cJ a_m oJ uD dY iJ lJ jQ jR jW jK pJ bM aY jO gR gY mK jZ iY bG mJ jB mQ lY eJ bY H.size x4 x1 0 0 bW aG jG bQ dG jY m_length qG uW eY aJ aB bU dN aR aE bJ aW bT gJ dU bL bR bO mY pW m_x jA pY oY pR rG rQ _ hp) q_804 q_807 q_805 q_806 q_642 h_X10_secondsOf rfl rfl ⟨Nat.le_of_ble_eq_true rfl, Nat.le_of_ble_eq_true rfl⟩ rfl rfl hl.1 rfl (lv_room (Nat.le_of_ble_eq_true rfl)) eX10_pays_55.2.2.2.2.2.1 ⟨Nat.zero_le _, Nat.zero_le _⟩) (fun r_25 u H locs hp hP hD hS => ?_)
      obtain ⟨m_read_26, m_length_27, m_top_28, m_at_29, m_wrong_30, m_isAsked_31, aLm, aGs, m_askedHook_34, aLn⟩ := u
      have hPD := PDm (ws' := (wd_X10_pays cI cC cZ cB cJ a_m oJ uD dY iJ lJ jQ jR jW jK pJ bM aY jO gR gY mK jZ iY bG mJ jB mQ lY eJ bY bW aG jG bQ dG m_read_26 m_length_27 m_top_28 m_at_29 m_wrong_30 aJ aB bU m_isAsked_31 aLm aGs m_askedHook_34 aLn bT gJ dU bL bR bO mY pW rD m_x jA pY rW oY pR pX rG uM rQ tD)) hP hD 13 rfl rfl rfl
      have hP := hPD.1
      have hD := hPD.2
      refine lv_goto (tgt := 68) hx hb eX10_pays_55.2.2.2.2.2.2.1 (by decide) ?_
      exact ks_X10_pays_68 C0 hKn x1 x2 x4 x3 r_25 bQ dG m_read_26 m_length_27 m_top_28 m_at_29 m_wrong_30 m_isAsked_31 aLm aGs m_askedHook_34 aLn dU uM tD H locs ls hp hP hD hS (lv_sub hl [0, 1, 2, 4] rfl)
set_option maxHeartbeats 4000000 in
set_option maxRecDepth 100000 in
theorem kb_X10_pays_36 (C0 : gc cX10_pays (some .int) 5 RX10 (dC, dI) (tyl cI cC cZ cB cJ) A p s m args meth c) : ∀ (n : Nat), ∀ (x1 x2 x3 x4 bQ dG : Int32) (jY : Nat) (m_length qG uW eY dN aR aE bJ aW dU : Int32) (uM tD : Nat → Int32) (H : Heap) (locs : List Loc) (ls : Array Slot), (wb_X10_pays_36 post bW aG bU rD m_x jA pY rW oY pR pX rG rQ n) x1 x2 x3 x4 bQ dG jY m_length qG uW eY dN aR aE bJ aW dU uM tD → va_P (dC, dI) classes (wd_X10_pays cI cC cZ cB cJ a_m oJ uD dY iJ lJ jQ jR jW jK pJ bM aY jO gR gY mK jZ iY bG mJ jB mQ lY eJ bY bW aG jG bQ dG jY m_length qG uW eY aJ aB bU dN aR aE bJ aW bT gJ dU bL bR bO mY pW rD m_x jA pY rW oY pR pX rG uM rQ tD) H → va_D A (wd_X10_pays cI cC cZ cB cJ a_m oJ uD dY iJ lJ jQ jR jW jK pJ bM aY jO gR gY mK jZ iY bG mJ jB mQ lY eJ bY bW aG jG bQ dG jY m_length qG uW eY aJ aB bU dN aR aE bJ aW bT gJ dU bL bR bO mY pW rD m_x jA pY rW oY pR pX rG uM rQ tD) → va_S A s.heap H locs → lv_has ls 5 [(0, .ref a_m), (1, .int x1), (2, .int x2), (3, .int x3), (4, .int x4)] → W p l e rm_X10_pays s m args below meth c H locs 0 0 (MQ below (q_X10_pays dC dI cI cC cZ cB cJ A a_m oJ uD dY iJ lJ jQ jR jW jK pJ bM aY jO gR gY mK jZ iY bG mJ jB mQ lY eJ bY bW aG jG aJ aB bU bT gJ bL bR bO mY pW rD m_x jA pY rW oY pR pX rG rQ post) args s 0 0 A) (F0 m 36 ls []) := by
  intro n
  induction n with
  | zero =>
    intro x1 x2 x3 x4 bQ dG jY m_length qG uW eY dN aR aE bJ aW dU uM tD H locs ls hp
    exact False.elim hp
  | succ n ih =>
    intro x1 x2 x3 x4 bQ dG jY m_length qG uW eY dN aR aE bJ aW dU uM tD H locs ls hp
    exact ks_X10_pays_36 C0 ih x1 x2 x3 x4 bQ dG jY m_length qG uW eY dN aR aE bJ aW dU uM tD H locs ls hp
end S_X10_pays
noncomputable def wp_X10_pays (post : Int32 → Int32 → Int32 → Nat → Int32 → Int32 → Int32 → Int32 → Int32 → Int32 → Int32 → Int32 → Int32 → Int32 → (Nat → Int32) → (Nat → Int32) → Prop) (p0 bW aG bQ dG : Int32) (jY : Nat) (m_length qG uW eY bU dN aR aE bJ aW dU : Int32) (rD m_x jA pY rW oY pR pX rG uM rQ tD : Nat → Int32) : Prop := wp_X10_isStanding (fun r_1 => (¬ r_1 = 0 → wp_X10_layHands (fun xY zM => vp_in p0 8 ∧ (∀ v_4 : Int32, v_4 = xY &&& (zM p0.toNatClampNeg) → ∃ n : Nat, wb_X10_pays_36 post bW aG bU rD m_x jA pY rW oY pR pX rG rQ n p0 v_4 0 0 bQ 0 jY m_length qG uW eY dN aR aE bJ aW xY uM zM)) bW aG dU rD m_x jA rW oY pR pX tD) ∧ (r_1 = 0 → post (-1) bQ 0 jY m_length qG uW eY dN aR aE bJ aW dU uM tD)) p0 aG
set_option maxHeartbeats 4000000 in
set_option maxRecDepth 100000 in
theorem c_X10_pays (l : Launch) (dC : Nat → ClassId) (dI : Nat → Nat → Nat) (cI cC cZ cB cJ : ClassId) (a_m oJ uD dY iJ lJ jQ jR jW jK pJ bM aY jO gR gY mK jZ iY bG mJ jB mQ lY eJ bY sz : Nat) (p0 bW aG jG bQ dG : Int32) (jY : Nat) (m_length qG uW eY aJ aB bU dN aR aE bJ aW bT gJ dU bL bR bO mY pW : Int32) (rD m_x jA pY rW oY pR pX rG uM rQ tD : Nat → Int32) (post : Int32 → Int32 → Int32 → Nat → Int32 → Int32 → Int32 → Int32 → Int32 → Int32 → Int32 → Int32 → Int32 → Int32 → (Nat → Int32) → (Nat → Int32) → Prop) (hw : wp_X10_pays post p0 bW aG bQ dG jY m_length qG uW eY bU dN aR aE bJ aW dU rD m_x jA pY rW oY pR pX rG uM rQ tD) : Met l yX10_pays (gw yX10_pays cX10_pays 5 (some .int)) rm_X10_pays (va_Pc [.ref a_m, .int p0] (gPre (dC, dI) (tyl cI cC cZ cB cJ) (wd_X10_pays cI cC cZ cB cJ a_m oJ uD dY iJ lJ jQ jR jW jK pJ bM aY jO gR gY mK jZ iY bG mJ jB mQ lY eJ bY bW aG jG bQ dG jY m_length qG uW eY aJ aB bU dN aR aE bJ aW bT gJ dU bL bR bO mY pW rD m_x jA pY rW oY pR pX rG uM rQ tD) sz)) (q_X10_pays dC dI cI cC cZ cB cJ (va_A (wd_X10_pays cI cC cZ cB cJ a_m oJ uD dY iJ lJ jQ jR jW jK pJ bM aY jO gR gY mK jZ iY bG mJ jB mQ lY eJ bY bW aG jG bQ dG jY m_length qG uW eY aJ aB bU dN aR aE bJ aW bT gJ dU bL bR bO mY pW rD m_x jA pY rW oY pR pX rG uM rQ tD) sz) a_m oJ uD dY iJ lJ jQ jR jW jK pJ bM aY jO gR gY mK jZ iY bG mJ jB mQ lY eJ bY bW aG jG aJ aB bU bT gJ bL bR bO mY pW rD m_x jA pY rW oY pR pX rG rQ post) 0 0 (va_A (wd_X10_pays cI cC cZ cB cJ a_m oJ uD dY iJ lJ jQ jR jW jK pJ bM aY jO gR gY mK jZ iY bG mJ jB mQ lY eJ bY bW aG jG bQ dG jY m_length qG uW eY aJ aB bU dN aR aE bJ aW bT gJ dU bL bR bO mY pW rD m_x jA pY rW oY pR pX rG uM rQ tD) sz) := by
  refine g_enter (own := RX10) (dC, dI) (tyl cI cC cZ cB cJ) (wd_X10_pays cI cC cZ cB cJ a_m oJ uD dY iJ lJ jQ jR jW jK pJ bM aY jO gR gY mK jZ iY bG mJ jB mQ lY eJ bY bW aG jG bQ dG jY m_length qG uW eY aJ aB bU dN aR aE bJ aW bT gJ dU bL bR bO mY pW rD m_x jA pY rW oY pR pX rG uM rQ tD) sz [.ref a_m, .int p0] (fun A => q_X10_pays dC dI cI cC cZ cB cJ A a_m oJ uD dY iJ lJ jQ jR jW jK pJ bM aY jO gR gY mK jZ iY bG mJ jB mQ lY eJ bY bW aG jG aJ aB bU bT gJ bL bR bO mY pW rD m_x jA pY rW oY pR pX rG rQ post) pn_RX10 rfl (Nat.le_of_ble_eq_true rfl) ?_
  intro p e s m args below meth c A H locs ls C0 hP hD hS hl
  have hl : lv_has ls 5 [(0, .ref a_m), (1, .int p0)] := hl
  obtain ⟨hx, hb, hr, hml, hown, hts, hlocks, hA, hK, hN, tL, tM, hZL, hTL, hZM, hTM, hZX⟩ := id C0
  have hp := hw
  unfold wp_X10_pays at hp
  refine lv_aload_n hx hb eX10_pays_0.1 rfl (lv_at hl 0 rfl) ?_
  refine lv_iconst (v := 0) hx hb eX10_pays_0.2.1 ic_0 ?_
  refine va_put (D := (dC, dI)) (ci := 10) (v := .int 0) (ty := .int) (C := RX10) (T := TX10) (N := 51) hx hb hts i_X10 tyX10 tyX10_ok nmX10 hown hK hP hD hS 0 rfl rfl 14 (Nat.le_of_ble_eq_true rfl) (hts _ q_638) (fun _ h9 => h9) rfl (tyX10_ok 14 (Nat.le_of_ble_eq_true rfl)) rfl rfl (Nat.le_of_ble_eq_true rfl) eX10_pays_0.2.2.1 (fun H locs hP hD hS => ?_)
  have hP : va_P (dC, dI) classes (wd_X10_pays cI cC cZ cB cJ a_m oJ uD dY iJ lJ jQ jR jW jK pJ bM aY jO gR gY mK jZ iY bG mJ jB mQ lY eJ bY bW aG jG bQ 0 jY m_length qG uW eY aJ aB bU dN aR aE bJ aW bT gJ dU bL bR bO mY pW rD m_x jA pY rW oY pR pX rG uM rQ tD) H := hP
  have hD : va_D A (wd_X10_pays cI cC cZ cB cJ a_m oJ uD dY iJ lJ jQ jR jW jK pJ bM aY jO gR gY mK jZ iY bG mJ jB mQ lY eJ bY bW aG jG bQ 0 jY m_length qG uW eY aJ aB bU dN aR aE bJ aW bT gJ dU bL bR bO mY pW rD m_x jA pY rW oY pR pX rG uM rQ tD) := hD
  refine lv_aload_n hx hb eX10_pays_0.2.2.2.1 rfl (lv_at hl 0 rfl) ?_
  refine lv_iload_n hx hb eX10_pays_0.2.2.2.2.1 rfl (lv_at hl 1 rfl) ?_
  have hm := mgk (wc := (wd_X10_isStanding cI cC cZ cB cJ a_m oJ uD dY iJ lJ jQ jR jW jK pJ bM aY jO gR gY mK jZ iY bG mJ jB mQ lY eJ bY bW aG jG bQ 0 jY m_length qG uW eY aJ aB bU dN aR aE bJ aW bT gJ dU bL bR bO mY pW)) hP mk_281 13 rfl rfl rfl
  refine g_calli hP hD hS hA (mixT mk_281) (mixF mk_281) hm.1 hm.2 (nd_F _) (dis_g _) (g_runV (As := [.int p0]) (rest := []) C0 hP hD hS (mixT mk_281) hm.1 (nd_T _) 0 10 rfl rfl (c_X10_isStanding l dC dI cI cC cZ cB cJ a_m oJ uD dY iJ lJ jQ jR jW jK pJ bM aY jO gR gY mK jZ iY bG mJ jB mQ lY eJ bY H.size p0 bW aG jG bQ 0 jY m_length qG uW eY aJ aB bU dN aR aE bJ aW bT gJ dU bL bR bO mY pW _ hp) q_757 q_760 q_758 q_759 q_642 h_X10_isStanding rfl rfl ⟨Nat.le_of_ble_eq_true rfl, Nat.le_of_ble_eq_true rfl⟩ rfl rfl hl.1 rfl (lv_room (Nat.le_of_ble_eq_true rfl)) eX10_pays_0.2.2.2.2.2.1 ⟨Nat.zero_le _, Nat.zero_le _⟩) (fun r_1 u H locs hp hP hD hS => ?_)
  have hPD := PDm (ws' := (wd_X10_pays cI cC cZ cB cJ a_m oJ uD dY iJ lJ jQ jR jW jK pJ bM aY jO gR gY mK jZ iY bG mJ jB mQ lY eJ bY bW aG jG bQ 0 jY m_length qG uW eY aJ aB bU dN aR aE bJ aW bT gJ dU bL bR bO mY pW rD m_x jA pY rW oY pR pX rG uM rQ tD)) hP hD 13 rfl rfl rfl
  have hP := hPD.1
  have hD := hPD.2
  refine lv_if_ne (tgt := 15) hx hb eX10_pays_0.2.2.2.2.2.2.1 (by decide) (fun hc => ?_) (fun hc => ?_)
  · have hp := hp.1 hc
    refine lv_aload_n hx hb eX10_pays_0.2.2.2.2.2.2.2.2.2.1 rfl (lv_at hl 0 rfl) ?_
    have hm := mgk (wc := (wd_X10_layHands cI cC cZ cB cJ a_m oJ uD dY iJ lJ jQ jR jW jK pJ bM aY jO gR gY mK jZ iY bG mJ jB mQ lY eJ bY bW aG jG bQ 0 jY m_length qG uW eY aJ aB bU dN aR aE bJ aW bT gJ dU bL bR bO mY pW rD m_x jA rW oY pR pX tD)) hP mk_282 13 rfl rfl rfl
    refine g_callv hP hD hS hA (mixT mk_282) (mixF mk_282) hm.1 hm.2 (nd_F _) (dis_g _) (g_runV (As := []) (rest := []) C0 hP hD hS (mixT mk_282) hm.1 (nd_T _) 0 10 rfl rfl (c_X10_layHands l dC dI cI cC cZ cB cJ a_m oJ uD dY iJ lJ jQ jR jW jK pJ bM aY jO gR gY mK jZ iY bG mJ jB mQ lY eJ bY H.size bW aG jG bQ 0 jY m_length qG uW eY aJ aB bU dN aR aE bJ aW bT gJ dU bL bR bO mY pW rD m_x jA rW oY pR pX tD _ hp) q_883 q_886 q_884 q_885 q_642 h_X10_layHands rfl rfl ⟨Nat.le_of_ble_eq_true rfl, Nat.le_of_ble_eq_true rfl⟩ rfl rfl hl.1 rfl (lv_room (Nat.le_of_ble_eq_true rfl)) eX10_pays_0.2.2.2.2.2.2.2.2.2.2.1 ⟨Nat.zero_le _, Nat.zero_le _⟩) (fun u H locs hp hP hD hS => ?_)
    obtain ⟨xY, zM⟩ := u
    have hPD := PDm (ws' := (wd_X10_pays cI cC cZ cB cJ a_m oJ uD dY iJ lJ jQ jR jW jK pJ bM aY jO gR gY mK jZ iY bG mJ jB mQ lY eJ bY bW aG jG bQ 0 jY m_length qG uW eY aJ aB bU dN aR aE bJ aW bT gJ xY bL bR bO mY pW rD m_x jA pY rW oY pR pX rG uM rQ zM)) hP hD 13 rfl rfl rfl
    have hP := hPD.1
    have hD := hPD.2
    refine lv_aload_n hx hb eX10_pays_0.2.2.2.2.2.2.2.2.2.2.2.1 rfl (lv_at hl 0 rfl) ?_
    refine va_get (D := (dC, dI)) (ci := 10) (v := .int xY) (C := RX10) (T := TX10) (N := 51) hx hb hts i_X10 hown hK hP 0 rfl rfl 37 (Nat.le_of_ble_eq_true rfl) (hts _ q_878) (fun _ h9 => h9) rfl eX10_pays_0.2.2.2.2.2.2.2.2.2.2.2.2.1 ?_
    refine lv_aload_n hx hb eX10_pays_0.2.2.2.2.2.2.2.2.2.2.2.2.2.1 rfl (lv_at hl 0 rfl) ?_
    refine va_get (D := (dC, dI)) (ci := 10) (v := .ref jZ) (C := RX10) (T := TX10) (N := 51) hx hb hts i_X10 hown hK hP 0 rfl rfl 36 (Nat.le_of_ble_eq_true rfl) (hts _ q_869) (fun _ h9 => h9) rfl eX10_pays_0.2.2.2.2.2.2.2.2.2.2.2.2.2.2.1 ?_
    refine lv_iload_n hx hb eX10_pays_0.2.2.2.2.2.2.2.2.2.2.2.2.2.2.2 rfl (lv_at hl 1 rfl) ?_
    have hin := hp.1
    have hp := hp.2
    refine va_iald hx hb hK hP 12 0 rfl rfl hin eX10_pays_28.1 ?_
    refine lv_iand hx hb eX10_pays_28.2.1 ?_
    refine lv_topi (fun v_4 ev_4 => ?_)
    have hp := hp v_4 ev_4
    refine lv_istore_n (lv' := [(2, .int v_4), (0, .ref a_m), (1, .int p0)]) hx hb eX10_pays_28.2.2.1 rfl hl (by decide) rfl (fun ls hl => ?_)
    refine lv_iconst (v := 0) hx hb eX10_pays_28.2.2.2.1 ic_0 ?_
    refine lv_istore_n (lv' := [(3, .int 0), (2, .int v_4), (0, .ref a_m), (1, .int p0)]) hx hb eX10_pays_28.2.2.2.2.1 rfl hl (by decide) rfl (fun ls hl => ?_)
    refine lv_iconst (v := 0) hx hb eX10_pays_28.2.2.2.2.2.1 ic_0 ?_
    refine lv_istore (lv' := [(4, .int 0), (3, .int 0), (2, .int v_4), (0, .ref a_m), (1, .int p0)]) hx hb eX10_pays_28.2.2.2.2.2.2.1 hl (by decide) rfl (fun ls hl => ?_)
    obtain ⟨n9, hp⟩ := hp
    exact kb_X10_pays_36 C0 n9 p0 v_4 0 0 bQ 0 jY m_length qG uW eY dN aR aE bJ aW xY uM zM H locs ls hp hP hD hS (lv_sub hl [3, 4, 2, 1, 0] rfl)
  · have hp := hp.2 hc
    refine lv_iconst (v := (-1)) hx hb eX10_pays_0.2.2.2.2.2.2.2.1 ic_m1 ?_
    exact W.iret (v := (-1)) hx hb hr (fun t ht hW => ⟨⟨(-1), (bQ, 0, jY, m_length, qG, uW, eY, dN, aR, aE, bJ, aW, dU, uM, tD), rfl, hp, by rw [ht]; exact hP, va_K.moved hW.alike hK, hD⟩, hS.F ht⟩) hS.2.2 eX10_pays_0.2.2.2.2.2.2.2.2.1
noncomputable abbrev wd_X10_trips (cI cC cZ cB cJ : ClassId) (a_m oJ uD dY iJ lJ jQ jR jW jK pJ bM aY jO gR gY mK jZ iY bG mJ jB mQ lY eJ bY : Nat) (bW aG jG bQ dG : Int32) (jY : Nat) (m_length qG uW eY aJ aB bU dN aR aE bJ aW bT gJ dU bL bR bO mY pW : Int32) (rD m_x jA rW oY pR pX uM tD : Nat → Int32) : va_W := [(a_m, .inr (10, [.ref oJ, .int bW, .ref uD, .ref dY, .ref iJ, .ref lJ, .int aG, .ref jQ, .ref jR, .ref jW, .ref jK, .int jG, .ref pJ, .int bQ, .int dG, rdv jK jO jY, .int m_length, .int qG, .int uW, .int eY, .ref bM, .ref aY, .int aJ, .int aB, .ref jO, .int bU, .int dN, .int aR, .int aE, .int bJ, .int aW, .ref gR, .int bT, .ref gY, .ref mK, .int gJ, .ref jZ, .int dU, .ref iY, .ref bG, .int bL, .int bR, .int bO, .ref mJ, .ref jB, .ref mQ, .int mY, .int pW, .ref lY, .ref eJ, .ref bY])), (oJ, .inl (cI, 21, .inl rD)), (uD, .inl (cI, 16, .inl m_x)), (dY, .inl (cI, 16, .inl jA)), (lJ, .inl (cI, 16, .inl rW)), (jQ, .inl (cI, 8, .inl oY)), (jR, .inl (cI, 8, .inl pR)), (jW, .inl (cI, 5, .inl pX)), (pJ, .inl (cI, 32, .inl uM)), (jZ, .inl (cI, 8, .inl tD))]
noncomputable abbrev q_X10_trips (dC : Nat → ClassId) (dI : Nat → Nat → Nat) (cI cC cZ cB cJ : ClassId) (A : Nat → Prop) (a_m oJ uD dY iJ lJ jQ jR jW jK pJ bM aY jO gR gY mK jZ iY bG mJ jB mQ lY eJ bY : Nat) (bW aG jG : Int32) (jY : Nat) (m_length qG uW eY aJ aB bU dN aR aE bJ aW bT gJ bL bR bO mY pW : Int32) (rD m_x jA rW oY pR pX : Nat → Int32) (post : Int32 → Int32 → Int32 → Int32 → (Nat → Int32) → (Nat → Int32) → Prop) : Array Value → State → Outcome → State → Prop := va_Qi (fun (r : Int32) (u : Int32 × Int32 × Int32 × (Nat → Int32) × (Nat → Int32)) => post r u.1 u.2.1 u.2.2.1 u.2.2.2.1 u.2.2.2.2) (fun u t => gB (dC, dI) (tyl cI cC cZ cB cJ) A (wd_X10_trips cI cC cZ cB cJ a_m oJ uD dY iJ lJ jQ jR jW jK pJ bM aY jO gR gY mK jZ iY bG mJ jB mQ lY eJ bY bW aG jG u.1 u.2.1 jY m_length qG uW eY aJ aB bU dN aR aE bJ aW bT gJ u.2.2.1 bL bR bO mY pW rD m_x jA rW oY pR pX u.2.2.2.1 u.2.2.2.2) t) A
noncomputable abbrev rm_X10_trips : Room := { frames := 6, cells := 0, slots := 0, locals := 133 }
section S_X10_trips
variable {p : Program} {l : Launch} {e : Env} {s : State} {m : MethodId} {args : Array Value} {below : List Frame} {meth : Method} {c : Code} {dC : Nat → ClassId} {dI : Nat → Nat → Nat} {cI cC cZ cB cJ : ClassId} {A : Nat → Prop} {a_m oJ uD dY iJ lJ jQ jR jW jK pJ bM aY jO gR gY mK jZ iY bG mJ jB mQ lY eJ bY : Nat} {bW aG jG : Int32} {jY : Nat} {m_length qG uW eY aJ aB bU dN aR aE bJ aW bT gJ bL bR bO mY pW : Int32} {rD m_x jA rW oY pR pX : Nat → Int32} {post : Int32 → Int32 → Int32 → Int32 → (Nat → Int32) → (Nat → Int32) → Prop}
noncomputable def ws_X10_trips_85 (post : Int32 → Int32 → Int32 → Int32 → (Nat → Int32) → (Nat → Int32) → Prop) (K65 : Int32 → Int32 → Int32 → Int32 → Int32 → Int32 → (Nat → Int32) → (Nat → Int32) → Prop) (bW aG : Int32) (rD m_x jA rW oY pR pX : Nat → Int32) (x2 x3 x4 bQ dG dU : Int32) (uM tD : Nat → Int32) : Prop := ∀ v_9 : Int32, v_9 = x2 + 1 → ∀ v_10 : Int32, v_10 = x4 + (-1) → K65 v_9 x3 v_10 bQ dG dU uM tD
set_option maxHeartbeats 4000000 in
set_option maxRecDepth 100000 in
theorem ks_X10_trips_85 (C0 : gc cX10_trips (some .int) 5 RX10 (dC, dI) (tyl cI cC cZ cB cJ) A p s m args meth c) {K65 : Int32 → Int32 → Int32 → Int32 → Int32 → Int32 → (Nat → Int32) → (Nat → Int32) → Prop} (hK65 : ∀ (x2 : Int32) (x3 : Int32) (x4 : Int32) (bQ : Int32) (dG : Int32) (dU : Int32) (uM : Nat → Int32) (tD : Nat → Int32) (H : Heap) (locs : List Loc) (ls : Array Slot), K65 x2 x3 x4 bQ dG dU uM tD → va_P (dC, dI) classes (wd_X10_trips cI cC cZ cB cJ a_m oJ uD dY iJ lJ jQ jR jW jK pJ bM aY jO gR gY mK jZ iY bG mJ jB mQ lY eJ bY bW aG jG bQ dG jY m_length qG uW eY aJ aB bU dN aR aE bJ aW bT gJ dU bL bR bO mY pW rD m_x jA rW oY pR pX uM tD) H → va_D A (wd_X10_trips cI cC cZ cB cJ a_m oJ uD dY iJ lJ jQ jR jW jK pJ bM aY jO gR gY mK jZ iY bG mJ jB mQ lY eJ bY bW aG jG bQ dG jY m_length qG uW eY aJ aB bU dN aR aE bJ aW bT gJ dU bL bR bO mY pW rD m_x jA rW oY pR pX uM tD) → va_S A s.heap H locs → lv_has ls 5 [(0, .ref a_m), (2, .int x2), (3, .int x3), (4, .int x4)] → W p l e rm_X10_trips s m args below meth c H locs 0 0 (MQ below (q_X10_trips dC dI cI cC cZ cB cJ A a_m oJ uD dY iJ lJ jQ jR jW jK pJ bM aY jO gR gY mK jZ iY bG mJ jB mQ lY eJ bY bW aG jG jY m_length qG uW eY aJ aB bU dN aR aE bJ aW bT gJ bL bR bO mY pW rD m_x jA rW oY pR pX post) args s 0 0 A) (F0 m 65 ls [])) : ∀ (x2 x3 x4 bQ dG dU : Int32) (uM tD : Nat → Int32) (H : Heap) (locs : List Loc) (ls : Array Slot), (ws_X10_trips_85 post K65 bW aG rD m_x jA rW oY pR pX) x2 x3 x4 bQ dG dU uM tD → va_P (dC, dI) classes (wd_X10_trips cI cC cZ cB cJ a_m oJ uD dY iJ lJ jQ jR jW jK pJ bM aY jO gR gY mK jZ iY bG mJ jB mQ lY eJ bY bW aG jG bQ dG jY m_length qG uW eY aJ aB bU dN aR aE bJ aW bT gJ dU bL bR bO mY pW rD m_x jA rW oY pR pX uM tD) H → va_D A (wd_X10_trips cI cC cZ cB cJ a_m oJ uD dY iJ lJ jQ jR jW jK pJ bM aY jO gR gY mK jZ iY bG mJ jB mQ lY eJ bY bW aG jG bQ dG jY m_length qG uW eY aJ aB bU dN aR aE bJ aW bT gJ dU bL bR bO mY pW rD m_x jA rW oY pR pX uM tD) → va_S A s.heap H locs → lv_has ls 5 [(0, .ref a_m), (2, .int x2), (3, .int x3), (4, .int x4)] → W p l e rm_X10_trips s m args below meth c H locs 0 0 (MQ below (q_X10_trips dC dI cI cC cZ cB cJ A a_m oJ uD dY iJ lJ jQ jR jW jK pJ bM aY jO gR gY mK jZ iY bG mJ jB mQ lY eJ bY bW aG jG jY m_length qG uW eY aJ aB bU dN aR aE bJ aW bT gJ bL bR bO mY pW rD m_x jA rW oY pR pX post) args s 0 0 A) (F0 m 85 ls []) := by
  obtain ⟨hx, hb, hr, hml, hown, hts, hlocks, hA, hK, hN, tL, tM, hZL, hTL, hZM, hTM, hZX⟩ := id C0
  intro x2 x3 x4 bQ dG dU uM tD H locs ls hp hP hD hS hl
  unfold ws_X10_trips_85 at hp
  obtain ⟨v_9, ev_9⟩ : ∃ y : Int32, y = x2 + 1 := ⟨_, rfl⟩
  refine lv_iinc (v := v_9) (lv' := [(2, .int v_9), (0, .ref a_m), (3, .int x3), (4, .int x4)]) hx hb eX10_trips_85.1 hl (k := 1) rfl (by rw [ev_9]; rfl) (by decide) rfl (fun ls hl => ?_)
  have hp := hp v_9 ev_9
  obtain ⟨v_10, ev_10⟩ : ∃ y : Int32, y = x4 + (-1) := ⟨_, rfl⟩
  refine lv_iinc (v := v_10) (lv' := [(4, .int v_10), (2, .int v_9), (0, .ref a_m), (3, .int x3)]) hx hb eX10_trips_85.2.1 hl (k := 3) rfl (by rw [ev_10]; rfl) (by decide) rfl (fun ls hl => ?_)
  have hp := hp v_10 ev_10
  refine lv_goto (tgt := 65) hx hb eX10_trips_85.2.2.1 (by decide) ?_
  exact hK65 v_9 x3 v_10 bQ dG dU uM tD H locs ls hp hP hD hS (lv_sub hl [2, 1, 3, 0] rfl)
noncomputable def ws_X10_trips_65 (post : Int32 → Int32 → Int32 → Int32 → (Nat → Int32) → (Nat → Int32) → Prop) (next : Int32 → Int32 → Int32 → Int32 → Int32 → Int32 → (Nat → Int32) → (Nat → Int32) → Prop) (bW aG : Int32) (rD m_x jA rW oY pR pX : Nat → Int32) (x2 x3 x4 bQ dG dU : Int32) (uM tD : Nat → Int32) : Prop := (x4 ≤ 0 → wp_X10_tell (fun aAn aDF => post x3 aAn dG dU aDF tD) x2 0 uM) ∧ (¬ x4 ≤ 0 → (x2 < (pX (4 : Int32).toNatClampNeg) → ws_X10_trips_85 post next bW aG rD m_x jA rW oY pR pX x2 x3 x4 bQ dG dU uM tD) ∧ (¬ x2 < (pX (4 : Int32).toNatClampNeg) → ∀ v_11 : Int32, v_11 = x3 + 1 → ws_X10_trips_85 post next bW aG rD m_x jA rW oY pR pX 0 v_11 x4 bQ dG dU uM tD))
noncomputable def wb_X10_trips_65 (post : Int32 → Int32 → Int32 → Int32 → (Nat → Int32) → (Nat → Int32) → Prop) (bW aG : Int32) (rD m_x jA rW oY pR pX : Nat → Int32) : Nat → Int32 → Int32 → Int32 → Int32 → Int32 → Int32 → (Nat → Int32) → (Nat → Int32) → Prop := fun n => Nat.rec (motive := fun _ => Int32 → Int32 → Int32 → Int32 → Int32 → Int32 → (Nat → Int32) → (Nat → Int32) → Prop) (fun _ _ _ _ _ _ _ _ => False) (fun _ ih => ws_X10_trips_65 post ih bW aG rD m_x jA rW oY pR pX) n
set_option maxHeartbeats 4000000 in
set_option maxRecDepth 100000 in
theorem ks_X10_trips_65 (C0 : gc cX10_trips (some .int) 5 RX10 (dC, dI) (tyl cI cC cZ cB cJ) A p s m args meth c) {next : Int32 → Int32 → Int32 → Int32 → Int32 → Int32 → (Nat → Int32) → (Nat → Int32) → Prop} (hKn : ∀ (x2 : Int32) (x3 : Int32) (x4 : Int32) (bQ : Int32) (dG : Int32) (dU : Int32) (uM : Nat → Int32) (tD : Nat → Int32) (H : Heap) (locs : List Loc) (ls : Array Slot), next x2 x3 x4 bQ dG dU uM tD → va_P (dC, dI) classes (wd_X10_trips cI cC cZ cB cJ a_m oJ uD dY iJ lJ jQ jR jW jK pJ bM aY jO gR gY mK jZ iY bG mJ jB mQ lY eJ bY bW aG jG bQ dG jY m_length qG uW eY aJ aB bU dN aR aE bJ aW bT gJ dU bL bR bO mY pW rD m_x jA rW oY pR pX uM tD) H → va_D A (wd_X10_trips cI cC cZ cB cJ a_m oJ uD dY iJ lJ jQ jR jW jK pJ bM aY jO gR gY mK jZ iY bG mJ jB mQ lY eJ bY bW aG jG bQ dG jY m_length qG uW eY aJ aB bU dN aR aE bJ aW bT gJ dU bL bR bO mY pW rD m_x jA rW oY pR pX uM tD) → va_S A s.heap H locs → lv_has ls 5 [(0, .ref a_m), (2, .int x2), (3, .int x3), (4, .int x4)] → W p l e rm_X10_trips s m args below meth c H locs 0 0 (MQ below (q_X10_trips dC dI cI cC cZ cB cJ A a_m oJ uD dY iJ lJ jQ jR jW jK pJ bM aY jO gR gY mK jZ iY bG mJ jB mQ lY eJ bY bW aG jG jY m_length qG uW eY aJ aB bU dN aR aE bJ aW bT gJ bL bR bO mY pW rD m_x jA rW oY pR pX post) args s 0 0 A) (F0 m 65 ls [])) : ∀ (x2 x3 x4 bQ dG dU : Int32) (uM tD : Nat → Int32) (H : Heap) (locs : List Loc) (ls : Array Slot), (ws_X10_trips_65 post next bW aG rD m_x jA rW oY pR pX) x2 x3 x4 bQ dG dU uM tD → va_P (dC, dI) classes (wd_X10_trips cI cC cZ cB cJ a_m oJ uD dY iJ lJ jQ jR jW jK pJ bM aY jO gR gY mK jZ iY bG mJ jB mQ lY eJ bY bW aG jG bQ dG jY m_length qG uW eY aJ aB bU dN aR aE bJ aW bT gJ dU bL bR bO mY pW rD m_x jA rW oY pR pX uM tD) H → va_D A (wd_X10_trips cI cC cZ cB cJ a_m oJ uD dY iJ lJ jQ jR jW jK pJ bM aY jO gR gY mK jZ iY bG mJ jB mQ lY eJ bY bW aG jG bQ dG jY m_length qG uW eY aJ aB bU dN aR aE bJ aW bT gJ dU bL bR bO mY pW rD m_x jA rW oY pR pX uM tD) → va_S A s.heap H locs → lv_has ls 5 [(0, .ref a_m), (2, .int x2), (3, .int x3), (4, .int x4)] → W p l e rm_X10_trips s m args below meth c H locs 0 0 (MQ below (q_X10_trips dC dI cI cC cZ cB cJ A a_m oJ uD dY iJ lJ jQ jR jW jK pJ bM aY jO gR gY mK jZ iY bG mJ jB mQ lY eJ bY bW aG jG jY m_length qG uW eY aJ aB bU dN aR aE bJ aW bT gJ bL bR bO mY pW rD m_x jA rW oY pR pX post) args s 0 0 A) (F0 m 65 ls []) := by
  obtain ⟨hx, hb, hr, hml, hown, hts, hlocks, hA, hK, hN, tL, tM, hZL, hTL, hZM, hTM, hZX⟩ := id C0
  intro x2 x3 x4 bQ dG dU uM tD H locs ls hp hP hD hS hl
  unfold ws_X10_trips_65 at hp
  refine lv_iload hx hb eX10_trips_57.2.2.2.2.2.1 (lv_at hl 3 rfl) ?_
  refine lv_if_le (tgt := 94) hx hb eX10_trips_57.2.2.2.2.2.2.1 (by decide) (fun hc => ?_) (fun hc => ?_)
  · have hp := hp.1 hc
    refine lv_aload_n hx hb eX10_trips_85.2.2.2.1 rfl (lv_at hl 0 rfl) ?_
    refine lv_iconst (v := 0) hx hb eX10_trips_85.2.2.2.2.1 ic_0 ?_
    refine va_put (D := (dC, dI)) (ci := 10) (v := .int 0) (ty := .int) (C := RX10) (T := TX10) (N := 51) hx hb hts i_X10 tyX10 tyX10_ok nmX10 hown hK hP hD hS 0 rfl rfl 13 (Nat.le_of_ble_eq_true rfl) (hts _ q_847) (fun _ h9 => h9) rfl (tyX10_ok 13 (Nat.le_of_ble_eq_true rfl)) rfl rfl (Nat.le_of_ble_eq_true rfl) eX10_trips_85.2.2.2.2.2.1 (fun H locs hP hD hS => ?_)
    have hP : va_P (dC, dI) classes (wd_X10_trips cI cC cZ cB cJ a_m oJ uD dY iJ lJ jQ jR jW jK pJ bM aY jO gR gY mK jZ iY bG mJ jB mQ lY eJ bY bW aG jG 0 dG jY m_length qG uW eY aJ aB bU dN aR aE bJ aW bT gJ dU bL bR bO mY pW rD m_x jA rW oY pR pX uM tD) H := hP
    have hD : va_D A (wd_X10_trips cI cC cZ cB cJ a_m oJ uD dY iJ lJ jQ jR jW jK pJ bM aY jO gR gY mK jZ iY bG mJ jB mQ lY eJ bY bW aG jG 0 dG jY m_length qG uW eY aJ aB bU dN aR aE bJ aW bT gJ dU bL bR bO mY pW rD m_x jA rW oY pR pX uM tD) := hD
    refine lv_aload_n hx hb eX10_trips_85.2.2.2.2.2.2.1 rfl (lv_at hl 0 rfl) ?_
    refine lv_iload_n hx hb eX10_trips_85.2.2.2.2.2.2.2.1 rfl (lv_at hl 1 rfl) ?_
    have hm := mgk (wc := (wd_X10_tell cI cC cZ cB cJ a_m oJ uD dY iJ lJ jQ jR jW jK pJ bM aY jO gR gY mK jZ iY bG mJ jB mQ lY eJ bY bW aG jG 0 dG jY m_length qG uW eY aJ aB bU dN aR aE bJ aW bT gJ dU bL bR bO mY pW uM)) hP aAN 10 rfl rfl rfl
    refine g_callv hP hD hS hA (mixT aAN) (mixF aAN) hm.1 hm.2 (nd_F _) (dis_g _) (g_runV (As := [.int x2]) (rest := []) C0 hP hD hS (mixT aAN) hm.1 (nd_T _) 0 10 rfl rfl (c_X10_tell l dC dI cI cC cZ cB cJ a_m oJ uD dY iJ lJ jQ jR jW jK pJ bM aY jO gR gY mK jZ iY bG mJ jB mQ lY eJ bY H.size x2 bW aG jG 0 dG jY m_length qG uW eY aJ aB bU dN aR aE bJ aW bT gJ dU bL bR bO mY pW uM _ hp) q_849 q_852 q_850 q_851 q_642 h_X10_tell rfl rfl ⟨Nat.le_of_ble_eq_true rfl, Nat.le_of_ble_eq_true rfl⟩ rfl rfl hl.1 rfl (lv_room (Nat.le_of_ble_eq_true rfl)) eX10_trips_85.2.2.2.2.2.2.2.2.1 ⟨Nat.zero_le _, Nat.zero_le _⟩) (fun u H locs hp hP hD hS => ?_)
    obtain ⟨aAn, aDF⟩ := u
    have hPD := PDm (ws' := (wd_X10_trips cI cC cZ cB cJ a_m oJ uD dY iJ lJ jQ jR jW jK pJ bM aY jO gR gY mK jZ iY bG mJ jB mQ lY eJ bY bW aG jG aAn dG jY m_length qG uW eY aJ aB bU dN aR aE bJ aW bT gJ dU bL bR bO mY pW rD m_x jA rW oY pR pX aDF tD)) hP hD 10 rfl rfl rfl
    have hP := hPD.1
    have hD := hPD.2
    refine lv_iload_n hx hb eX10_trips_85.2.2.2.2.2.2.2.2.2.1 rfl (lv_at hl 2 rfl) ?_
    exact W.iret (v := x3) hx hb hr (fun t ht hW => ⟨⟨x3, (aAn, dG, dU, aDF, tD), rfl, hp, by rw [ht]; exact hP, va_K.moved hW.alike hK, hD⟩, hS.F ht⟩) hS.2.2 eX10_trips_85.2.2.2.2.2.2.2.2.2.2
  · have hp := hp.2 hc
    refine lv_iload_n hx hb eX10_trips_57.2.2.2.2.2.2.2.1 rfl (lv_at hl 1 rfl) ?_
    refine lv_aload_n hx hb eX10_trips_57.2.2.2.2.2.2.2.2.1 rfl (lv_at hl 0 rfl) ?_
    refine va_get (D := (dC, dI)) (ci := 10) (v := .ref jW) (C := RX10) (T := TX10) (N := 51) hx hb hts i_X10 hown hK hP 0 rfl rfl 9 (Nat.le_of_ble_eq_true rfl) (hts _ q_765) (fun _ h9 => h9) rfl eX10_trips_57.2.2.2.2.2.2.2.2.2.1 ?_
    refine lv_iconst (v := 4) hx hb eX10_trips_57.2.2.2.2.2.2.2.2.2.2.1 ic_4 ?_
    refine va_iald hx hb hK hP 7 0 rfl rfl (g_in rfl) eX10_trips_57.2.2.2.2.2.2.2.2.2.2.2.1 ?_
    refine lv_icmp_lt (tgt := 85) hx hb eX10_trips_57.2.2.2.2.2.2.2.2.2.2.2.2.1 (by decide) (fun hc => ?_) (fun hc => ?_)
    · have hp := hp.1 hc
      exact ks_X10_trips_85 C0 hKn x2 x3 x4 bQ dG dU uM tD H locs ls hp hP hD hS (lv_sub hl [0, 1, 2, 3] rfl)
    · have hp := hp.2 hc
      obtain ⟨v_11, ev_11⟩ : ∃ y : Int32, y = x3 + 1 := ⟨_, rfl⟩
      refine lv_iinc (v := v_11) (lv' := [(3, .int v_11), (0, .ref a_m), (2, .int x2), (4, .int x4)]) hx hb eX10_trips_57.2.2.2.2.2.2.2.2.2.2.2.2.2.1 hl (k := 2) rfl (by rw [ev_11]; rfl) (by decide) rfl (fun ls hl => ?_)
      have hp := hp v_11 ev_11
      refine lv_iconst (v := 0) hx hb eX10_trips_57.2.2.2.2.2.2.2.2.2.2.2.2.2.2.1 ic_0 ?_
      refine lv_istore_n (lv' := [(2, .int 0), (3, .int v_11), (0, .ref a_m), (4, .int x4)]) hx hb eX10_trips_57.2.2.2.2.2.2.2.2.2.2.2.2.2.2.2 rfl hl (by decide) rfl (fun ls hl => ?_)
      exact ks_X10_trips_85 C0 hKn 0 v_11 x4 bQ dG dU uM tD H locs ls hp hP hD hS (lv_sub hl [2, 0, 1, 3] rfl)
set_option maxHeartbeats 4000000 in
set_option maxRecDepth 100000 in
theorem kb_X10_trips_65 (C0 : gc cX10_trips (some .int) 5 RX10 (dC, dI) (tyl cI cC cZ cB cJ) A p s m args meth c) : ∀ (n : Nat), ∀ (x2 x3 x4 bQ dG dU : Int32) (uM tD : Nat → Int32) (H : Heap) (locs : List Loc) (ls : Array Slot), (wb_X10_trips_65 post bW aG rD m_x jA rW oY pR pX n) x2 x3 x4 bQ dG dU uM tD → va_P (dC, dI) classes (wd_X10_trips cI cC cZ cB cJ a_m oJ uD dY iJ lJ jQ jR jW jK pJ bM aY jO gR gY mK jZ iY bG mJ jB mQ lY eJ bY bW aG jG bQ dG jY m_length qG uW eY aJ aB bU dN aR aE bJ aW bT gJ dU bL bR bO mY pW rD m_x jA rW oY pR pX uM tD) H → va_D A (wd_X10_trips cI cC cZ cB cJ a_m oJ uD dY iJ lJ jQ jR jW jK pJ bM aY jO gR gY mK jZ iY bG mJ jB mQ lY eJ bY bW aG jG bQ dG jY m_length qG uW eY aJ aB bU dN aR aE bJ aW bT gJ dU bL bR bO mY pW rD m_x jA rW oY pR pX uM tD) → va_S A s.heap H locs → lv_has ls 5 [(0, .ref a_m), (2, .int x2), (3, .int x3), (4, .int x4)] → W p l e rm_X10_trips s m args below meth c H locs 0 0 (MQ below (q_X10_trips dC dI cI cC cZ cB cJ A a_m oJ uD dY iJ lJ jQ jR jW jK pJ bM aY jO gR gY mK jZ iY bG mJ jB mQ lY eJ bY bW aG jG jY m_length qG uW eY aJ aB bU dN aR aE bJ aW bT gJ bL bR bO mY pW rD m_x jA rW oY pR pX post) args s 0 0 A) (F0 m 65 ls []) := by
  intro n
  induction n with
  | zero =>
    intro x2 x3 x4 bQ dG dU uM tD H locs ls hp
    exact False.elim hp
  | succ n ih =>
    intro x2 x3 x4 bQ dG dU uM tD H locs ls hp
    exact ks_X10_trips_65 C0 ih x2 x3 x4 bQ dG dU uM tD H locs ls hp
noncomputable def ws_X10_trips_46 (post : Int32 → Int32 → Int32 → Int32 → (Nat → Int32) → (Nat → Int32) → Prop) (bW aG : Int32) (rD m_x jA rW oY pR pX : Nat → Int32) (x1 k0 bQ dG dU : Int32) (uM tD : Nat → Int32) : Prop := vp_in x1 8 ∧ (∀ v_5 : Int32, v_5 = dU &&& (tD x1.toNatClampNeg) → wp_J6_bitCount_0f7a4 (fun r_6 => ∃ n : Nat, wb_X10_trips_65 post bW aG rD m_x jA rW oY pR pX n k0 0 r_6 bQ dG dU uM tD) v_5)
set_option maxHeartbeats 4000000 in
set_option maxRecDepth 100000 in
theorem ks_X10_trips_46 (C0 : gc cX10_trips (some .int) 5 RX10 (dC, dI) (tyl cI cC cZ cB cJ) A p s m args meth c) : ∀ (x1 k0 bQ dG dU : Int32) (uM tD : Nat → Int32) (H : Heap) (locs : List Loc) (ls : Array Slot), (ws_X10_trips_46 post bW aG rD m_x jA rW oY pR pX) x1 k0 bQ dG dU uM tD → va_P (dC, dI) classes (wd_X10_trips cI cC cZ cB cJ a_m oJ uD dY iJ lJ jQ jR jW jK pJ bM aY jO gR gY mK jZ iY bG mJ jB mQ lY eJ bY bW aG jG bQ dG jY m_length qG uW eY aJ aB bU dN aR aE bJ aW bT gJ dU bL bR bO mY pW rD m_x jA rW oY pR pX uM tD) H → va_D A (wd_X10_trips cI cC cZ cB cJ a_m oJ uD dY iJ lJ jQ jR jW jK pJ bM aY jO gR gY mK jZ iY bG mJ jB mQ lY eJ bY bW aG jG bQ dG jY m_length qG uW eY aJ aB bU dN aR aE bJ aW bT gJ dU bL bR bO mY pW rD m_x jA rW oY pR pX uM tD) → va_S A s.heap H locs → lv_has ls 5 [(0, .ref a_m), (1, .int x1)] → W p l e rm_X10_trips s m args below meth c H locs 0 0 (MQ below (q_X10_trips dC dI cI cC cZ cB cJ A a_m oJ uD dY iJ lJ jQ jR jW jK pJ bM aY jO gR gY mK jZ iY bG mJ jB mQ lY eJ bY bW aG jG jY m_length qG uW eY aJ aB bU dN aR aE bJ aW bT gJ bL bR bO mY pW rD m_x jA rW oY pR pX post) args s 0 0 A) (F0 m 46 ls [.int k0]) := by
  obtain ⟨hx, hb, hr, hml, hown, hts, hlocks, hA, hK, hN, tL, tM, hZL, hTL, hZM, hTM, hZX⟩ := id C0
  intro x1 k0 bQ dG dU uM tD H locs ls hp hP hD hS hl
  unfold ws_X10_trips_46 at hp
  refine lv_istore_n (lv' := [(2, .int k0), (0, .ref a_m), (1, .int x1)]) hx hb eX10_trips_27.2.2.2.2.2.2.2.2.2.1 rfl hl (by decide) rfl (fun ls hl => ?_)
  refine lv_iconst (v := 0) hx hb eX10_trips_27.2.2.2.2.2.2.2.2.2.2.1 ic_0 ?_
  refine lv_istore_n (lv' := [(3, .int 0), (2, .int k0), (0, .ref a_m), (1, .int x1)]) hx hb eX10_trips_27.2.2.2.2.2.2.2.2.2.2.2.1 rfl hl (by decide) rfl (fun ls hl => ?_)
  refine lv_aload_n hx hb eX10_trips_27.2.2.2.2.2.2.2.2.2.2.2.2.1 rfl (lv_at hl 2 rfl) ?_
  refine va_get (D := (dC, dI)) (ci := 10) (v := .int dU) (C := RX10) (T := TX10) (N := 51) hx hb hts i_X10 hown hK hP 0 rfl rfl 37 (Nat.le_of_ble_eq_true rfl) (hts _ q_878) (fun _ h9 => h9) rfl eX10_trips_27.2.2.2.2.2.2.2.2.2.2.2.2.2.1 ?_
  refine lv_aload_n hx hb eX10_trips_27.2.2.2.2.2.2.2.2.2.2.2.2.2.2.1 rfl (lv_at hl 2 rfl) ?_
  refine va_get (D := (dC, dI)) (ci := 10) (v := .ref jZ) (C := RX10) (T := TX10) (N := 51) hx hb hts i_X10 hown hK hP 0 rfl rfl 36 (Nat.le_of_ble_eq_true rfl) (hts _ q_869) (fun _ h9 => h9) rfl eX10_trips_27.2.2.2.2.2.2.2.2.2.2.2.2.2.2.2 ?_
  refine lv_iload_n hx hb eX10_trips_57.1 rfl (lv_at hl 3 rfl) ?_
  have hin := hp.1
  have hp := hp.2
  refine va_iald hx hb hK hP 9 0 rfl rfl hin eX10_trips_57.2.1 ?_
  refine lv_iand hx hb eX10_trips_57.2.2.1 ?_
  refine lv_topi (fun v_5 ev_5 => ?_)
  have hp := hp v_5 ev_5
  have hm := mgk (wc := (wd_J6_bitCount_0f7a4 cI cC cZ cB cJ)) hP zH 10 rfl rfl rfl
  refine g_calli hP hD hS hA (mixT zH) (mixF zH) hm.1 hm.2 (nd_F _) (dis_g _) (g_runS (As := [.int v_5]) (rest := []) C0 hP hD hS (mixT zH) hm.1 (nd_T _) (c_J6_bitCount_0f7a4 l dC dI cI cC cZ cB cJ H.size v_5 _ hp) q_320 q_803 q_322 q_321 h_J6_bitCount_0f7a4 rfl rfl ⟨Nat.le_of_ble_eq_true rfl, Nat.le_of_ble_eq_true rfl⟩ rfl rfl hl.1 rfl (lv_room (Nat.le_of_ble_eq_true rfl)) eX10_trips_57.2.2.2.1 ⟨Nat.zero_le _, Nat.zero_le _⟩) (fun r_6 u H locs hp hP hD hS => ?_)
  have hPD := PDm (ws' := (wd_X10_trips cI cC cZ cB cJ a_m oJ uD dY iJ lJ jQ jR jW jK pJ bM aY jO gR gY mK jZ iY bG mJ jB mQ lY eJ bY bW aG jG bQ dG jY m_length qG uW eY aJ aB bU dN aR aE bJ aW bT gJ dU bL bR bO mY pW rD m_x jA rW oY pR pX uM tD)) hP hD 10 rfl rfl rfl
  have hP := hPD.1
  have hD := hPD.2
  refine lv_istore (lv' := [(4, .int r_6), (3, .int 0), (2, .int k0), (0, .ref a_m), (1, .int x1)]) hx hb eX10_trips_57.2.2.2.2.1 hl (by decide) rfl (fun ls hl => ?_)
  obtain ⟨n9, hp⟩ := hp
  exact kb_X10_trips_65 C0 n9 k0 0 r_6 bQ dG dU uM tD H locs ls hp hP hD hS (lv_sub hl [3, 2, 1, 0] rfl)
end S_X10_trips
noncomputable def wp_X10_trips (post : Int32 → Int32 → Int32 → Int32 → (Nat → Int32) → (Nat → Int32) → Prop) (p0 bW aG bQ dG dU : Int32) (rD m_x jA rW oY pR pX uM tD : Nat → Int32) : Prop := wp_X10_isStanding (fun r_1 => (¬ r_1 = 0 → wp_X10_layHands (fun xY zM => ∀ v_4 : Int32, v_4 = rD (17 : Int32).toNatClampNeg → (¬ v_4 = p0 → ws_X10_trips_46 post bW aG rD m_x jA rW oY pR pX p0 0 bQ 0 xY uM zM) ∧ (v_4 = p0 → wp_X10_which (fun r_12 => wp_J6_bitCount_0f7a4 (fun r_13 => ws_X10_trips_46 post bW aG rD m_x jA rW oY pR pX p0 r_13 bQ 0 xY uM zM) r_12) 1 bW rD)) bW aG dU rD m_x jA rW oY pR pX tD) ∧ (r_1 = 0 → post (-1) bQ 0 dU uM tD)) p0 aG
set_option maxHeartbeats 4000000 in
set_option maxRecDepth 100000 in
theorem c_X10_trips (l : Launch) (dC : Nat → ClassId) (dI : Nat → Nat → Nat) (cI cC cZ cB cJ : ClassId) (a_m oJ uD dY iJ lJ jQ jR jW jK pJ bM aY jO gR gY mK jZ iY bG mJ jB mQ lY eJ bY sz : Nat) (p0 bW aG jG bQ dG : Int32) (jY : Nat) (m_length qG uW eY aJ aB bU dN aR aE bJ aW bT gJ dU bL bR bO mY pW : Int32) (rD m_x jA rW oY pR pX uM tD : Nat → Int32) (post : Int32 → Int32 → Int32 → Int32 → (Nat → Int32) → (Nat → Int32) → Prop) (hw : wp_X10_trips post p0 bW aG bQ dG dU rD m_x jA rW oY pR pX uM tD) : Met l yX10_trips (gw yX10_trips cX10_trips 5 (some .int)) rm_X10_trips (va_Pc [.ref a_m, .int p0] (gPre (dC, dI) (tyl cI cC cZ cB cJ) (wd_X10_trips cI cC cZ cB cJ a_m oJ uD dY iJ lJ jQ jR jW jK pJ bM aY jO gR gY mK jZ iY bG mJ jB mQ lY eJ bY bW aG jG bQ dG jY m_length qG uW eY aJ aB bU dN aR aE bJ aW bT gJ dU bL bR bO mY pW rD m_x jA rW oY pR pX uM tD) sz)) (q_X10_trips dC dI cI cC cZ cB cJ (va_A (wd_X10_trips cI cC cZ cB cJ a_m oJ uD dY iJ lJ jQ jR jW jK pJ bM aY jO gR gY mK jZ iY bG mJ jB mQ lY eJ bY bW aG jG bQ dG jY m_length qG uW eY aJ aB bU dN aR aE bJ aW bT gJ dU bL bR bO mY pW rD m_x jA rW oY pR pX uM tD) sz) a_m oJ uD dY iJ lJ jQ jR jW jK pJ bM aY jO gR gY mK jZ iY bG mJ jB mQ lY eJ bY bW aG jG jY m_length qG uW eY aJ aB bU dN aR aE bJ aW bT gJ bL bR bO mY pW rD m_x jA rW oY pR pX post) 0 0 (va_A (wd_X10_trips cI cC cZ cB cJ a_m oJ uD dY iJ lJ jQ jR jW jK pJ bM aY jO gR gY mK jZ iY bG mJ jB mQ lY eJ bY bW aG jG bQ dG jY m_length qG uW eY aJ aB bU dN aR aE bJ aW bT gJ dU bL bR bO mY pW rD m_x jA rW oY pR pX uM tD) sz) := by
  refine g_enter (own := RX10) (dC, dI) (tyl cI cC cZ cB cJ) (wd_X10_trips cI cC cZ cB cJ a_m oJ uD dY iJ lJ jQ jR jW jK pJ bM aY jO gR gY mK jZ iY bG mJ jB mQ lY eJ bY bW aG jG bQ dG jY m_length qG uW eY aJ aB bU dN aR aE bJ aW bT gJ dU bL bR bO mY pW rD m_x jA rW oY pR pX uM tD) sz [.ref a_m, .int p0] (fun A => q_X10_trips dC dI cI cC cZ cB cJ A a_m oJ uD dY iJ lJ jQ jR jW jK pJ bM aY jO gR gY mK jZ iY bG mJ jB mQ lY eJ bY bW aG jG jY m_length qG uW eY aJ aB bU dN aR aE bJ aW bT gJ bL bR bO mY pW rD m_x jA rW oY pR pX post) pn_RX10 rfl (Nat.le_of_ble_eq_true rfl) ?_
  intro p e s m args below meth c A H locs ls C0 hP hD hS hl
  have hl : lv_has ls 5 [(0, .ref a_m), (1, .int p0)] := hl
  obtain ⟨hx, hb, hr, hml, hown, hts, hlocks, hA, hK, hN, tL, tM, hZL, hTL, hZM, hTM, hZX⟩ := id C0
  have hp := hw
  unfold wp_X10_trips at hp
  refine lv_aload_n hx hb eX10_trips_0.1 rfl (lv_at hl 0 rfl) ?_
  refine lv_iconst (v := 0) hx hb eX10_trips_0.2.1 ic_0 ?_
  refine va_put (D := (dC, dI)) (ci := 10) (v := .int 0) (ty := .int) (C := RX10) (T := TX10) (N := 51) hx hb hts i_X10 tyX10 tyX10_ok nmX10 hown hK hP hD hS 0 rfl rfl 14 (Nat.le_of_ble_eq_true rfl) (hts _ q_638) (fun _ h9 => h9) rfl (tyX10_ok 14 (Nat.le_of_ble_eq_true rfl)) rfl rfl (Nat.le_of_ble_eq_true rfl) eX10_trips_0.2.2.1 (fun H locs hP hD hS => ?_)
  have hP : va_P (dC, dI) classes (wd_X10_trips cI cC cZ cB cJ a_m oJ uD dY iJ lJ jQ jR jW jK pJ bM aY jO gR gY mK jZ iY bG mJ jB mQ lY eJ bY bW aG jG bQ 0 jY m_length qG uW eY aJ aB bU dN aR aE bJ aW bT gJ dU bL bR bO mY pW rD m_x jA rW oY pR pX uM tD) H := hP
  have hD : va_D A (wd_X10_trips cI cC cZ cB cJ a_m oJ uD dY iJ lJ jQ jR jW jK pJ bM aY jO gR gY mK jZ iY bG mJ jB mQ lY eJ bY bW aG jG bQ 0 jY m_length qG uW eY aJ aB bU dN aR aE bJ aW bT gJ dU bL bR bO mY pW rD m_x jA rW oY pR pX uM tD) := hD
  refine lv_aload_n hx hb eX10_trips_0.2.2.2.1 rfl (lv_at hl 0 rfl) ?_
  refine lv_iload_n hx hb eX10_trips_0.2.2.2.2.1 rfl (lv_at hl 1 rfl) ?_
  have hm := mgk (wc := (wd_X10_isStanding cI cC cZ cB cJ a_m oJ uD dY iJ lJ jQ jR jW jK pJ bM aY jO gR gY mK jZ iY bG mJ jB mQ lY eJ bY bW aG jG bQ 0 jY m_length qG uW eY aJ aB bU dN aR aE bJ aW bT gJ dU bL bR bO mY pW)) hP aAZ 10 rfl rfl rfl
  refine g_calli hP hD hS hA (mixT aAZ) (mixF aAZ) hm.1 hm.2 (nd_F _) (dis_g _) (g_runV (As := [.int p0]) (rest := []) C0 hP hD hS (mixT aAZ) hm.1 (nd_T _) 0 10 rfl rfl (c_X10_isStanding l dC dI cI cC cZ cB cJ a_m oJ uD dY iJ lJ jQ jR jW jK pJ bM aY jO gR gY mK jZ iY bG mJ jB mQ lY eJ bY H.size p0 bW aG jG bQ 0 jY m_length qG uW eY aJ aB bU dN aR aE bJ aW bT gJ dU bL bR bO mY pW _ hp) q_757 q_760 q_758 q_759 q_642 h_X10_isStanding rfl rfl ⟨Nat.le_of_ble_eq_true rfl, Nat.le_of_ble_eq_true rfl⟩ rfl rfl hl.1 rfl (lv_room (Nat.le_of_ble_eq_true rfl)) eX10_trips_0.2.2.2.2.2.1 ⟨Nat.zero_le _, Nat.zero_le _⟩) (fun r_1 u H locs hp hP hD hS => ?_)
  have hPD := PDm (ws' := (wd_X10_trips cI cC cZ cB cJ a_m oJ uD dY iJ lJ jQ jR jW jK pJ bM aY jO gR gY mK jZ iY bG mJ jB mQ lY eJ bY bW aG jG bQ 0 jY m_length qG uW eY aJ aB bU dN aR aE bJ aW bT gJ dU bL bR bO mY pW rD m_x jA rW oY pR pX uM tD)) hP hD 10 rfl rfl rfl
  have hP := hPD.1
  have hD := hPD.2
  refine lv_if_ne (tgt := 15) hx hb eX10_trips_0.2.2.2.2.2.2.1 (by decide) (fun hc => ?_) (fun hc => ?_)
  · have hp := hp.1 hc
    refine lv_aload_n hx hb eX10_trips_0.2.2.2.2.2.2.2.2.2.1 rfl (lv_at hl 0 rfl) ?_
    have hm := mgk (wc := (wd_X10_layHands cI cC cZ cB cJ a_m oJ uD dY iJ lJ jQ jR jW jK pJ bM aY jO gR gY mK jZ iY bG mJ jB mQ lY eJ bY bW aG jG bQ 0 jY m_length qG uW eY aJ aB bU dN aR aE bJ aW bT gJ dU bL bR bO mY pW rD m_x jA rW oY pR pX tD)) hP aBa 10 rfl rfl rfl
    refine g_callv hP hD hS hA (mixT aBa) (mixF aBa) hm.1 hm.2 (nd_F _) (dis_g _) (g_runV (As := []) (rest := []) C0 hP hD hS (mixT aBa) hm.1 (nd_T _) 0 10 rfl rfl (c_X10_layHands l dC dI cI cC cZ cB cJ a_m oJ uD dY iJ lJ jQ jR jW jK pJ bM aY jO gR gY mK jZ iY bG mJ jB mQ lY eJ bY H.size bW aG jG bQ 0 jY m_length qG uW eY aJ aB bU dN aR aE bJ aW bT gJ dU bL bR bO mY pW rD m_x jA rW oY pR pX tD _ hp) q_883 q_886 q_884 q_885 q_642 h_X10_layHands rfl rfl ⟨Nat.le_of_ble_eq_true rfl, Nat.le_of_ble_eq_true rfl⟩ rfl rfl hl.1 rfl (lv_room (Nat.le_of_ble_eq_true rfl)) eX10_trips_0.2.2.2.2.2.2.2.2.2.2.1 ⟨Nat.zero_le _, Nat.zero_le _⟩) (fun u H locs hp hP hD hS => ?_)
    obtain ⟨xY, zM⟩ := u
    have hPD := PDm (ws' := (wd_X10_trips cI cC cZ cB cJ a_m oJ uD dY iJ lJ jQ jR jW jK pJ bM aY jO gR gY mK jZ iY bG mJ jB mQ lY eJ bY bW aG jG bQ 0 jY m_length qG uW eY aJ aB bU dN aR aE bJ aW bT gJ xY bL bR bO mY pW rD m_x jA rW oY pR pX uM zM)) hP hD 10 rfl rfl rfl
    have hP := hPD.1
    have hD := hPD.2
    refine lv_aload_n hx hb eX10_trips_0.2.2.2.2.2.2.2.2.2.2.2.1 rfl (lv_at hl 0 rfl) ?_
    refine va_get (D := (dC, dI)) (ci := 10) (v := .ref oJ) (C := RX10) (T := TX10) (N := 51) hx hb hts i_X10 hown hK hP 0 rfl rfl 0 (Nat.le_of_ble_eq_true rfl) (hts _ q_692) (fun _ h9 => h9) rfl eX10_trips_0.2.2.2.2.2.2.2.2.2.2.2.2.1 ?_
    refine lv_bipush (v := 17) hx hb eX10_trips_0.2.2.2.2.2.2.2.2.2.2.2.2.2.1 bp_17 ?_
    refine va_iald hx hb hK hP 1 0 rfl rfl (g_in rfl) eX10_trips_0.2.2.2.2.2.2.2.2.2.2.2.2.2.2.1 ?_
    refine lv_topi (fun v_4 ev_4 => ?_)
    have hp := hp v_4 ev_4
    refine lv_iload_n hx hb eX10_trips_0.2.2.2.2.2.2.2.2.2.2.2.2.2.2.2 rfl (lv_at hl 1 rfl) ?_
    refine lv_icmp_ne (tgt := 45) hx hb eX10_trips_27.1 (by decide) (fun hc => ?_) (fun hc => ?_)
    · have hp := hp.1 hc
      refine lv_iconst (v := 0) hx hb eX10_trips_27.2.2.2.2.2.2.2.2.1 ic_0 ?_
      exact ks_X10_trips_46 C0 p0 0 bQ 0 xY uM zM H locs ls hp hP hD hS (lv_sub hl [0, 1] rfl)
    · have hp := hp.2 hc
      refine lv_aload_n hx hb eX10_trips_27.2.1 rfl (lv_at hl 0 rfl) ?_
      refine lv_aload_n hx hb eX10_trips_27.2.2.1 rfl (lv_at hl 0 rfl) ?_
      refine va_get (D := (dC, dI)) (ci := 10) (v := .ref oJ) (C := RX10) (T := TX10) (N := 51) hx hb hts i_X10 hown hK hP 0 rfl rfl 0 (Nat.le_of_ble_eq_true rfl) (hts _ q_692) (fun _ h9 => h9) rfl eX10_trips_27.2.2.2.1 ?_
      refine lv_iconst (v := 1) hx hb eX10_trips_27.2.2.2.2.1 ic_1 ?_
      have hm := mgk (wc := (wd_X10_which cI cC cZ cB cJ a_m oJ uD dY iJ lJ jQ jR jW jK pJ bM aY jO gR gY mK jZ iY bG mJ jB mQ lY eJ bY bW aG jG bQ 0 jY m_length qG uW eY aJ aB bU dN aR aE bJ aW bT gJ xY bL bR bO mY pW rD)) hP mk_283 10 rfl rfl rfl
      refine g_calli hP hD hS hA (mixT mk_283) (mixF mk_283) hm.1 hm.2 (nd_F _) (dis_g _) (g_runV (As := [.ref oJ, .int 1]) (rest := []) C0 hP hD hS (mixT mk_283) hm.1 (nd_T _) 0 10 rfl rfl (c_X10_which l dC dI cI cC cZ cB cJ a_m oJ uD dY iJ lJ jQ jR jW jK pJ bM aY jO gR gY mK jZ iY bG mJ jB mQ lY eJ bY H.size 1 bW aG jG bQ 0 jY m_length qG uW eY aJ aB bU dN aR aE bJ aW bT gJ xY bL bR bO mY pW rD _ hp) q_749 q_752 q_750 q_751 q_642 h_X10_which rfl rfl ⟨Nat.le_of_ble_eq_true rfl, Nat.le_of_ble_eq_true rfl⟩ rfl rfl hl.1 rfl (lv_room (Nat.le_of_ble_eq_true rfl)) eX10_trips_27.2.2.2.2.2.1 ⟨Nat.zero_le _, Nat.zero_le _⟩) (fun r_12 u H locs hp hP hD hS => ?_)
      have hPD := PDm (ws' := (wd_X10_trips cI cC cZ cB cJ a_m oJ uD dY iJ lJ jQ jR jW jK pJ bM aY jO gR gY mK jZ iY bG mJ jB mQ lY eJ bY bW aG jG bQ 0 jY m_length qG uW eY aJ aB bU dN aR aE bJ aW bT gJ xY bL bR bO mY pW rD m_x jA rW oY pR pX uM zM)) hP hD 10 rfl rfl rfl
      have hP := hPD.1
      have hD := hPD.2
      have hm := mgk (wc := (wd_J6_bitCount_0f7a4 cI cC cZ cB cJ)) hP zH 10 rfl rfl rfl
      refine g_calli hP hD hS hA (mixT zH) (mixF zH) hm.1 hm.2 (nd_F _) (dis_g _) (g_runS (As := [.int r_12]) (rest := []) C0 hP hD hS (mixT zH) hm.1 (nd_T _) (c_J6_bitCount_0f7a4 l dC dI cI cC cZ cB cJ H.size r_12 _ hp) q_320 q_803 q_322 q_321 h_J6_bitCount_0f7a4 rfl rfl ⟨Nat.le_of_ble_eq_true rfl, Nat.le_of_ble_eq_true rfl⟩ rfl rfl hl.1 rfl (lv_room (Nat.le_of_ble_eq_true rfl)) eX10_trips_27.2.2.2.2.2.2.1 ⟨Nat.zero_le _, Nat.zero_le _⟩) (fun r_13 u H locs hp hP hD hS => ?_)
      have hPD := PDm (ws' := (wd_X10_trips cI cC cZ cB cJ a_m oJ uD dY iJ lJ jQ jR jW jK pJ bM aY jO gR gY mK jZ iY bG mJ jB mQ lY eJ bY bW aG jG bQ 0 jY m_length qG uW eY aJ aB bU dN aR aE bJ aW bT gJ xY bL bR bO mY pW rD m_x jA rW oY pR pX uM zM)) hP hD 10 rfl rfl rfl
      have hP := hPD.1
      have hD := hPD.2
      refine lv_goto (tgt := 46) hx hb eX10_trips_27.2.2.2.2.2.2.2.1 (by decide) ?_
      exact ks_X10_trips_46 C0 p0 r_13 bQ 0 xY uM zM H locs ls hp hP hD hS (lv_sub hl [0, 1] rfl)
  · have hp := hp.2 hc
    refine lv_iconst (v := (-1)) hx hb eX10_trips_0.2.2.2.2.2.2.2.1 ic_m1 ?_
    exact W.iret (v := (-1)) hx hb hr (fun t ht hW => ⟨⟨(-1), (bQ, 0, dU, uM, tD), rfl, hp, by rw [ht]; exact hP, va_K.moved hW.alike hK, hD⟩, hS.F ht⟩) hS.2.2 eX10_trips_0.2.2.2.2.2.2.2.2.1
noncomputable abbrev wd_X10_helps (cI cC cZ cB cJ : ClassId) (a_m oJ uD dY iJ lJ jQ jR jW jK pJ bM aY jO gR gY mK jZ iY bG mJ jB mQ lY eJ bY : Nat) (bW aG jG bQ dG : Int32) (jY : Nat) (m_length qG uW eY aJ aB bU dN aR aE bJ aW bT gJ dU bL bR bO mY pW : Int32) (rD m_x jA rW oY pR pX uM tD : Nat → Int32) : va_W := [(a_m, .inr (10, [.ref oJ, .int bW, .ref uD, .ref dY, .ref iJ, .ref lJ, .int aG, .ref jQ, .ref jR, .ref jW, .ref jK, .int jG, .ref pJ, .int bQ, .int dG, rdv jK jO jY, .int m_length, .int qG, .int uW, .int eY, .ref bM, .ref aY, .int aJ, .int aB, .ref jO, .int bU, .int dN, .int aR, .int aE, .int bJ, .int aW, .ref gR, .int bT, .ref gY, .ref mK, .int gJ, .ref jZ, .int dU, .ref iY, .ref bG, .int bL, .int bR, .int bO, .ref mJ, .ref jB, .ref mQ, .int mY, .int pW, .ref lY, .ref eJ, .ref bY])), (oJ, .inl (cI, 21, .inl rD)), (uD, .inl (cI, 16, .inl m_x)), (dY, .inl (cI, 16, .inl jA)), (lJ, .inl (cI, 16, .inl rW)), (jQ, .inl (cI, 8, .inl oY)), (jR, .inl (cI, 8, .inl pR)), (jW, .inl (cI, 5, .inl pX)), (pJ, .inl (cI, 32, .inl uM)), (jZ, .inl (cI, 8, .inl tD))]
noncomputable abbrev q_X10_helps (dC : Nat → ClassId) (dI : Nat → Nat → Nat) (cI cC cZ cB cJ : ClassId) (A : Nat → Prop) (a_m oJ uD dY iJ lJ jQ jR jW jK pJ bM aY jO gR gY mK jZ iY bG mJ jB mQ lY eJ bY : Nat) (bW aG jG : Int32) (jY : Nat) (m_length qG uW eY aJ aB bU dN aR aE bJ aW bT gJ bL bR bO mY pW : Int32) (rD m_x jA rW oY pR pX : Nat → Int32) (post : Int32 → Int32 → Int32 → Int32 → (Nat → Int32) → (Nat → Int32) → Prop) : Array Value → State → Outcome → State → Prop := va_Qi (fun (r : Int32) (u : Int32 × Int32 × Int32 × (Nat → Int32) × (Nat → Int32)) => post r u.1 u.2.1 u.2.2.1 u.2.2.2.1 u.2.2.2.2) (fun u t => gB (dC, dI) (tyl cI cC cZ cB cJ) A (wd_X10_helps cI cC cZ cB cJ a_m oJ uD dY iJ lJ jQ jR jW jK pJ bM aY jO gR gY mK jZ iY bG mJ jB mQ lY eJ bY bW aG jG u.1 u.2.1 jY m_length qG uW eY aJ aB bU dN aR aE bJ aW bT gJ u.2.2.1 bL bR bO mY pW rD m_x jA rW oY pR pX u.2.2.2.1 u.2.2.2.2) t) A
noncomputable abbrev rm_X10_helps : Room := { frames := 5, cells := 0, slots := 0, locals := 113 }
noncomputable def wp_X10_helps (post : Int32 → Int32 → Int32 → Int32 → (Nat → Int32) → (Nat → Int32) → Prop) (bW aG bQ dG dU : Int32) (rD m_x jA rW oY pR pX uM tD : Nat → Int32) : Prop := wp_X10_layHands_ (fun xX zP => wp_X10_cover (fun r_3 => wp_J6_bitCount_0f7a4 (fun r_4 => wp_J6_bitCount_0f7a4 (fun r_5 => wp_X10_layHands_ (fun aAw aGt => wp_X10_cover (fun r_8 => wp_J6_bitCount_0f7a4 (fun r_9 => wp_X10_tell (fun xW zG => wp_J6_bitCount_0f7a4 (fun r_12 => wp_X10_tell (fun aBe aGq => post (r_4 - r_9) aBe 0 aAw aGq aGt) r_12 xW zG) aAw) r_5 0 uM) r_8) aAw aG aGt) 1 bW aG xX rD m_x jA rW oY pR pX zP) xX) r_3) xX aG zP) 0 bW aG dU rD m_x jA rW oY pR pX tD
set_option maxHeartbeats 4000000 in
set_option maxRecDepth 100000 in
theorem c_X10_helps (l : Launch) (dC : Nat → ClassId) (dI : Nat → Nat → Nat) (cI cC cZ cB cJ : ClassId) (a_m oJ uD dY iJ lJ jQ jR jW jK pJ bM aY jO gR gY mK jZ iY bG mJ jB mQ lY eJ bY sz : Nat) (bW aG jG bQ dG : Int32) (jY : Nat) (m_length qG uW eY aJ aB bU dN aR aE bJ aW bT gJ dU bL bR bO mY pW : Int32) (rD m_x jA rW oY pR pX uM tD : Nat → Int32) (post : Int32 → Int32 → Int32 → Int32 → (Nat → Int32) → (Nat → Int32) → Prop) (hw : wp_X10_helps post bW aG bQ dG dU rD m_x jA rW oY pR pX uM tD) : Met l yX10_helps (gw yX10_helps cX10_helps 4 (some .int)) rm_X10_helps (va_Pc [.ref a_m] (gPre (dC, dI) (tyl cI cC cZ cB cJ) (wd_X10_helps cI cC cZ cB cJ a_m oJ uD dY iJ lJ jQ jR jW jK pJ bM aY jO gR gY mK jZ iY bG mJ jB mQ lY eJ bY bW aG jG bQ dG jY m_length qG uW eY aJ aB bU dN aR aE bJ aW bT gJ dU bL bR bO mY pW rD m_x jA rW oY pR pX uM tD) sz)) (q_X10_helps dC dI cI cC cZ cB cJ (va_A (wd_X10_helps cI cC cZ cB cJ a_m oJ uD dY iJ lJ jQ jR jW jK pJ bM aY jO gR gY mK jZ iY bG mJ jB mQ lY eJ bY bW aG jG bQ dG jY m_length qG uW eY aJ aB bU dN aR aE bJ aW bT gJ dU bL bR bO mY pW rD m_x jA rW oY pR pX uM tD) sz) a_m oJ uD dY iJ lJ jQ jR jW jK pJ bM aY jO gR gY mK jZ iY bG mJ jB mQ lY eJ bY bW aG jG jY m_length qG uW eY aJ aB bU dN aR aE bJ aW bT gJ bL bR bO mY pW rD m_x jA rW oY pR pX post) 0 0 (va_A (wd_X10_helps cI cC cZ cB cJ a_m oJ uD dY iJ lJ jQ jR jW jK pJ bM aY jO gR gY mK jZ iY bG mJ jB mQ lY eJ bY bW aG jG bQ dG jY m_length qG uW eY aJ aB bU dN aR aE bJ aW bT gJ dU bL bR bO mY pW rD m_x jA rW oY pR pX uM tD) sz) := by
  refine g_enter (own := RX10) (dC, dI) (tyl cI cC cZ cB cJ) (wd_X10_helps cI cC cZ cB cJ a_m oJ uD dY iJ lJ jQ jR jW jK pJ bM aY jO gR gY mK jZ iY bG mJ jB mQ lY eJ bY bW aG jG bQ dG jY m_length qG uW eY aJ aB bU dN aR aE bJ aW bT gJ dU bL bR bO mY pW rD m_x jA rW oY pR pX uM tD) sz [.ref a_m] (fun A => q_X10_helps dC dI cI cC cZ cB cJ A a_m oJ uD dY iJ lJ jQ jR jW jK pJ bM aY jO gR gY mK jZ iY bG mJ jB mQ lY eJ bY bW aG jG jY m_length qG uW eY aJ aB bU dN aR aE bJ aW bT gJ bL bR bO mY pW rD m_x jA rW oY pR pX post) pn_RX10 rfl (Nat.le_of_ble_eq_true rfl) ?_
  intro p e s m args below meth c A H locs ls C0 hP hD hS hl
  have hl : lv_has ls 4 [(0, .ref a_m)] := hl
  obtain ⟨hx, hb, hr, hml, hown, hts, hlocks, hA, hK, hN, tL, tM, hZL, hTL, hZM, hTM, hZX⟩ := id C0
  have hp := hw
  unfold wp_X10_helps at hp
  refine lv_aload_n hx hb eX10_helps_0.1 rfl (lv_at hl 0 rfl) ?_
  refine lv_iconst (v := 0) hx hb eX10_helps_0.2.1 ic_0 ?_
  refine va_put (D := (dC, dI)) (ci := 10) (v := .int 0) (ty := .int) (C := RX10) (T := TX10) (N := 51) hx hb hts i_X10 tyX10 tyX10_ok nmX10 hown hK hP hD hS 0 rfl rfl 14 (Nat.le_of_ble_eq_true rfl) (hts _ q_638) (fun _ h9 => h9) rfl (tyX10_ok 14 (Nat.le_of_ble_eq_true rfl)) rfl rfl (Nat.le_of_ble_eq_true rfl) eX10_helps_0.2.2.1 (fun H locs hP hD hS => ?_)
  have hP : va_P (dC, dI) classes (wd_X10_helps cI cC cZ cB cJ a_m oJ uD dY iJ lJ jQ jR jW jK pJ bM aY jO gR gY mK jZ iY bG mJ jB mQ lY eJ bY bW aG jG bQ 0 jY m_length qG uW eY aJ aB bU dN aR aE bJ aW bT gJ dU bL bR bO mY pW rD m_x jA rW oY pR pX uM tD) H := hP
  have hD : va_D A (wd_X10_helps cI cC cZ cB cJ a_m oJ uD dY iJ lJ jQ jR jW jK pJ bM aY jO gR gY mK jZ iY bG mJ jB mQ lY eJ bY bW aG jG bQ 0 jY m_length qG uW eY aJ aB bU dN aR aE bJ aW bT gJ dU bL bR bO mY pW rD m_x jA rW oY pR pX uM tD) := hD
  refine lv_aload_n hx hb eX10_helps_0.2.2.2.1 rfl (lv_at hl 0 rfl) ?_
  refine lv_iconst (v := 0) hx hb eX10_helps_0.2.2.2.2.1 ic_0 ?_
  have hm := mgk (wc := (wd_X10_layHands_ cI cC cZ cB cJ a_m oJ uD dY iJ lJ jQ jR jW jK pJ bM aY jO gR gY mK jZ iY bG mJ jB mQ lY eJ bY bW aG jG bQ 0 jY m_length qG uW eY aJ aB bU dN aR aE bJ aW bT gJ dU bL bR bO mY pW rD m_x jA rW oY pR pX tD)) hP aBa 10 rfl rfl rfl
  refine g_callv hP hD hS hA (mixT aBa) (mixF aBa) hm.1 hm.2 (nd_F _) (dis_g _) (g_runV (As := [.int 0]) (rest := []) C0 hP hD hS (mixT aBa) hm.1 (nd_T _) 0 10 rfl rfl (c_X10_layHands_ l dC dI cI cC cZ cB cJ a_m oJ uD dY iJ lJ jQ jR jW jK pJ bM aY jO gR gY mK jZ iY bG mJ jB mQ lY eJ bY H.size 0 bW aG jG bQ 0 jY m_length qG uW eY aJ aB bU dN aR aE bJ aW bT gJ dU bL bR bO mY pW rD m_x jA rW oY pR pX tD _ hp) q_879 q_882 q_880 q_881 q_642 h_X10_layHands_ rfl rfl ⟨Nat.le_of_ble_eq_true rfl, Nat.le_of_ble_eq_true rfl⟩ rfl rfl hl.1 rfl (lv_room (Nat.le_of_ble_eq_true rfl)) eX10_helps_0.2.2.2.2.2.1 ⟨Nat.zero_le _, Nat.zero_le _⟩) (fun u H locs hp hP hD hS => ?_)
  obtain ⟨xX, zP⟩ := u
  have hPD := PDm (ws' := (wd_X10_helps cI cC cZ cB cJ a_m oJ uD dY iJ lJ jQ jR jW jK pJ bM aY jO gR gY mK jZ iY bG mJ jB mQ lY eJ bY bW aG jG bQ 0 jY m_length qG uW eY aJ aB bU dN aR aE bJ aW bT gJ xX bL bR bO mY pW rD m_x jA rW oY pR pX uM zP)) hP hD 10 rfl rfl rfl
  have hP := hPD.1
  have hD := hPD.2
  refine lv_aload_n hx hb eX10_helps_0.2.2.2.2.2.2.1 rfl (lv_at hl 0 rfl) ?_
  refine lv_aload_n hx hb eX10_helps_0.2.2.2.2.2.2.2.1 rfl (lv_at hl 0 rfl) ?_
  refine va_get (D := (dC, dI)) (ci := 10) (v := .int xX) (C := RX10) (T := TX10) (N := 51) hx hb hts i_X10 hown hK hP 0 rfl rfl 37 (Nat.le_of_ble_eq_true rfl) (hts _ q_878) (fun _ h9 => h9) rfl eX10_helps_0.2.2.2.2.2.2.2.2.1 ?_
  have hm := mgk (wc := (wd_X10_cover cI cC cZ cB cJ a_m oJ uD dY iJ lJ jQ jR jW jK pJ bM aY jO gR gY mK jZ iY bG mJ jB mQ lY eJ bY bW aG jG bQ 0 jY m_length qG uW eY aJ aB bU dN aR aE bJ aW bT gJ xX bL bR bO mY pW zP)) hP aBr 10 rfl rfl rfl
  refine g_calli hP hD hS hA (mixT aBr) (mixF aBr) hm.1 hm.2 (nd_F _) (dis_g _) (g_runV (As := [.int xX]) (rest := []) C0 hP hD hS (mixT aBr) hm.1 (nd_T _) 0 10 rfl rfl (c_X10_cover l dC dI cI cC cZ cB cJ a_m oJ uD dY iJ lJ jQ jR jW jK pJ bM aY jO gR gY mK jZ iY bG mJ jB mQ lY eJ bY H.size xX bW aG jG bQ 0 jY m_length qG uW eY aJ aB bU dN aR aE bJ aW bT gJ xX bL bR bO mY pW zP _ hp) q_898 q_901 q_899 q_900 q_642 h_X10_cover rfl rfl ⟨Nat.le_of_ble_eq_true rfl, Nat.le_of_ble_eq_true rfl⟩ rfl rfl hl.1 rfl (lv_room (Nat.le_of_ble_eq_true rfl)) eX10_helps_0.2.2.2.2.2.2.2.2.2.1 ⟨Nat.zero_le _, Nat.zero_le _⟩) (fun r_3 u H locs hp hP hD hS => ?_)
  have hPD := PDm (ws' := (wd_X10_helps cI cC cZ cB cJ a_m oJ uD dY iJ lJ jQ jR jW jK pJ bM aY jO gR gY mK jZ iY bG mJ jB mQ lY eJ bY bW aG jG bQ 0 jY m_length qG uW eY aJ aB bU dN aR aE bJ aW bT gJ xX bL bR bO mY pW rD m_x jA rW oY pR pX uM zP)) hP hD 10 rfl rfl rfl
  have hP := hPD.1
  have hD := hPD.2
  have hm := mgk (wc := (wd_J6_bitCount_0f7a4 cI cC cZ cB cJ)) hP zH 10 rfl rfl rfl
  refine g_calli hP hD hS hA (mixT zH) (mixF zH) hm.1 hm.2 (nd_F _) (dis_g _) (g_runS (As := [.int r_3]) (rest := []) C0 hP hD hS (mixT zH) hm.1 (nd_T _) (c_J6_bitCount_0f7a4 l dC dI cI cC cZ cB cJ H.size r_3 _ hp) q_320 q_803 q_322 q_321 h_J6_bitCount_0f7a4 rfl rfl ⟨Nat.le_of_ble_eq_true rfl, Nat.le_of_ble_eq_true rfl⟩ rfl rfl hl.1 rfl (lv_room (Nat.le_of_ble_eq_true rfl)) eX10_helps_0.2.2.2.2.2.2.2.2.2.2.1 ⟨Nat.zero_le _, Nat.zero_le _⟩) (fun r_4 u H locs hp hP hD hS => ?_)
  have hPD := PDm (ws' := (wd_X10_helps cI cC cZ cB cJ a_m oJ uD dY iJ lJ jQ jR jW jK pJ bM aY jO gR gY mK jZ iY bG mJ jB mQ lY eJ bY bW aG jG bQ 0 jY m_length qG uW eY aJ aB bU dN aR aE bJ aW bT gJ xX bL bR bO mY pW rD m_x jA rW oY pR pX uM zP)) hP hD 10 rfl rfl rfl
  have hP := hPD.1
  have hD := hPD.2
  refine lv_istore_n (lv' := [(1, .int r_4), (0, .ref a_m)]) hx hb eX10_helps_0.2.2.2.2.2.2.2.2.2.2.2.1 rfl hl (by decide) rfl (fun ls hl => ?_)
  refine lv_aload_n hx hb eX10_helps_0.2.2.2.2.2.2.2.2.2.2.2.2.1 rfl (lv_at hl 1 rfl) ?_
  refine va_get (D := (dC, dI)) (ci := 10) (v := .int xX) (C := RX10) (T := TX10) (N := 51) hx hb hts i_X10 hown hK hP 0 rfl rfl 37 (Nat.le_of_ble_eq_true rfl) (hts _ q_878) (fun _ h9 => h9) rfl eX10_helps_0.2.2.2.2.2.2.2.2.2.2.2.2.2.1 ?_
  have hm := mgk (wc := (wd_J6_bitCount_0f7a4 cI cC cZ cB cJ)) hP zH 10 rfl rfl rfl
  refine g_calli hP hD hS hA (mixT zH) (mixF zH) hm.1 hm.2 (nd_F _) (dis_g _) (g_runS (As := [.int xX]) (rest := []) C0 hP hD hS (mixT zH) hm.1 (nd_T _) (c_J6_bitCount_0f7a4 l dC dI cI cC cZ cB cJ H.size xX _ hp) q_320 q_803 q_322 q_321 h_J6_bitCount_0f7a4 rfl rfl ⟨Nat.le_of_ble_eq_true rfl, Nat.le_of_ble_eq_true rfl⟩ rfl rfl hl.1 rfl (lv_room (Nat.le_of_ble_eq_true rfl)) eX10_helps_0.2.2.2.2.2.2.2.2.2.2.2.2.2.2.1 ⟨Nat.zero_le _, Nat.zero_le _⟩) (fun r_5 u H locs hp hP hD hS => ?_)
  have hPD := PDm (ws' := (wd_X10_helps cI cC cZ cB cJ a_m oJ uD dY iJ lJ jQ jR jW jK pJ bM aY jO gR gY mK jZ iY bG mJ jB mQ lY eJ bY bW aG jG bQ 0 jY m_length qG uW eY aJ aB bU dN aR aE bJ aW bT gJ xX bL bR bO mY pW rD m_x jA rW oY pR pX uM zP)) hP hD 10 rfl rfl rfl
  have hP := hPD.1
  have hD := hPD.2
  refine lv_istore_n (lv' := [(2, .int r_5), (1, .int r_4), (0, .ref a_m)]) hx hb eX10_helps_0.2.2.2.2.2.2.2.2.2.2.2.2.2.2.2 rfl hl (by decide) rfl (fun ls hl => ?_)
  refine lv_aload_n hx hb eX10_helps_30.1 rfl (lv_at hl 2 rfl) ?_
  refine lv_iconst (v := 1) hx hb eX10_helps_30.2.1 ic_1 ?_
  have hm := mgk (wc := (wd_X10_layHands_ cI cC cZ cB cJ a_m oJ uD dY iJ lJ jQ jR jW jK pJ bM aY jO gR gY mK jZ iY bG mJ jB mQ lY eJ bY bW aG jG bQ 0 jY m_length qG uW eY aJ aB bU dN aR aE bJ aW bT gJ xX bL bR bO mY pW rD m_x jA rW oY pR pX zP)) hP aBa 10 rfl rfl rfl
  refine g_callv hP hD hS hA (mixT aBa) (mixF aBa) hm.1 hm.2 (nd_F _) (dis_g _) (g_runV (As := [.int 1]) (rest := []) C0 hP hD hS (mixT aBa) hm.1 (nd_T _) 0 10 rfl rfl (c_X10_layHands_ l dC dI cI cC cZ cB cJ a_m oJ uD dY iJ lJ jQ jR jW jK pJ bM aY jO gR gY mK jZ iY bG mJ jB mQ lY eJ bY H.size 1 bW aG jG bQ 0 jY m_length qG uW eY aJ aB bU dN aR aE bJ aW bT gJ xX bL bR bO mY pW rD m_x jA rW oY pR pX zP _ hp) q_879 q_882 q_880 q_881 q_642 h_X10_layHands_ rfl rfl ⟨Nat.le_of_ble_eq_true rfl, Nat.le_of_ble_eq_true rfl⟩ rfl rfl hl.1 rfl (lv_room (Nat.le_of_ble_eq_true rfl)) eX10_helps_30.2.2.1 ⟨Nat.zero_le _, Nat.zero_le _⟩) (fun u H locs hp hP hD hS => ?_)
  obtain ⟨aAw, aGt⟩ := u
  have hPD := PDm (ws' := (wd_X10_helps cI cC cZ cB cJ a_m oJ uD dY iJ lJ jQ jR jW jK pJ bM aY jO gR gY mK jZ iY bG mJ jB mQ lY eJ bY bW aG jG bQ 0 jY m_length qG uW eY aJ aB bU dN aR aE bJ aW bT gJ aAw bL bR bO mY pW rD m_x jA rW oY pR pX uM aGt)) hP hD 10 rfl rfl rfl
  have hP := hPD.1
  have hD := hPD.2
  refine lv_aload_n hx hb eX10_helps_30.2.2.2.1 rfl (lv_at hl 2 rfl) ?_
  refine lv_aload_n hx hb eX10_helps_30.2.2.2.2.1 rfl (lv_at hl 2 rfl) ?_
  refine va_get (D := (dC, dI)) (ci := 10) (v := .int aAw) (C := RX10) (T := TX10) (N := 51) hx hb hts i_X10 hown hK hP 0 rfl rfl 37 (Nat.le_of_ble_eq_true rfl) (hts _ q_878) (fun _ h9 => h9) rfl eX10_helps_30.2.2.2.2.2.1 ?_
  have hm := mgk (wc := (wd_X10_cover cI cC cZ cB cJ a_m oJ uD dY iJ lJ jQ jR jW jK pJ bM aY jO gR gY mK jZ iY bG mJ jB mQ lY eJ bY bW aG jG bQ 0 jY m_length qG uW eY aJ aB bU dN aR aE bJ aW bT gJ aAw bL bR bO mY pW aGt)) hP aBr 10 rfl rfl rfl
  refine g_calli hP hD hS hA (mixT aBr) (mixF aBr) hm.1 hm.2 (nd_F _) (dis_g _) (g_runV (As := [.int aAw]) (rest := []) C0 hP hD hS (mixT aBr) hm.1 (nd_T _) 0 10 rfl rfl (c_X10_cover l dC dI cI cC cZ cB cJ a_m oJ uD dY iJ lJ jQ jR jW jK pJ bM aY jO gR gY mK jZ iY bG mJ jB mQ lY eJ bY H.size aAw bW aG jG bQ 0 jY m_length qG uW eY aJ aB bU dN aR aE bJ aW bT gJ aAw bL bR bO mY pW aGt _ hp) q_898 q_901 q_899 q_900 q_642 h_X10_cover rfl rfl ⟨Nat.le_of_ble_eq_true rfl, Nat.le_of_ble_eq_true rfl⟩ rfl rfl hl.1 rfl (lv_room (Nat.le_of_ble_eq_true rfl)) eX10_helps_30.2.2.2.2.2.2.1 ⟨Nat.zero_le _, Nat.zero_le _⟩) (fun r_8 u H locs hp hP hD hS => ?_)
  have hPD := PDm (ws' := (wd_X10_helps cI cC cZ cB cJ a_m oJ uD dY iJ lJ jQ jR jW jK pJ bM aY jO gR gY mK jZ iY bG mJ jB mQ lY eJ bY bW aG jG bQ 0 jY m_length qG uW eY aJ aB bU dN aR aE bJ aW bT gJ aAw bL bR bO mY pW rD m_x jA rW oY pR pX uM aGt)) hP hD 10 rfl rfl rfl
  have hP := hPD.1
  have hD := hPD.2
  have hm := mgk (wc := (wd_J6_bitCount_0f7a4 cI cC cZ cB cJ)) hP zH 10 rfl rfl rfl
  refine g_calli hP hD hS hA (mixT zH) (mixF zH) hm.1 hm.2 (nd_F _) (dis_g _) (g_runS (As := [.int r_8]) (rest := []) C0 hP hD hS (mixT zH) hm.1 (nd_T _) (c_J6_bitCount_0f7a4 l dC dI cI cC cZ cB cJ H.size r_8 _ hp) q_320 q_803 q_322 q_321 h_J6_bitCount_0f7a4 rfl rfl ⟨Nat.le_of_ble_eq_true rfl, Nat.le_of_ble_eq_true rfl⟩ rfl rfl hl.1 rfl (lv_room (Nat.le_of_ble_eq_true rfl)) eX10_helps_30.2.2.2.2.2.2.2.1 ⟨Nat.zero_le _, Nat.zero_le _⟩) (fun r_9 u H locs hp hP hD hS => ?_)
  have hPD := PDm (ws' := (wd_X10_helps cI cC cZ cB cJ a_m oJ uD dY iJ lJ jQ jR jW jK pJ bM aY jO gR gY mK jZ iY bG mJ jB mQ lY eJ bY bW aG jG bQ 0 jY m_length qG uW eY aJ aB bU dN aR aE bJ aW bT gJ aAw bL bR bO mY pW rD m_x jA rW oY pR pX uM aGt)) hP hD 10 rfl rfl rfl
  have hP := hPD.1
  have hD := hPD.2
  refine lv_istore_n (lv' := [(3, .int r_9), (2, .int r_5), (1, .int r_4), (0, .ref a_m)]) hx hb eX10_helps_30.2.2.2.2.2.2.2.2.1 rfl hl (by decide) rfl (fun ls hl => ?_)
  refine lv_aload_n hx hb eX10_helps_30.2.2.2.2.2.2.2.2.2.1 rfl (lv_at hl 3 rfl) ?_
  refine lv_iconst (v := 0) hx hb eX10_helps_30.2.2.2.2.2.2.2.2.2.2.1 ic_0 ?_
  refine va_put (D := (dC, dI)) (ci := 10) (v := .int 0) (ty := .int) (C := RX10) (T := TX10) (N := 51) hx hb hts i_X10 tyX10 tyX10_ok nmX10 hown hK hP hD hS 0 rfl rfl 13 (Nat.le_of_ble_eq_true rfl) (hts _ q_847) (fun _ h9 => h9) rfl (tyX10_ok 13 (Nat.le_of_ble_eq_true rfl)) rfl rfl (Nat.le_of_ble_eq_true rfl) eX10_helps_30.2.2.2.2.2.2.2.2.2.2.2.1 (fun H locs hP hD hS => ?_)
  have hP : va_P (dC, dI) classes (wd_X10_helps cI cC cZ cB cJ a_m oJ uD dY iJ lJ jQ jR jW jK pJ bM aY jO gR gY mK jZ iY bG mJ jB mQ lY eJ bY bW aG jG 0 0 jY m_length qG uW eY aJ aB bU dN aR aE bJ aW bT gJ aAw bL bR bO mY pW rD m_x jA rW oY pR pX uM aGt) H := hP
  have hD : va_D A (wd_X10_helps cI cC cZ cB cJ a_m oJ uD dY iJ lJ jQ jR jW jK pJ bM aY jO gR gY mK jZ iY bG mJ jB mQ lY eJ bY bW aG jG 0 0 jY m_length qG uW eY aJ aB bU dN aR aE bJ aW bT gJ aAw bL bR bO mY pW rD m_x jA rW oY pR pX uM aGt) := hD
  refine lv_aload_n hx hb eX10_helps_30.2.2.2.2.2.2.2.2.2.2.2.2.1 rfl (lv_at hl 3 rfl) ?_
  refine lv_iload_n hx hb eX10_helps_30.2.2.2.2.2.2.2.2.2.2.2.2.2.1 rfl (lv_at hl 1 rfl) ?_
  have hm := mgk (wc := (wd_X10_tell cI cC cZ cB cJ a_m oJ uD dY iJ lJ jQ jR jW jK pJ bM aY jO gR gY mK jZ iY bG mJ jB mQ lY eJ bY bW aG jG 0 0 jY m_length qG uW eY aJ aB bU dN aR aE bJ aW bT gJ aAw bL bR bO mY pW uM)) hP aAN 10 rfl rfl rfl
  refine g_callv hP hD hS hA (mixT aAN) (mixF aAN) hm.1 hm.2 (nd_F _) (dis_g _) (g_runV (As := [.int r_5]) (rest := []) C0 hP hD hS (mixT aAN) hm.1 (nd_T _) 0 10 rfl rfl (c_X10_tell l dC dI cI cC cZ cB cJ a_m oJ uD dY iJ lJ jQ jR jW jK pJ bM aY jO gR gY mK jZ iY bG mJ jB mQ lY eJ bY H.size r_5 bW aG jG 0 0 jY m_length qG uW eY aJ aB bU dN aR aE bJ aW bT gJ aAw bL bR bO mY pW uM _ hp) q_849 q_852 q_850 q_851 q_642 h_X10_tell rfl rfl ⟨Nat.le_of_ble_eq_true rfl, Nat.le_of_ble_eq_true rfl⟩ rfl rfl hl.1 rfl (lv_room (Nat.le_of_ble_eq_true rfl)) eX10_helps_30.2.2.2.2.2.2.2.2.2.2.2.2.2.2.1 ⟨Nat.zero_le _, Nat.zero_le _⟩) (fun u H locs hp hP hD hS => ?_)
  obtain ⟨xW, zG⟩ := u
  have hPD := PDm (ws' := (wd_X10_helps cI cC cZ cB cJ a_m oJ uD dY iJ lJ jQ jR jW jK pJ bM aY jO gR gY mK jZ iY bG mJ jB mQ lY eJ bY bW aG jG xW 0 jY m_length qG uW eY aJ aB bU dN aR aE bJ aW bT gJ aAw bL bR bO mY pW rD m_x jA rW oY pR pX zG aGt)) hP hD 10 rfl rfl rfl
  have hP := hPD.1
  have hD := hPD.2
  refine lv_aload_n hx hb eX10_helps_30.2.2.2.2.2.2.2.2.2.2.2.2.2.2.2 rfl (lv_at hl 3 rfl) ?_
  refine lv_aload_n hx hb eX10_helps_58.1 rfl (lv_at hl 3 rfl) ?_
  refine va_get (D := (dC, dI)) (ci := 10) (v := .int aAw) (C := RX10) (T := TX10) (N := 51) hx hb hts i_X10 hown hK hP 0 rfl rfl 37 (Nat.le_of_ble_eq_true rfl) (hts _ q_878) (fun _ h9 => h9) rfl eX10_helps_58.2.1 ?_
  have hm := mgk (wc := (wd_J6_bitCount_0f7a4 cI cC cZ cB cJ)) hP zH 10 rfl rfl rfl
  refine g_calli hP hD hS hA (mixT zH) (mixF zH) hm.1 hm.2 (nd_F _) (dis_g _) (g_runS (As := [.int aAw]) (rest := [.ref a_m]) C0 hP hD hS (mixT zH) hm.1 (nd_T _) (c_J6_bitCount_0f7a4 l dC dI cI cC cZ cB cJ H.size aAw _ hp) q_320 q_803 q_322 q_321 h_J6_bitCount_0f7a4 rfl rfl ⟨Nat.le_of_ble_eq_true rfl, Nat.le_of_ble_eq_true rfl⟩ rfl rfl hl.1 rfl (lv_room (Nat.le_of_ble_eq_true rfl)) eX10_helps_58.2.2.1 ⟨Nat.zero_le _, Nat.zero_le _⟩) (fun r_12 u H locs hp hP hD hS => ?_)
  have hPD := PDm (ws' := (wd_X10_helps cI cC cZ cB cJ a_m oJ uD dY iJ lJ jQ jR jW jK pJ bM aY jO gR gY mK jZ iY bG mJ jB mQ lY eJ bY bW aG jG xW 0 jY m_length qG uW eY aJ aB bU dN aR aE bJ aW bT gJ aAw bL bR bO mY pW rD m_x jA rW oY pR pX zG aGt)) hP hD 10 rfl rfl rfl
  have hP := hPD.1
  have hD := hPD.2
  have hm := mgk (wc := (wd_X10_tell cI cC cZ cB cJ a_m oJ uD dY iJ lJ jQ jR jW jK pJ bM aY jO gR gY mK jZ iY bG mJ jB mQ lY eJ bY bW aG jG xW 0 jY m_length qG uW eY aJ aB bU dN aR aE bJ aW bT gJ aAw bL bR bO mY pW zG)) hP aAN 10 rfl rfl rfl
  refine g_callv hP hD hS hA (mixT aAN) (mixF aAN) hm.1 hm.2 (nd_F _) (dis_g _) (g_runV (As := [.int r_12]) (rest := []) C0 hP hD hS (mixT aAN) hm.1 (nd_T _) 0 10 rfl rfl (c_X10_tell l dC dI cI cC cZ cB cJ a_m oJ uD dY iJ lJ jQ jR jW jK pJ bM aY jO gR gY mK jZ iY bG mJ jB mQ lY eJ bY H.size r_12 bW aG jG xW 0 jY m_length qG uW eY aJ aB bU dN aR aE bJ aW bT gJ aAw bL bR bO mY pW zG _ hp) q_849 q_852 q_850 q_851 q_642 h_X10_tell rfl rfl ⟨Nat.le_of_ble_eq_true rfl, Nat.le_of_ble_eq_true rfl⟩ rfl rfl hl.1 rfl (lv_room (Nat.le_of_ble_eq_true rfl)) eX10_helps_58.2.2.2.1 ⟨Nat.zero_le _, Nat.zero_le _⟩) (fun u H locs hp hP hD hS => ?_)
  obtain ⟨aBe, aGq⟩ := u
  have hPD := PDm (ws' := (wd_X10_helps cI cC cZ cB cJ a_m oJ uD dY iJ lJ jQ jR jW jK pJ bM aY jO gR gY mK jZ iY bG mJ jB mQ lY eJ bY bW aG jG aBe 0 jY m_length qG uW eY aJ aB bU dN aR aE bJ aW bT gJ aAw bL bR bO mY pW rD m_x jA rW oY pR pX aGq aGt)) hP hD 10 rfl rfl rfl
  have hP := hPD.1
  have hD := hPD.2
  refine lv_iload_n hx hb eX10_helps_58.2.2.2.2.1 rfl (lv_at hl 2 rfl) ?_
  refine lv_iload_n hx hb eX10_helps_58.2.2.2.2.2.1 rfl (lv_at hl 0 rfl) ?_
  refine lv_isub hx hb eX10_helps_58.2.2.2.2.2.2.1 ?_
  exact W.iret (v := r_4 - r_9) hx hb hr (fun t ht hW => ⟨⟨r_4 - r_9, (aBe, 0, aAw, aGq, aGt), rfl, hp, by rw [ht]; exact hP, va_K.moved hW.alike hK, hD⟩, hS.F ht⟩) hS.2.2 eX10_helps_58.2.2.2.2.2.2.2
noncomputable abbrev wd_X10_hooked (cI cC cZ cB cJ : ClassId) (a_m oJ uD dY iJ lJ jQ jR jW jK pJ bM aY jO gR gY mK jZ iY bG mJ jB mQ lY eJ bY : Nat) (bW aG jG bQ dG : Int32) (jY : Nat) (m_length qG uW eY aJ aB bU dN aR aE bJ aW bT gJ dU bL bR bO mY pW : Int32) (rD m_x jA rW oY pR pX uM tD : Nat → Int32) : va_W := [(a_m, .inr (10, [.ref oJ, .int bW, .ref uD, .ref dY, .ref iJ, .ref lJ, .int aG, .ref jQ, .ref jR, .ref jW, .ref jK, .int jG, .ref pJ, .int bQ, .int dG, rdv jK jO jY, .int m_length, .int qG, .int uW, .int eY, .ref bM, .ref aY, .int aJ, .int aB, .ref jO, .int bU, .int dN, .int aR, .int aE, .int bJ, .int aW, .ref gR, .int bT, .ref gY, .ref mK, .int gJ, .ref jZ, .int dU, .ref iY, .ref bG, .int bL, .int bR, .int bO, .ref mJ, .ref jB, .ref mQ, .int mY, .int pW, .ref lY, .ref eJ, .ref bY])), (oJ, .inl (cI, 21, .inl rD)), (uD, .inl (cI, 16, .inl m_x)), (dY, .inl (cI, 16, .inl jA)), (lJ, .inl (cI, 16, .inl rW)), (jQ, .inl (cI, 8, .inl oY)), (jR, .inl (cI, 8, .inl pR)), (jW, .inl (cI, 5, .inl pX)), (pJ, .inl (cI, 32, .inl uM)), (jZ, .inl (cI, 8, .inl tD))]
noncomputable abbrev q_X10_hooked (dC : Nat → ClassId) (dI : Nat → Nat → Nat) (cI cC cZ cB cJ : ClassId) (A : Nat → Prop) (a_m oJ uD dY iJ lJ jQ jR jW jK pJ bM aY jO gR gY mK jZ iY bG mJ jB mQ lY eJ bY : Nat) (bW aG jG : Int32) (jY : Nat) (m_length qG uW eY aJ aB bU dN aR aE bJ aW bT gJ bL bR bO mY pW : Int32) (rD m_x jA rW oY pR pX : Nat → Int32) (post : Int32 → Int32 → Int32 → Int32 → (Nat → Int32) → (Nat → Int32) → Prop) : Array Value → State → Outcome → State → Prop := va_Qi (fun (r : Int32) (u : Int32 × Int32 × Int32 × (Nat → Int32) × (Nat → Int32)) => post r u.1 u.2.1 u.2.2.1 u.2.2.2.1 u.2.2.2.2) (fun u t => gB (dC, dI) (tyl cI cC cZ cB cJ) A (wd_X10_hooked cI cC cZ cB cJ a_m oJ uD dY iJ lJ jQ jR jW jK pJ bM aY jO gR gY mK jZ iY bG mJ jB mQ lY eJ bY bW aG jG u.1 u.2.1 jY m_length qG uW eY aJ aB bU dN aR aE bJ aW bT gJ u.2.2.1 bL bR bO mY pW rD m_x jA rW oY pR pX u.2.2.2.1 u.2.2.2.2) t) A
noncomputable abbrev rm_X10_hooked : Room := { frames := 6, cells := 0, slots := 0, locals := 133 }
section S_X10_hooked
variable {p : Program} {l : Launch} {e : Env} {s : State} {m : MethodId} {args : Array Value} {below : List Frame} {meth : Method} {c : Code} {dC : Nat → ClassId} {dI : Nat → Nat → Nat} {cI cC cZ cB cJ : ClassId} {A : Nat → Prop} {a_m oJ uD dY iJ lJ jQ jR jW jK pJ bM aY jO gR gY mK jZ iY bG mJ jB mQ lY eJ bY : Nat} {bW aG jG : Int32} {jY : Nat} {m_length qG uW eY aJ aB bU dN aR aE bJ aW bT gJ bL bR bO mY pW : Int32} {rD m_x jA rW oY pR pX : Nat → Int32} {post : Int32 → Int32 → Int32 → Int32 → (Nat → Int32) → (Nat → Int32) → Prop}
noncomputable def ws_X10_hooked_107 (post : Int32 → Int32 → Int32 → Int32 → (Nat → Int32) → (Nat → Int32) → Prop) (K52 : Int32 → Int32 → Int32 → Int32 → Int32 → Int32 → Int32 → Int32 → (Nat → Int32) → (Nat → Int32) → Prop) (bW aG : Int32) (rD m_x jA rW oY pR pX : Nat → Int32) (x1 x2 x3 x4 x5 bQ dG dU : Int32) (uM tD : Nat → Int32) : Prop := ∀ v_20 : Int32, v_20 = x5 + 1 → K52 x1 x2 x3 x4 v_20 bQ dG dU uM tD
set_option maxHeartbeats 4000000 in
set_option maxRecDepth 100000 in
theorem ks_X10_hooked_107 (C0 : gc cX10_hooked (some .int) 7 RX10 (dC, dI) (tyl cI cC cZ cB cJ) A p s m args meth c) {K52 : Int32 → Int32 → Int32 → Int32 → Int32 → Int32 → Int32 → Int32 → (Nat → Int32) → (Nat → Int32) → Prop} (hK52 : ∀ (x1 : Int32) (x2 : Int32) (x3 : Int32) (x4 : Int32) (x5 : Int32) (bQ : Int32) (dG : Int32) (dU : Int32) (uM : Nat → Int32) (tD : Nat → Int32) (H : Heap) (locs : List Loc) (ls : Array Slot), K52 x1 x2 x3 x4 x5 bQ dG dU uM tD → va_P (dC, dI) classes (wd_X10_hooked cI cC cZ cB cJ a_m oJ uD dY iJ lJ jQ jR jW jK pJ bM aY jO gR gY mK jZ iY bG mJ jB mQ lY eJ bY bW aG jG bQ dG jY m_length qG uW eY aJ aB bU dN aR aE bJ aW bT gJ dU bL bR bO mY pW rD m_x jA rW oY pR pX uM tD) H → va_D A (wd_X10_hooked cI cC cZ cB cJ a_m oJ uD dY iJ lJ jQ jR jW jK pJ bM aY jO gR gY mK jZ iY bG mJ jB mQ lY eJ bY bW aG jG bQ dG jY m_length qG uW eY aJ aB bU dN aR aE bJ aW bT gJ dU bL bR bO mY pW rD m_x jA rW oY pR pX uM tD) → va_S A s.heap H locs → lv_has ls 7 [(0, .ref a_m), (1, .int x1), (2, .int x2), (3, .int x3), (4, .int x4), (5, .int x5)] → W p l e rm_X10_hooked s m args below meth c H locs 0 0 (MQ below (q_X10_hooked dC dI cI cC cZ cB cJ A a_m oJ uD dY iJ lJ jQ jR jW jK pJ bM aY jO gR gY mK jZ iY bG mJ jB mQ lY eJ bY bW aG jG jY m_length qG uW eY aJ aB bU dN aR aE bJ aW bT gJ bL bR bO mY pW rD m_x jA rW oY pR pX post) args s 0 0 A) (F0 m 52 ls [])) : ∀ (x1 x2 x3 x4 x5 bQ dG dU : Int32) (uM tD : Nat → Int32) (H : Heap) (locs : List Loc) (ls : Array Slot), (ws_X10_hooked_107 post K52 bW aG rD m_x jA rW oY pR pX) x1 x2 x3 x4 x5 bQ dG dU uM tD → va_P (dC, dI) classes (wd_X10_hooked cI cC cZ cB cJ a_m oJ uD dY iJ lJ jQ jR jW jK pJ bM aY jO gR gY mK jZ iY bG mJ jB mQ lY eJ bY bW aG jG bQ dG jY m_length qG uW eY aJ aB bU dN aR aE bJ aW bT gJ dU bL bR bO mY pW rD m_x jA rW oY pR pX uM tD) H → va_D A (wd_X10_hooked cI cC cZ cB cJ a_m oJ uD dY iJ lJ jQ jR jW jK pJ bM aY jO gR gY mK jZ iY bG mJ jB mQ lY eJ bY bW aG jG bQ dG jY m_length qG uW eY aJ aB bU dN aR aE bJ aW bT gJ dU bL bR bO mY pW rD m_x jA rW oY pR pX uM tD) → va_S A s.heap H locs → lv_has ls 7 [(0, .ref a_m), (1, .int x1), (2, .int x2), (3, .int x3), (4, .int x4), (5, .int x5)] → W p l e rm_X10_hooked s m args below meth c H locs 0 0 (MQ below (q_X10_hooked dC dI cI cC cZ cB cJ A a_m oJ uD dY iJ lJ jQ jR jW jK pJ bM aY jO gR gY mK jZ iY bG mJ jB mQ lY eJ bY bW aG jG jY m_length qG uW eY aJ aB bU dN aR aE bJ aW bT gJ bL bR bO mY pW rD m_x jA rW oY pR pX post) args s 0 0 A) (F0 m 107 ls []) := by
  obtain ⟨hx, hb, hr, hml, hown, hts, hlocks, hA, hK, hN, tL, tM, hZL, hTL, hZM, hTM, hZX⟩ := id C0
  intro x1 x2 x3 x4 x5 bQ dG dU uM tD H locs ls hp hP hD hS hl
  unfold ws_X10_hooked_107 at hp
  obtain ⟨v_20, ev_20⟩ : ∃ y : Int32, y = x5 + 1 := ⟨_, rfl⟩
  refine lv_iinc (v := v_20) (lv' := [(5, .int v_20), (0, .ref a_m), (1, .int x1), (2, .int x2), (3, .int x3), (4, .int x4)]) hx hb eX10_hooked_79.2.2.2.2.2.2.2.2.2.2.2.2.2.2.1 hl (k := 5) rfl (by rw [ev_20]; rfl) (by decide) rfl (fun ls hl => ?_)
  have hp := hp v_20 ev_20
  refine lv_goto (tgt := 52) hx hb eX10_hooked_79.2.2.2.2.2.2.2.2.2.2.2.2.2.2.2 (by decide) ?_
  exact hK52 x1 x2 x3 x4 v_20 bQ dG dU uM tD H locs ls hp hP hD hS (lv_sub hl [1, 2, 3, 4, 5, 0] rfl)
noncomputable def ws_X10_hooked_52 (post : Int32 → Int32 → Int32 → Int32 → (Nat → Int32) → (Nat → Int32) → Prop) (next : Int32 → Int32 → Int32 → Int32 → Int32 → Int32 → Int32 → Int32 → (Nat → Int32) → (Nat → Int32) → Prop) (bW aG : Int32) (rD m_x jA rW oY pR pX : Nat → Int32) (x1 x2 x3 x4 x5 bQ dG dU : Int32) (uM tD : Nat → Int32) : Prop := (aG ≤ x5 → wp_X10_tell (fun xW zG => wp_X10_tell (fun aBf aGu => post x2 aBf dG dU aGu tD) x4 xW zG) x3 0 uM) ∧ (¬ aG ≤ x5 → ∀ v_14 : Int32, v_14 = rD (18 : Int32).toNatClampNeg → wp_X10_reachedFrom (fun r_15 => ∀ v_16 : Int32, v_16 = x1 &&& r_15 → ∀ v_17 : Int32, v_17 = x2 ||| v_16 → wp_J6_bitCount_0f7a4 (fun r_18 => (x4 < r_18 → wp_J6_bitCount_0f7a4 (fun r_19 => ws_X10_hooked_107 post next bW aG rD m_x jA rW oY pR pX x1 v_17 x5 r_19 x5 bQ dG dU uM tD) v_16) ∧ (¬ x4 < r_18 → ws_X10_hooked_107 post next bW aG rD m_x jA rW oY pR pX x1 v_17 x3 x4 x5 bQ dG dU uM tD)) v_16) x5 v_14 1 bW m_x jA oY pR pX)
noncomputable def wb_X10_hooked_52 (post : Int32 → Int32 → Int32 → Int32 → (Nat → Int32) → (Nat → Int32) → Prop) (bW aG : Int32) (rD m_x jA rW oY pR pX : Nat → Int32) : Nat → Int32 → Int32 → Int32 → Int32 → Int32 → Int32 → Int32 → Int32 → (Nat → Int32) → (Nat → Int32) → Prop := fun n => Nat.rec (motive := fun _ => Int32 → Int32 → Int32 → Int32 → Int32 → Int32 → Int32 → Int32 → (Nat → Int32) → (Nat → Int32) → Prop) (fun _ _ _ _ _ _ _ _ _ _ => False) (fun _ ih => ws_X10_hooked_52 post ih bW aG rD m_x jA rW oY pR pX) n
set_option maxHeartbeats 4000000 in
set_option maxRecDepth 100000 in
theorem ks_X10_hooked_52 (C0 : gc cX10_hooked (some .int) 7 RX10 (dC, dI) (tyl cI cC cZ cB cJ) A p s m args meth c) {next : Int32 → Int32 → Int32 → Int32 → Int32 → Int32 → Int32 → Int32 → (Nat → Int32) → (Nat → Int32) → Prop} (hKn : ∀ (x1 : Int32) (x2 : Int32) (x3 : Int32) (x4 : Int32) (x5 : Int32) (bQ : Int32) (dG : Int32) (dU : Int32) (uM : Nat → Int32) (tD : Nat → Int32) (H : Heap) (locs : List Loc) (ls : Array Slot), next x1 x2 x3 x4 x5 bQ dG dU uM tD → va_P (dC, dI) classes (wd_X10_hooked cI cC cZ cB cJ a_m oJ uD dY iJ lJ jQ jR jW jK pJ bM aY jO gR gY mK jZ iY bG mJ jB mQ lY eJ bY bW aG jG bQ dG jY m_length qG uW eY aJ aB bU dN aR aE bJ aW bT gJ dU bL bR bO mY pW rD m_x jA rW oY pR pX uM tD) H → va_D A (wd_X10_hooked cI cC cZ cB cJ a_m oJ uD dY iJ lJ jQ jR jW jK pJ bM aY jO gR gY mK jZ iY bG mJ jB mQ lY eJ bY bW aG jG bQ dG jY m_length qG uW eY aJ aB bU dN aR aE bJ aW bT gJ dU bL bR bO mY pW rD m_x jA rW oY pR pX uM tD) → va_S A s.heap H locs → lv_has ls 7 [(0, .ref a_m), (1, .int x1), (2, .int x2), (3, .int x3), (4, .int x4), (5, .int x5)] → W p l e rm_X10_hooked s m args below meth c H locs 0 0 (MQ below (q_X10_hooked dC dI cI cC cZ cB cJ A a_m oJ uD dY iJ lJ jQ jR jW jK pJ bM aY jO gR gY mK jZ iY bG mJ jB mQ lY eJ bY bW aG jG jY m_length qG uW eY aJ aB bU dN aR aE bJ aW bT gJ bL bR bO mY pW rD m_x jA rW oY pR pX post) args s 0 0 A) (F0 m 52 ls [])) : ∀ (x1 x2 x3 x4 x5 bQ dG dU : Int32) (uM tD : Nat → Int32) (H : Heap) (locs : List Loc) (ls : Array Slot), (ws_X10_hooked_52 post next bW aG rD m_x jA rW oY pR pX) x1 x2 x3 x4 x5 bQ dG dU uM tD → va_P (dC, dI) classes (wd_X10_hooked cI cC cZ cB cJ a_m oJ uD dY iJ lJ jQ jR jW jK pJ bM aY jO gR gY mK jZ iY bG mJ jB mQ lY eJ bY bW aG jG bQ dG jY m_length qG uW eY aJ aB bU dN aR aE bJ aW bT gJ dU bL bR bO mY pW rD m_x jA rW oY pR pX uM tD) H → va_D A (wd_X10_hooked cI cC cZ cB cJ a_m oJ uD dY iJ lJ jQ jR jW jK pJ bM aY jO gR gY mK jZ iY bG mJ jB mQ lY eJ bY bW aG jG bQ dG jY m_length qG uW eY aJ aB bU dN aR aE bJ aW bT gJ dU bL bR bO mY pW rD m_x jA rW oY pR pX uM tD) → va_S A s.heap H locs → lv_has ls 7 [(0, .ref a_m), (1, .int x1), (2, .int x2), (3, .int x3), (4, .int x4), (5, .int x5)] → W p l e rm_X10_hooked s m args below meth c H locs 0 0 (MQ below (q_X10_hooked dC dI cI cC cZ cB cJ A a_m oJ uD dY iJ lJ jQ jR jW jK pJ bM aY jO gR gY mK jZ iY bG mJ jB mQ lY eJ bY bW aG jG jY m_length qG uW eY aJ aB bU dN aR aE bJ aW bT gJ bL bR bO mY pW rD m_x jA rW oY pR pX post) args s 0 0 A) (F0 m 52 ls []) := by
  obtain ⟨hx, hb, hr, hml, hown, hts, hlocks, hA, hK, hN, tL, tM, hZL, hTL, hZM, hTM, hZX⟩ := id C0
  intro x1 x2 x3 x4 x5 bQ dG dU uM tD H locs ls hp hP hD hS hl
  unfold ws_X10_hooked_52 at hp
  refine lv_iload hx hb eX10_hooked_50.2.1 (lv_at hl 5 rfl) ?_
  refine lv_aload_n hx hb eX10_hooked_50.2.2.1 rfl (lv_at hl 0 rfl) ?_
  refine va_get (D := (dC, dI)) (ci := 10) (v := .int aG) (C := RX10) (T := TX10) (N := 51) hx hb hts i_X10 hown hK hP 0 rfl rfl 6 (Nat.le_of_ble_eq_true rfl) (hts _ q_666) (fun _ h9 => h9) rfl eX10_hooked_50.2.2.2.1 ?_
  refine lv_icmp_ge (tgt := 113) hx hb eX10_hooked_50.2.2.2.2.1 (by decide) (fun hc => ?_) (fun hc => ?_)
  · have hp := hp.1 hc
    refine lv_aload_n hx hb eX10_hooked_113.1 rfl (lv_at hl 0 rfl) ?_
    refine lv_iconst (v := 0) hx hb eX10_hooked_113.2.1 ic_0 ?_
    refine va_put (D := (dC, dI)) (ci := 10) (v := .int 0) (ty := .int) (C := RX10) (T := TX10) (N := 51) hx hb hts i_X10 tyX10 tyX10_ok nmX10 hown hK hP hD hS 0 rfl rfl 13 (Nat.le_of_ble_eq_true rfl) (hts _ q_847) (fun _ h9 => h9) rfl (tyX10_ok 13 (Nat.le_of_ble_eq_true rfl)) rfl rfl (Nat.le_of_ble_eq_true rfl) eX10_hooked_113.2.2.1 (fun H locs hP hD hS => ?_)
    have hP : va_P (dC, dI) classes (wd_X10_hooked cI cC cZ cB cJ a_m oJ uD dY iJ lJ jQ jR jW jK pJ bM aY jO gR gY mK jZ iY bG mJ jB mQ lY eJ bY bW aG jG 0 dG jY m_length qG uW eY aJ aB bU dN aR aE bJ aW bT gJ dU bL bR bO mY pW rD m_x jA rW oY pR pX uM tD) H := hP
    have hD : va_D A (wd_X10_hooked cI cC cZ cB cJ a_m oJ uD dY iJ lJ jQ jR jW jK pJ bM aY jO gR gY mK jZ iY bG mJ jB mQ lY eJ bY bW aG jG 0 dG jY m_length qG uW eY aJ aB bU dN aR aE bJ aW bT gJ dU bL bR bO mY pW rD m_x jA rW oY pR pX uM tD) := hD
    refine lv_aload_n hx hb eX10_hooked_113.2.2.2.1 rfl (lv_at hl 0 rfl) ?_
    refine lv_iload_n hx hb eX10_hooked_113.2.2.2.2.1 rfl (lv_at hl 3 rfl) ?_
    have hm := mgk (wc := (wd_X10_tell cI cC cZ cB cJ a_m oJ uD dY iJ lJ jQ jR jW jK pJ bM aY jO gR gY mK jZ iY bG mJ jB mQ lY eJ bY bW aG jG 0 dG jY m_length qG uW eY aJ aB bU dN aR aE bJ aW bT gJ dU bL bR bO mY pW uM)) hP aAN 10 rfl rfl rfl
    refine g_callv hP hD hS hA (mixT aAN) (mixF aAN) hm.1 hm.2 (nd_F _) (dis_g _) (g_runV (As := [.int x3]) (rest := []) C0 hP hD hS (mixT aAN) hm.1 (nd_T _) 0 10 rfl rfl (c_X10_tell l dC dI cI cC cZ cB cJ a_m oJ uD dY iJ lJ jQ jR jW jK pJ bM aY jO gR gY mK jZ iY bG mJ jB mQ lY eJ bY H.size x3 bW aG jG 0 dG jY m_length qG uW eY aJ aB bU dN aR aE bJ aW bT gJ dU bL bR bO mY pW uM _ hp) q_849 q_852 q_850 q_851 q_642 h_X10_tell rfl rfl ⟨Nat.le_of_ble_eq_true rfl, Nat.le_of_ble_eq_true rfl⟩ rfl rfl hl.1 rfl (lv_room (Nat.le_of_ble_eq_true rfl)) eX10_hooked_113.2.2.2.2.2.1 ⟨Nat.zero_le _, Nat.zero_le _⟩) (fun u H locs hp hP hD hS => ?_)
    obtain ⟨xW, zG⟩ := u
    have hPD := PDm (ws' := (wd_X10_hooked cI cC cZ cB cJ a_m oJ uD dY iJ lJ jQ jR jW jK pJ bM aY jO gR gY mK jZ iY bG mJ jB mQ lY eJ bY bW aG jG xW dG jY m_length qG uW eY aJ aB bU dN aR aE bJ aW bT gJ dU bL bR bO mY pW rD m_x jA rW oY pR pX zG tD)) hP hD 10 rfl rfl rfl
    have hP := hPD.1
    have hD := hPD.2
    refine lv_aload_n hx hb eX10_hooked_113.2.2.2.2.2.2.1 rfl (lv_at hl 0 rfl) ?_
    refine lv_iload hx hb eX10_hooked_113.2.2.2.2.2.2.2.1 (lv_at hl 4 rfl) ?_
    have hm := mgk (wc := (wd_X10_tell cI cC cZ cB cJ a_m oJ uD dY iJ lJ jQ jR jW jK pJ bM aY jO gR gY mK jZ iY bG mJ jB mQ lY eJ bY bW aG jG xW dG jY m_length qG uW eY aJ aB bU dN aR aE bJ aW bT gJ dU bL bR bO mY pW zG)) hP aAN 10 rfl rfl rfl
    refine g_callv hP hD hS hA (mixT aAN) (mixF aAN) hm.1 hm.2 (nd_F _) (dis_g _) (g_runV (As := [.int x4]) (rest := []) C0 hP hD hS (mixT aAN) hm.1 (nd_T _) 0 10 rfl rfl (c_X10_tell l dC dI cI cC cZ cB cJ a_m oJ uD dY iJ lJ jQ jR jW jK pJ bM aY jO gR gY mK jZ iY bG mJ jB mQ lY eJ bY H.size x4 bW aG jG xW dG jY m_length qG uW eY aJ aB bU dN aR aE bJ aW bT gJ dU bL bR bO mY pW zG _ hp) q_849 q_852 q_850 q_851 q_642 h_X10_tell rfl rfl ⟨Nat.le_of_ble_eq_true rfl, Nat.le_of_ble_eq_true rfl⟩ rfl rfl hl.1 rfl (lv_room (Nat.le_of_ble_eq_true rfl)) eX10_hooked_113.2.2.2.2.2.2.2.2.1 ⟨Nat.zero_le _, Nat.zero_le _⟩) (fun u H locs hp hP hD hS => ?_)
    obtain ⟨aBf, aGu⟩ := u
    have hPD := PDm (ws' := (wd_X10_hooked cI cC cZ cB cJ a_m oJ uD dY iJ lJ jQ jR jW jK pJ bM aY jO gR gY mK jZ iY bG mJ jB mQ lY eJ bY bW aG jG aBf dG jY m_length qG uW eY aJ aB bU dN aR aE bJ aW bT gJ dU bL bR bO mY pW rD m_x jA rW oY pR pX aGu tD)) hP hD 10 rfl rfl rfl
    have hP := hPD.1
    have hD := hPD.2
    refine lv_iload_n hx hb eX10_hooked_113.2.2.2.2.2.2.2.2.2.1 rfl (lv_at hl 2 rfl) ?_
    exact W.iret (v := x2) hx hb hr (fun t ht hW => ⟨⟨x2, (aBf, dG, dU, aGu, tD), rfl, hp, by rw [ht]; exact hP, va_K.moved hW.alike hK, hD⟩, hS.F ht⟩) hS.2.2 eX10_hooked_113.2.2.2.2.2.2.2.2.2.2
  · have hp := hp.2 hc
    refine lv_iload_n hx hb eX10_hooked_50.2.2.2.2.2.1 rfl (lv_at hl 1 rfl) ?_
    refine lv_aload_n hx hb eX10_hooked_50.2.2.2.2.2.2.1 rfl (lv_at hl 0 rfl) ?_
    refine lv_iload hx hb eX10_hooked_50.2.2.2.2.2.2.2.1 (lv_at hl 5 rfl) ?_
    refine lv_aload_n hx hb eX10_hooked_50.2.2.2.2.2.2.2.2.1 rfl (lv_at hl 0 rfl) ?_
    refine va_get (D := (dC, dI)) (ci := 10) (v := .ref oJ) (C := RX10) (T := TX10) (N := 51) hx hb hts i_X10 hown hK hP 0 rfl rfl 0 (Nat.le_of_ble_eq_true rfl) (hts _ q_692) (fun _ h9 => h9) rfl eX10_hooked_50.2.2.2.2.2.2.2.2.2.1 ?_
    refine lv_bipush (v := 18) hx hb eX10_hooked_50.2.2.2.2.2.2.2.2.2.2.1 bp_18 ?_
    refine va_iald hx hb hK hP 1 0 rfl rfl (g_in rfl) eX10_hooked_50.2.2.2.2.2.2.2.2.2.2.2.1 ?_
    refine lv_topi (fun v_14 ev_14 => ?_)
    have hp := hp v_14 ev_14
    refine lv_iconst (v := 1) hx hb eX10_hooked_50.2.2.2.2.2.2.2.2.2.2.2.2.1 ic_1 ?_
    have hm := mgk (wc := (wd_X10_reachedFrom cI cC cZ cB cJ a_m oJ uD dY iJ lJ jQ jR jW jK pJ bM aY jO gR gY mK jZ iY bG mJ jB mQ lY eJ bY bW aG jG bQ dG jY m_length qG uW eY aJ aB bU dN aR aE bJ aW bT gJ dU bL bR bO mY pW m_x jA oY pR pX)) hP mk_285 10 rfl rfl rfl
    refine g_calli hP hD hS hA (mixT mk_285) (mixF mk_285) hm.1 hm.2 (nd_F _) (dis_g _) (g_runV (As := [.int x5, .int v_14, .int 1]) (rest := [.int x1]) C0 hP hD hS (mixT mk_285) hm.1 (nd_T _) 0 10 rfl rfl (c_X10_reachedFrom l dC dI cI cC cZ cB cJ a_m oJ uD dY iJ lJ jQ jR jW jK pJ bM aY jO gR gY mK jZ iY bG mJ jB mQ lY eJ bY H.size x5 v_14 1 bW aG jG bQ dG jY m_length qG uW eY aJ aB bU dN aR aE bJ aW bT gJ dU bL bR bO mY pW m_x jA oY pR pX _ hp) q_824 q_827 q_825 q_826 q_642 h_X10_reachedFrom rfl rfl ⟨Nat.le_of_ble_eq_true rfl, Nat.le_of_ble_eq_true rfl⟩ rfl rfl hl.1 rfl (lv_room (Nat.le_of_ble_eq_true rfl)) eX10_hooked_50.2.2.2.2.2.2.2.2.2.2.2.2.2.1 ⟨Nat.zero_le _, Nat.zero_le _⟩) (fun r_15 u H locs hp hP hD hS => ?_)
    have hPD := PDm (ws' := (wd_X10_hooked cI cC cZ cB cJ a_m oJ uD dY iJ lJ jQ jR jW jK pJ bM aY jO gR gY mK jZ iY bG mJ jB mQ lY eJ bY bW aG jG bQ dG jY m_length qG uW eY aJ aB bU dN aR aE bJ aW bT gJ dU bL bR bO mY pW rD m_x jA rW oY pR pX uM tD)) hP hD 10 rfl rfl rfl
    have hP := hPD.1
    have hD := hPD.2
    refine lv_iand hx hb eX10_hooked_50.2.2.2.2.2.2.2.2.2.2.2.2.2.2.1 ?_
    refine lv_topi (fun v_16 ev_16 => ?_)
    have hp := hp v_16 ev_16
    refine lv_istore (lv' := [(6, .int v_16), (0, .ref a_m), (1, .int x1), (2, .int x2), (3, .int x3), (4, .int x4), (5, .int x5)]) hx hb eX10_hooked_50.2.2.2.2.2.2.2.2.2.2.2.2.2.2.2 hl (by decide) rfl (fun ls hl => ?_)
    refine lv_iload_n hx hb eX10_hooked_79.1 rfl (lv_at hl 3 rfl) ?_
    refine lv_iload hx hb eX10_hooked_79.2.1 (lv_at hl 0 rfl) ?_
    refine lv_ior hx hb eX10_hooked_79.2.2.1 ?_
    refine lv_topi (fun v_17 ev_17 => ?_)
    have hp := hp v_17 ev_17
    refine lv_istore_n (lv' := [(2, .int v_17), (6, .int v_16), (0, .ref a_m), (1, .int x1), (3, .int x3), (4, .int x4), (5, .int x5)]) hx hb eX10_hooked_79.2.2.2.1 rfl hl (by decide) rfl (fun ls hl => ?_)
    refine lv_iload hx hb eX10_hooked_79.2.2.2.2.1 (lv_at hl 1 rfl) ?_
    have hm := mgk (wc := (wd_J6_bitCount_0f7a4 cI cC cZ cB cJ)) hP zH 10 rfl rfl rfl
    refine g_calli hP hD hS hA (mixT zH) (mixF zH) hm.1 hm.2 (nd_F _) (dis_g _) (g_runS (As := [.int v_16]) (rest := []) C0 hP hD hS (mixT zH) hm.1 (nd_T _) (c_J6_bitCount_0f7a4 l dC dI cI cC cZ cB cJ H.size v_16 _ hp) q_320 q_803 q_322 q_321 h_J6_bitCount_0f7a4 rfl rfl ⟨Nat.le_of_ble_eq_true rfl, Nat.le_of_ble_eq_true rfl⟩ rfl rfl hl.1 rfl (lv_room (Nat.le_of_ble_eq_true rfl)) eX10_hooked_79.2.2.2.2.2.1 ⟨Nat.zero_le _, Nat.zero_le _⟩) (fun r_18 u H locs hp hP hD hS => ?_)
    have hPD := PDm (ws' := (wd_X10_hooked cI cC cZ cB cJ a_m oJ uD dY iJ lJ jQ jR jW jK pJ bM aY jO gR gY mK jZ iY bG mJ jB mQ lY eJ bY bW aG jG bQ dG jY m_length qG uW eY aJ aB bU dN aR aE bJ aW bT gJ dU bL bR bO mY pW rD m_x jA rW oY pR pX uM tD)) hP hD 10 rfl rfl rfl
    have hP := hPD.1
    have hD := hPD.2
    refine lv_iload hx hb eX10_hooked_79.2.2.2.2.2.2.1 (lv_at hl 5 rfl) ?_
    refine lv_icmp_gt (tgt := 97) hx hb eX10_hooked_79.2.2.2.2.2.2.2.1 (by decide) (fun hc => ?_) (fun hc => ?_)
    · have hp := hp.1 hc
      refine lv_iload hx hb eX10_hooked_79.2.2.2.2.2.2.2.2.2.1 (lv_at hl 6 rfl) ?_
      refine lv_istore_n (lv' := [(3, .int x5), (2, .int v_17), (6, .int v_16), (0, .ref a_m), (1, .int x1), (4, .int x4), (5, .int x5)]) hx hb eX10_hooked_79.2.2.2.2.2.2.2.2.2.2.1 rfl hl (by decide) rfl (fun ls hl => ?_)
      refine lv_iload hx hb eX10_hooked_79.2.2.2.2.2.2.2.2.2.2.2.1 (lv_at hl 2 rfl) ?_
      have hm := mgk (wc := (wd_J6_bitCount_0f7a4 cI cC cZ cB cJ)) hP zH 10 rfl rfl rfl
      refine g_calli hP hD hS hA (mixT zH) (mixF zH) hm.1 hm.2 (nd_F _) (dis_g _) (g_runS (As := [.int v_16]) (rest := []) C0 hP hD hS (mixT zH) hm.1 (nd_T _) (c_J6_bitCount_0f7a4 l dC dI cI cC cZ cB cJ H.size v_16 _ hp) q_320 q_803 q_322 q_321 h_J6_bitCount_0f7a4 rfl rfl ⟨Nat.le_of_ble_eq_true rfl, Nat.le_of_ble_eq_true rfl⟩ rfl rfl hl.1 rfl (lv_room (Nat.le_of_ble_eq_true rfl)) eX10_hooked_79.2.2.2.2.2.2.2.2.2.2.2.2.1 ⟨Nat.zero_le _, Nat.zero_le _⟩) (fun r_19 u H locs hp hP hD hS => ?_)
      have hPD := PDm (ws' := (wd_X10_hooked cI cC cZ cB cJ a_m oJ uD dY iJ lJ jQ jR jW jK pJ bM aY jO gR gY mK jZ iY bG mJ jB mQ lY eJ bY bW aG jG bQ dG jY m_length qG uW eY aJ aB bU dN aR aE bJ aW bT gJ dU bL bR bO mY pW rD m_x jA rW oY pR pX uM tD)) hP hD 10 rfl rfl rfl
      have hP := hPD.1
      have hD := hPD.2
      refine lv_istore (lv' := [(4, .int r_19), (3, .int x5), (2, .int v_17), (6, .int v_16), (0, .ref a_m), (1, .int x1), (5, .int x5)]) hx hb eX10_hooked_79.2.2.2.2.2.2.2.2.2.2.2.2.2.1 hl (by decide) rfl (fun ls hl => ?_)
      exact ks_X10_hooked_107 C0 hKn x1 v_17 x5 r_19 x5 bQ dG dU uM tD H locs ls hp hP hD hS (lv_sub hl [4, 5, 2, 1, 0, 6] rfl)
    · have hp := hp.2 hc
      refine lv_goto (tgt := 107) hx hb eX10_hooked_79.2.2.2.2.2.2.2.2.1 (by decide) ?_
      exact ks_X10_hooked_107 C0 hKn x1 v_17 x3 x4 x5 bQ dG dU uM tD H locs ls hp hP hD hS (lv_sub hl [2, 3, 0, 4, 5, 6] rfl)
set_option maxHeartbeats 4000000 in
set_option maxRecDepth 100000 in
theorem kb_X10_hooked_52 (C0 : gc cX10_hooked (some .int) 7 RX10 (dC, dI) (tyl cI cC cZ cB cJ) A p s m args meth c) : ∀ (n : Nat), ∀ (x1 x2 x3 x4 x5 bQ dG dU : Int32) (uM tD : Nat → Int32) (H : Heap) (locs : List Loc) (ls : Array Slot), (wb_X10_hooked_52 post bW aG rD m_x jA rW oY pR pX n) x1 x2 x3 x4 x5 bQ dG dU uM tD → va_P (dC, dI) classes (wd_X10_hooked cI cC cZ cB cJ a_m oJ uD dY iJ lJ jQ jR jW jK pJ bM aY jO gR gY mK jZ iY bG mJ jB mQ lY eJ bY bW aG jG bQ dG jY m_length qG uW eY aJ aB bU dN aR aE bJ aW bT gJ dU bL bR bO mY pW rD m_x jA rW oY pR pX uM tD) H → va_D A (wd_X10_hooked cI cC cZ cB cJ a_m oJ uD dY iJ lJ jQ jR jW jK pJ bM aY jO gR gY mK jZ iY bG mJ jB mQ lY eJ bY bW aG jG bQ dG jY m_length qG uW eY aJ aB bU dN aR aE bJ aW bT gJ dU bL bR bO mY pW rD m_x jA rW oY pR pX uM tD) → va_S A s.heap H locs → lv_has ls 7 [(0, .ref a_m), (1, .int x1), (2, .int x2), (3, .int x3), (4, .int x4), (5, .int x5)] → W p l e rm_X10_hooked s m args below meth c H locs 0 0 (MQ below (q_X10_hooked dC dI cI cC cZ cB cJ A a_m oJ uD dY iJ lJ jQ jR jW jK pJ bM aY jO gR gY mK jZ iY bG mJ jB mQ lY eJ bY bW aG jG jY m_length qG uW eY aJ aB bU dN aR aE bJ aW bT gJ bL bR bO mY pW rD m_x jA rW oY pR pX post) args s 0 0 A) (F0 m 52 ls []) := by
  intro n
  induction n with
  | zero =>
    intro x1 x2 x3 x4 x5 bQ dG dU uM tD H locs ls hp
    exact False.elim hp
  | succ n ih =>
    intro x1 x2 x3 x4 x5 bQ dG dU uM tD H locs ls hp
    exact ks_X10_hooked_52 C0 ih x1 x2 x3 x4 x5 bQ dG dU uM tD H locs ls hp
end S_X10_hooked
noncomputable def wp_X10_hooked (post : Int32 → Int32 → Int32 → Int32 → (Nat → Int32) → (Nat → Int32) → Prop) (bW aG bQ dG dU : Int32) (rD m_x jA rW oY pR pX uM tD : Nat → Int32) : Prop := wp_X10_layHands (fun xX zP => wp_X10_which (fun r_3 => ∀ v_4 : Int32, v_4 = rD (19 : Int32).toNatClampNeg → wp_X10_ripeOnes (fun r_5 => ∀ v_6 : Int32, v_6 = r_3 &&& r_5 → wp_X10_allStandings (fun r_7 => wp_X10_handOf (fun r_8 => ∀ v_9 : Int32, v_9 = v_6 &&& (r_8 ^^^ (-1)) → ∃ n : Nat, wb_X10_hooked_52 post bW aG rD m_x jA rW oY pR pX n v_9 0 (-1) 0 0 bQ 0 xX uM zP) r_7 aG zP) aG) v_4 bW rW) 0 bW rD) bW aG dU rD m_x jA rW oY pR pX tD
set_option maxHeartbeats 4000000 in
set_option maxRecDepth 100000 in
theorem c_X10_hooked (l : Launch) (dC : Nat → ClassId) (dI : Nat → Nat → Nat) (cI cC cZ cB cJ : ClassId) (a_m oJ uD dY iJ lJ jQ jR jW jK pJ bM aY jO gR gY mK jZ iY bG mJ jB mQ lY eJ bY sz : Nat) (bW aG jG bQ dG : Int32) (jY : Nat) (m_length qG uW eY aJ aB bU dN aR aE bJ aW bT gJ dU bL bR bO mY pW : Int32) (rD m_x jA rW oY pR pX uM tD : Nat → Int32) (post : Int32 → Int32 → Int32 → Int32 → (Nat → Int32) → (Nat → Int32) → Prop) (hw : wp_X10_hooked post bW aG bQ dG dU rD m_x jA rW oY pR pX uM tD) : Met l yX10_hooked (gw yX10_hooked cX10_hooked 7 (some .int)) rm_X10_hooked (va_Pc [.ref a_m] (gPre (dC, dI) (tyl cI cC cZ cB cJ) (wd_X10_hooked cI cC cZ cB cJ a_m oJ uD dY iJ lJ jQ jR jW jK pJ bM aY jO gR gY mK jZ iY bG mJ jB mQ lY eJ bY bW aG jG bQ dG jY m_length qG uW eY aJ aB bU dN aR aE bJ aW bT gJ dU bL bR bO mY pW rD m_x jA rW oY pR pX uM tD) sz)) (q_X10_hooked dC dI cI cC cZ cB cJ (va_A (wd_X10_hooked cI cC cZ cB cJ a_m oJ uD dY iJ lJ jQ jR jW jK pJ bM aY jO gR gY mK jZ iY bG mJ jB mQ lY eJ bY bW aG jG bQ dG jY m_length qG uW eY aJ aB bU dN aR aE bJ aW bT gJ dU bL bR bO mY pW rD m_x jA rW oY pR pX uM tD) sz) a_m oJ uD dY iJ lJ jQ jR jW jK pJ bM aY jO gR gY mK jZ iY bG mJ jB mQ lY eJ bY bW aG jG jY m_length qG uW eY aJ aB bU dN aR aE bJ aW bT gJ bL bR bO mY pW rD m_x jA rW oY pR pX post) 0 0 (va_A (wd_X10_hooked cI cC cZ cB cJ a_m oJ uD dY iJ lJ jQ jR jW jK pJ bM aY jO gR gY mK jZ iY bG mJ jB mQ lY eJ bY bW aG jG bQ dG jY m_length qG uW eY aJ aB bU dN aR aE bJ aW bT gJ dU bL bR bO mY pW rD m_x jA rW oY pR pX uM tD) sz) := by
  refine g_enter (own := RX10) (dC, dI) (tyl cI cC cZ cB cJ) (wd_X10_hooked cI cC cZ cB cJ a_m oJ uD dY iJ lJ jQ jR jW jK pJ bM aY jO gR gY mK jZ iY bG mJ jB mQ lY eJ bY bW aG jG bQ dG jY m_length qG uW eY aJ aB bU dN aR aE bJ aW bT gJ dU bL bR bO mY pW rD m_x jA rW oY pR pX uM tD) sz [.ref a_m] (fun A => q_X10_hooked dC dI cI cC cZ cB cJ A a_m oJ uD dY iJ lJ jQ jR jW jK pJ bM aY jO gR gY mK jZ iY bG mJ jB mQ lY eJ bY bW aG jG jY m_length qG uW eY aJ aB bU dN aR aE bJ aW bT gJ bL bR bO mY pW rD m_x jA rW oY pR pX post) pn_RX10 rfl (Nat.le_of_ble_eq_true rfl) ?_
  intro p e s m args below meth c A H locs ls C0 hP hD hS hl
  have hl : lv_has ls 7 [(0, .ref a_m)] := hl
  obtain ⟨hx, hb, hr, hml, hown, hts, hlocks, hA, hK, hN, tL, tM, hZL, hTL, hZM, hTM, hZX⟩ := id C0
  have hp := hw
  unfold wp_X10_hooked at hp
  refine lv_aload_n hx hb eX10_hooked_0.1 rfl (lv_at hl 0 rfl) ?_
  refine lv_iconst (v := 0) hx hb eX10_hooked_0.2.1 ic_0 ?_
  refine va_put (D := (dC, dI)) (ci := 10) (v := .int 0) (ty := .int) (C := RX10) (T := TX10) (N := 51) hx hb hts i_X10 tyX10 tyX10_ok nmX10 hown hK hP hD hS 0 rfl rfl 14 (Nat.le_of_ble_eq_true rfl) (hts _ q_638) (fun _ h9 => h9) rfl (tyX10_ok 14 (Nat.le_of_ble_eq_true rfl)) rfl rfl (Nat.le_of_ble_eq_true rfl) eX10_hooked_0.2.2.1 (fun H locs hP hD hS => ?_)
  have hP : va_P (dC, dI) classes (wd_X10_hooked cI cC cZ cB cJ a_m oJ uD dY iJ lJ jQ jR jW jK pJ bM aY jO gR gY mK jZ iY bG mJ jB mQ lY eJ bY bW aG jG bQ 0 jY m_length qG uW eY aJ aB bU dN aR aE bJ aW bT gJ dU bL bR bO mY pW rD m_x jA rW oY pR pX uM tD) H := hP
  have hD : va_D A (wd_X10_hooked cI cC cZ cB cJ a_m oJ uD dY iJ lJ jQ jR jW jK pJ bM aY jO gR gY mK jZ iY bG mJ jB mQ lY eJ bY bW aG jG bQ 0 jY m_length qG uW eY aJ aB bU dN aR aE bJ aW bT gJ dU bL bR bO mY pW rD m_x jA rW oY pR pX uM tD) := hD
  refine lv_aload_n hx hb eX10_hooked_0.2.2.2.1 rfl (lv_at hl 0 rfl) ?_
  have hm := mgk (wc := (wd_X10_layHands cI cC cZ cB cJ a_m oJ uD dY iJ lJ jQ jR jW jK pJ bM aY jO gR gY mK jZ iY bG mJ jB mQ lY eJ bY bW aG jG bQ 0 jY m_length qG uW eY aJ aB bU dN aR aE bJ aW bT gJ dU bL bR bO mY pW rD m_x jA rW oY pR pX tD)) hP aBa 10 rfl rfl rfl
  refine g_callv hP hD hS hA (mixT aBa) (mixF aBa) hm.1 hm.2 (nd_F _) (dis_g _) (g_runV (As := []) (rest := []) C0 hP hD hS (mixT aBa) hm.1 (nd_T _) 0 10 rfl rfl (c_X10_layHands l dC dI cI cC cZ cB cJ a_m oJ uD dY iJ lJ jQ jR jW jK pJ bM aY jO gR gY mK jZ iY bG mJ jB mQ lY eJ bY H.size bW aG jG bQ 0 jY m_length qG uW eY aJ aB bU dN aR aE bJ aW bT gJ dU bL bR bO mY pW rD m_x jA rW oY pR pX tD _ hp) q_883 q_886 q_884 q_885 q_642 h_X10_layHands rfl rfl ⟨Nat.le_of_ble_eq_true rfl, Nat.le_of_ble_eq_true rfl⟩ rfl rfl hl.1 rfl (lv_room (Nat.le_of_ble_eq_true rfl)) eX10_hooked_0.2.2.2.2.1 ⟨Nat.zero_le _, Nat.zero_le _⟩) (fun u H locs hp hP hD hS => ?_)
  obtain ⟨xX, zP⟩ := u
  have hPD := PDm (ws' := (wd_X10_hooked cI cC cZ cB cJ a_m oJ uD dY iJ lJ jQ jR jW jK pJ bM aY jO gR gY mK jZ iY bG mJ jB mQ lY eJ bY bW aG jG bQ 0 jY m_length qG uW eY aJ aB bU dN aR aE bJ aW bT gJ xX bL bR bO mY pW rD m_x jA rW oY pR pX uM zP)) hP hD 10 rfl rfl rfl
  have hP := hPD.1
  have hD := hPD.2
  refine lv_aload_n hx hb eX10_hooked_0.2.2.2.2.2.1 rfl (lv_at hl 0 rfl) ?_
  refine lv_aload_n hx hb eX10_hooked_0.2.2.2.2.2.2.1 rfl (lv_at hl 0 rfl) ?_
  refine va_get (D := (dC, dI)) (ci := 10) (v := .ref oJ) (C := RX10) (T := TX10) (N := 51) hx hb hts i_X10 hown hK hP 0 rfl rfl 0 (Nat.le_of_ble_eq_true rfl) (hts _ q_692) (fun _ h9 => h9) rfl eX10_hooked_0.2.2.2.2.2.2.2.1 ?_
  refine lv_iconst (v := 0) hx hb eX10_hooked_0.2.2.2.2.2.2.2.2.1 ic_0 ?_
  have hm := mgk (wc := (wd_X10_which cI cC cZ cB cJ a_m oJ uD dY iJ lJ jQ jR jW jK pJ bM aY jO gR gY mK jZ iY bG mJ jB mQ lY eJ bY bW aG jG bQ 0 jY m_length qG uW eY aJ aB bU dN aR aE bJ aW bT gJ xX bL bR bO mY pW rD)) hP mk_283 10 rfl rfl rfl
  refine g_calli hP hD hS hA (mixT mk_283) (mixF mk_283) hm.1 hm.2 (nd_F _) (dis_g _) (g_runV (As := [.ref oJ, .int 0]) (rest := []) C0 hP hD hS (mixT mk_283) hm.1 (nd_T _) 0 10 rfl rfl (c_X10_which l dC dI cI cC cZ cB cJ a_m oJ uD dY iJ lJ jQ jR jW jK pJ bM aY jO gR gY mK jZ iY bG mJ jB mQ lY eJ bY H.size 0 bW aG jG bQ 0 jY m_length qG uW eY aJ aB bU dN aR aE bJ aW bT gJ xX bL bR bO mY pW rD _ hp) q_749 q_752 q_750 q_751 q_642 h_X10_which rfl rfl ⟨Nat.le_of_ble_eq_true rfl, Nat.le_of_ble_eq_true rfl⟩ rfl rfl hl.1 rfl (lv_room (Nat.le_of_ble_eq_true rfl)) eX10_hooked_0.2.2.2.2.2.2.2.2.2.1 ⟨Nat.zero_le _, Nat.zero_le _⟩) (fun r_3 u H locs hp hP hD hS => ?_)
  have hPD := PDm (ws' := (wd_X10_hooked cI cC cZ cB cJ a_m oJ uD dY iJ lJ jQ jR jW jK pJ bM aY jO gR gY mK jZ iY bG mJ jB mQ lY eJ bY bW aG jG bQ 0 jY m_length qG uW eY aJ aB bU dN aR aE bJ aW bT gJ xX bL bR bO mY pW rD m_x jA rW oY pR pX uM zP)) hP hD 10 rfl rfl rfl
  have hP := hPD.1
  have hD := hPD.2
  refine lv_aload_n hx hb eX10_hooked_0.2.2.2.2.2.2.2.2.2.2.1 rfl (lv_at hl 0 rfl) ?_
  refine lv_aload_n hx hb eX10_hooked_0.2.2.2.2.2.2.2.2.2.2.2.1 rfl (lv_at hl 0 rfl) ?_
  refine va_get (D := (dC, dI)) (ci := 10) (v := .ref oJ) (C := RX10) (T := TX10) (N := 51) hx hb hts i_X10 hown hK hP 0 rfl rfl 0 (Nat.le_of_ble_eq_true rfl) (hts _ q_692) (fun _ h9 => h9) rfl eX10_hooked_0.2.2.2.2.2.2.2.2.2.2.2.2.1 ?_
  refine lv_bipush (v := 19) hx hb eX10_hooked_0.2.2.2.2.2.2.2.2.2.2.2.2.2.1 bp_19 ?_
  refine va_iald hx hb hK hP 1 0 rfl rfl (g_in rfl) eX10_hooked_0.2.2.2.2.2.2.2.2.2.2.2.2.2.2.1 ?_
  refine lv_topi (fun v_4 ev_4 => ?_)
  have hp := hp v_4 ev_4
  have hm := mgk (wc := (wd_X10_ripeOnes cI cC cZ cB cJ a_m oJ uD dY iJ lJ jQ jR jW jK pJ bM aY jO gR gY mK jZ iY bG mJ jB mQ lY eJ bY bW aG jG bQ 0 jY m_length qG uW eY aJ aB bU dN aR aE bJ aW bT gJ xX bL bR bO mY pW rW)) hP mk_286 10 rfl rfl rfl
  refine g_calli hP hD hS hA (mixT mk_286) (mixF mk_286) hm.1 hm.2 (nd_F _) (dis_g _) (g_runV (As := [.int v_4]) (rest := [.int r_3]) C0 hP hD hS (mixT mk_286) hm.1 (nd_T _) 0 10 rfl rfl (c_X10_ripeOnes l dC dI cI cC cZ cB cJ a_m oJ uD dY iJ lJ jQ jR jW jK pJ bM aY jO gR gY mK jZ iY bG mJ jB mQ lY eJ bY H.size v_4 bW aG jG bQ 0 jY m_length qG uW eY aJ aB bU dN aR aE bJ aW bT gJ xX bL bR bO mY pW rW _ hp) q_828 q_831 q_829 q_830 q_642 h_X10_ripeOnes rfl rfl ⟨Nat.le_of_ble_eq_true rfl, Nat.le_of_ble_eq_true rfl⟩ rfl rfl hl.1 rfl (lv_room (Nat.le_of_ble_eq_true rfl)) eX10_hooked_0.2.2.2.2.2.2.2.2.2.2.2.2.2.2.2 ⟨Nat.zero_le _, Nat.zero_le _⟩) (fun r_5 u H locs hp hP hD hS => ?_)
  have hPD := PDm (ws' := (wd_X10_hooked cI cC cZ cB cJ a_m oJ uD dY iJ lJ jQ jR jW jK pJ bM aY jO gR gY mK jZ iY bG mJ jB mQ lY eJ bY bW aG jG bQ 0 jY m_length qG uW eY aJ aB bU dN aR aE bJ aW bT gJ xX bL bR bO mY pW rD m_x jA rW oY pR pX uM zP)) hP hD 10 rfl rfl rfl
  have hP := hPD.1
  have hD := hPD.2
  refine lv_iand hx hb eX10_hooked_29.1 ?_
  refine lv_topi (fun v_6 ev_6 => ?_)
  have hp := hp v_6 ev_6
  refine lv_aload_n hx hb eX10_hooked_29.2.1 rfl (lv_at hl 0 rfl) ?_
  refine lv_aload_n hx hb eX10_hooked_29.2.2.1 rfl (lv_at hl 0 rfl) ?_
  have hm := mgk (wc := (wd_X10_allStandings cI cC cZ cB cJ a_m oJ uD dY iJ lJ jQ jR jW jK pJ bM aY jO gR gY mK jZ iY bG mJ jB mQ lY eJ bY bW aG jG bQ 0 jY m_length qG uW eY aJ aB bU dN aR aE bJ aW bT gJ xX bL bR bO mY pW)) hP aAZ 10 rfl rfl rfl
  refine g_calli hP hD hS hA (mixT aAZ) (mixF aAZ) hm.1 hm.2 (nd_F _) (dis_g _) (g_runV (As := []) (rest := [.ref a_m, .int v_6]) C0 hP hD hS (mixT aAZ) hm.1 (nd_T _) 0 10 rfl rfl (c_X10_allStandings l dC dI cI cC cZ cB cJ a_m oJ uD dY iJ lJ jQ jR jW jK pJ bM aY jO gR gY mK jZ iY bG mJ jB mQ lY eJ bY H.size bW aG jG bQ 0 jY m_length qG uW eY aJ aB bU dN aR aE bJ aW bT gJ xX bL bR bO mY pW _ hp) q_870 q_873 q_871 q_872 q_642 h_X10_allStandings rfl rfl ⟨Nat.le_of_ble_eq_true rfl, Nat.le_of_ble_eq_true rfl⟩ rfl rfl hl.1 rfl (lv_room (Nat.le_of_ble_eq_true rfl)) eX10_hooked_29.2.2.2.1 ⟨Nat.zero_le _, Nat.zero_le _⟩) (fun r_7 u H locs hp hP hD hS => ?_)
  have hPD := PDm (ws' := (wd_X10_hooked cI cC cZ cB cJ a_m oJ uD dY iJ lJ jQ jR jW jK pJ bM aY jO gR gY mK jZ iY bG mJ jB mQ lY eJ bY bW aG jG bQ 0 jY m_length qG uW eY aJ aB bU dN aR aE bJ aW bT gJ xX bL bR bO mY pW rD m_x jA rW oY pR pX uM zP)) hP hD 10 rfl rfl rfl
  have hP := hPD.1
  have hD := hPD.2
  have hm := mgk (wc := (wd_X10_handOf cI cC cZ cB cJ a_m oJ uD dY iJ lJ jQ jR jW jK pJ bM aY jO gR gY mK jZ iY bG mJ jB mQ lY eJ bY bW aG jG bQ 0 jY m_length qG uW eY aJ aB bU dN aR aE bJ aW bT gJ xX bL bR bO mY pW zP)) hP aBr 10 rfl rfl rfl
  refine g_calli hP hD hS hA (mixT aBr) (mixF aBr) hm.1 hm.2 (nd_F _) (dis_g _) (g_runV (As := [.int r_7]) (rest := [.int v_6]) C0 hP hD hS (mixT aBr) hm.1 (nd_T _) 0 10 rfl rfl (c_X10_handOf l dC dI cI cC cZ cB cJ a_m oJ uD dY iJ lJ jQ jR jW jK pJ bM aY jO gR gY mK jZ iY bG mJ jB mQ lY eJ bY H.size r_7 bW aG jG bQ 0 jY m_length qG uW eY aJ aB bU dN aR aE bJ aW bT gJ xX bL bR bO mY pW zP _ hp) q_874 q_877 q_875 q_876 q_642 h_X10_handOf rfl rfl ⟨Nat.le_of_ble_eq_true rfl, Nat.le_of_ble_eq_true rfl⟩ rfl rfl hl.1 rfl (lv_room (Nat.le_of_ble_eq_true rfl)) eX10_hooked_29.2.2.2.2.1 ⟨Nat.zero_le _, Nat.zero_le _⟩) (fun r_8 u H locs hp hP hD hS => ?_)
  have hPD := PDm (ws' := (wd_X10_hooked cI cC cZ cB cJ a_m oJ uD dY iJ lJ jQ jR jW jK pJ bM aY jO gR gY mK jZ iY bG mJ jB mQ lY eJ bY bW aG jG bQ 0 jY m_length qG uW eY aJ aB bU dN aR aE bJ aW bT gJ xX bL bR bO mY pW rD m_x jA rW oY pR pX uM zP)) hP hD 10 rfl rfl rfl
  have hP := hPD.1
  have hD := hPD.2
  refine lv_iconst (v := (-1)) hx hb eX10_hooked_29.2.2.2.2.2.1 ic_m1 ?_
  refine lv_ixor hx hb eX10_hooked_29.2.2.2.2.2.2.1 ?_
  refine lv_iand hx hb eX10_hooked_29.2.2.2.2.2.2.2.1 ?_
  refine lv_topi (fun v_9 ev_9 => ?_)
  have hp := hp v_9 ev_9
  refine lv_istore_n (lv' := [(1, .int v_9), (0, .ref a_m)]) hx hb eX10_hooked_29.2.2.2.2.2.2.2.2.1 rfl hl (by decide) rfl (fun ls hl => ?_)
  refine lv_iconst (v := 0) hx hb eX10_hooked_29.2.2.2.2.2.2.2.2.2.1 ic_0 ?_
  refine lv_istore_n (lv' := [(2, .int 0), (1, .int v_9), (0, .ref a_m)]) hx hb eX10_hooked_29.2.2.2.2.2.2.2.2.2.2.1 rfl hl (by decide) rfl (fun ls hl => ?_)
  refine lv_iconst (v := (-1)) hx hb eX10_hooked_29.2.2.2.2.2.2.2.2.2.2.2.1 ic_m1 ?_
  refine lv_istore_n (lv' := [(3, .int (-1)), (2, .int 0), (1, .int v_9), (0, .ref a_m)]) hx hb eX10_hooked_29.2.2.2.2.2.2.2.2.2.2.2.2.1 rfl hl (by decide) rfl (fun ls hl => ?_)
  refine lv_iconst (v := 0) hx hb eX10_hooked_29.2.2.2.2.2.2.2.2.2.2.2.2.2.1 ic_0 ?_
  refine lv_istore (lv' := [(4, .int 0), (3, .int (-1)), (2, .int 0), (1, .int v_9), (0, .ref a_m)]) hx hb eX10_hooked_29.2.2.2.2.2.2.2.2.2.2.2.2.2.2.1 hl (by decide) rfl (fun ls hl => ?_)
  refine lv_iconst (v := 0) hx hb eX10_hooked_29.2.2.2.2.2.2.2.2.2.2.2.2.2.2.2 ic_0 ?_
  refine lv_istore (lv' := [(5, .int 0), (4, .int 0), (3, .int (-1)), (2, .int 0), (1, .int v_9), (0, .ref a_m)]) hx hb eX10_hooked_50.1 hl (by decide) rfl (fun ls hl => ?_)
  obtain ⟨n9, hp⟩ := hp
  exact kb_X10_hooked_52 C0 n9 v_9 0 (-1) 0 0 bQ 0 xX uM zP H locs ls hp hP hD hS (lv_sub hl [5, 4, 3, 2, 1, 0] rfl)
noncomputable abbrev wd_X10_broken (cI cC cZ cB cJ : ClassId) (a_m oJ uD dY iJ lJ jQ jR jW jK pJ bM aY jO gR gY mK jZ iY bG mJ jB mQ lY eJ bY : Nat) (bW aG jG bQ dG : Int32) (jY : Nat) (m_length qG uW eY aJ aB bU dN aR aE bJ aW bT gJ dU bL bR bO mY pW : Int32) (rD m_x jA rW oY pR pX uM tD : Nat → Int32) : va_W := [(a_m, .inr (10, [.ref oJ, .int bW, .ref uD, .ref dY, .ref iJ, .ref lJ, .int aG, .ref jQ, .ref jR, .ref jW, .ref jK, .int jG, .ref pJ, .int bQ, .int dG, rdv jK jO jY, .int m_length, .int qG, .int uW, .int eY, .ref bM, .ref aY, .int aJ, .int aB, .ref jO, .int bU, .int dN, .int aR, .int aE, .int bJ, .int aW, .ref gR, .int bT, .ref gY, .ref mK, .int gJ, .ref jZ, .int dU, .ref iY, .ref bG, .int bL, .int bR, .int bO, .ref mJ, .ref jB, .ref mQ, .int mY, .int pW, .ref lY, .ref eJ, .ref bY])), (oJ, .inl (cI, 21, .inl rD)), (uD, .inl (cI, 16, .inl m_x)), (dY, .inl (cI, 16, .inl jA)), (lJ, .inl (cI, 16, .inl rW)), (jQ, .inl (cI, 8, .inl oY)), (jR, .inl (cI, 8, .inl pR)), (jW, .inl (cI, 5, .inl pX)), (pJ, .inl (cI, 32, .inl uM)), (jZ, .inl (cI, 8, .inl tD))]
noncomputable abbrev q_X10_broken (dC : Nat → ClassId) (dI : Nat → Nat → Nat) (cI cC cZ cB cJ : ClassId) (A : Nat → Prop) (a_m oJ uD dY iJ lJ jQ jR jW jK pJ bM aY jO gR gY mK jZ iY bG mJ jB mQ lY eJ bY : Nat) (bW aG jG : Int32) (jY : Nat) (m_length qG uW eY aJ aB bU dN aR aE bJ aW bT gJ bL bR bO mY pW : Int32) (rD m_x jA rW oY pR pX : Nat → Int32) (post : Int32 → Int32 → Int32 → Int32 → (Nat → Int32) → (Nat → Int32) → Prop) : Array Value → State → Outcome → State → Prop := va_Qi (fun (r : Int32) (u : Int32 × Int32 × Int32 × (Nat → Int32) × (Nat → Int32)) => post r u.1 u.2.1 u.2.2.1 u.2.2.2.1 u.2.2.2.2) (fun u t => gB (dC, dI) (tyl cI cC cZ cB cJ) A (wd_X10_broken cI cC cZ cB cJ a_m oJ uD dY iJ lJ jQ jR jW jK pJ bM aY jO gR gY mK jZ iY bG mJ jB mQ lY eJ bY bW aG jG u.1 u.2.1 jY m_length qG uW eY aJ aB bU dN aR aE bJ aW bT gJ u.2.2.1 bL bR bO mY pW rD m_x jA rW oY pR pX u.2.2.2.1 u.2.2.2.2) t) A
noncomputable abbrev rm_X10_broken : Room := { frames := 6, cells := 0, slots := 0, locals := 133 }
noncomputable def wp_X10_broken (post : Int32 → Int32 → Int32 → Int32 → (Nat → Int32) → (Nat → Int32) → Prop) (p0 bW aG bQ dG dU : Int32) (rD m_x jA rW oY pR pX uM tD : Nat → Int32) : Prop := wp_X10_isStanding (fun r_1 => (¬ r_1 = 0 → wp_X10_layHands (fun xY zM => vp_in p0 8 ∧ (wp_X10_allStandings (fun r_4 => wp_X10_handOf (fun r_5 => ∀ v_6 : Int32, v_6 = xY &&& r_5 → wp_X10_cover (fun r_7 => wp_J6_bitCount_0f7a4 (fun r_8 => ∀ v_9 : Int32, v_9 = xY &&& (v_6 ^^^ (-1)) → wp_X10_tell (fun xW zG => post r_8 xW 0 xY zG (upd zM p0.toNatClampNeg 0)) v_9 0 uM) r_7) v_6 aG (upd zM p0.toNatClampNeg 0)) r_4 aG (upd zM p0.toNatClampNeg 0)) aG)) bW aG dU rD m_x jA rW oY pR pX tD) ∧ (r_1 = 0 → post (-1) bQ 0 dU uM tD)) p0 aG
set_option maxHeartbeats 4000000 in
set_option maxRecDepth 100000 in
theorem c_X10_broken (l : Launch) (dC : Nat → ClassId) (dI : Nat → Nat → Nat) (cI cC cZ cB cJ : ClassId) (a_m oJ uD dY iJ lJ jQ jR jW jK pJ bM aY jO gR gY mK jZ iY bG mJ jB mQ lY eJ bY sz : Nat) (p0 bW aG jG bQ dG : Int32) (jY : Nat) (m_length qG uW eY aJ aB bU dN aR aE bJ aW bT gJ dU bL bR bO mY pW : Int32) (rD m_x jA rW oY pR pX uM tD : Nat → Int32) (post : Int32 → Int32 → Int32 → Int32 → (Nat → Int32) → (Nat → Int32) → Prop) (hw : wp_X10_broken post p0 bW aG bQ dG dU rD m_x jA rW oY pR pX uM tD) : Met l yX10_broken (gw yX10_broken cX10_broken 4 (some .int)) rm_X10_broken (va_Pc [.ref a_m, .int p0] (gPre (dC, dI) (tyl cI cC cZ cB cJ) (wd_X10_broken cI cC cZ cB cJ a_m oJ uD dY iJ lJ jQ jR jW jK pJ bM aY jO gR gY mK jZ iY bG mJ jB mQ lY eJ bY bW aG jG bQ dG jY m_length qG uW eY aJ aB bU dN aR aE bJ aW bT gJ dU bL bR bO mY pW rD m_x jA rW oY pR pX uM tD) sz)) (q_X10_broken dC dI cI cC cZ cB cJ (va_A (wd_X10_broken cI cC cZ cB cJ a_m oJ uD dY iJ lJ jQ jR jW jK pJ bM aY jO gR gY mK jZ iY bG mJ jB mQ lY eJ bY bW aG jG bQ dG jY m_length qG uW eY aJ aB bU dN aR aE bJ aW bT gJ dU bL bR bO mY pW rD m_x jA rW oY pR pX uM tD) sz) a_m oJ uD dY iJ lJ jQ jR jW jK pJ bM aY jO gR gY mK jZ iY bG mJ jB mQ lY eJ bY bW aG jG jY m_length qG uW eY aJ aB bU dN aR aE bJ aW bT gJ bL bR bO mY pW rD m_x jA rW oY pR pX post) 0 0 (va_A (wd_X10_broken cI cC cZ cB cJ a_m oJ uD dY iJ lJ jQ jR jW jK pJ bM aY jO gR gY mK jZ iY bG mJ jB mQ lY eJ bY bW aG jG bQ dG jY m_length qG uW eY aJ aB bU dN aR aE bJ aW bT gJ dU bL bR bO mY pW rD m_x jA rW oY pR pX uM tD) sz) := by
  refine g_enter (own := RX10) (dC, dI) (tyl cI cC cZ cB cJ) (wd_X10_broken cI cC cZ cB cJ a_m oJ uD dY iJ lJ jQ jR jW jK pJ bM aY jO gR gY mK jZ iY bG mJ jB mQ lY eJ bY bW aG jG bQ dG jY m_length qG uW eY aJ aB bU dN aR aE bJ aW bT gJ dU bL bR bO mY pW rD m_x jA rW oY pR pX uM tD) sz [.ref a_m, .int p0] (fun A => q_X10_broken dC dI cI cC cZ cB cJ A a_m oJ uD dY iJ lJ jQ jR jW jK pJ bM aY jO gR gY mK jZ iY bG mJ jB mQ lY eJ bY bW aG jG jY m_length qG uW eY aJ aB bU dN aR aE bJ aW bT gJ bL bR bO mY pW rD m_x jA rW oY pR pX post) pn_RX10 rfl (Nat.le_of_ble_eq_true rfl) ?_
  intro p e s m args below meth c A H locs ls C0 hP hD hS hl
  have hl : lv_has ls 4 [(0, .ref a_m), (1, .int p0)] := hl
  obtain ⟨hx, hb, hr, hml, hown, hts, hlocks, hA, hK, hN, tL, tM, hZL, hTL, hZM, hTM, hZX⟩ := id C0
  have hp := hw
  unfold wp_X10_broken at hp
  refine lv_aload_n hx hb eX10_broken_0.1 rfl (lv_at hl 0 rfl) ?_
  refine lv_iconst (v := 0) hx hb eX10_broken_0.2.1 ic_0 ?_
  refine va_put (D := (dC, dI)) (ci := 10) (v := .int 0) (ty := .int) (C := RX10) (T := TX10) (N := 51) hx hb hts i_X10 tyX10 tyX10_ok nmX10 hown hK hP hD hS 0 rfl rfl 14 (Nat.le_of_ble_eq_true rfl) (hts _ q_638) (fun _ h9 => h9) rfl (tyX10_ok 14 (Nat.le_of_ble_eq_true rfl)) rfl rfl (Nat.le_of_ble_eq_true rfl) eX10_broken_0.2.2.1 (fun H locs hP hD hS => ?_)
  have hP : va_P (dC, dI) classes (wd_X10_broken cI cC cZ cB cJ a_m oJ uD dY iJ lJ jQ jR jW jK pJ bM aY jO gR gY mK jZ iY bG mJ jB mQ lY eJ bY bW aG jG bQ 0 jY m_length qG uW eY aJ aB bU dN aR aE bJ aW bT gJ dU bL bR bO mY pW rD m_x jA rW oY pR pX uM tD) H := hP
  have hD : va_D A (wd_X10_broken cI cC cZ cB cJ a_m oJ uD dY iJ lJ jQ jR jW jK pJ bM aY jO gR gY mK jZ iY bG mJ jB mQ lY eJ bY bW aG jG bQ 0 jY m_length qG uW eY aJ aB bU dN aR aE bJ aW bT gJ dU bL bR bO mY pW rD m_x jA rW oY pR pX uM tD) := hD
  refine lv_aload_n hx hb eX10_broken_0.2.2.2.1 rfl (lv_at hl 0 rfl) ?_
  refine lv_iload_n hx hb eX10_broken_0.2.2.2.2.1 rfl (lv_at hl 1 rfl) ?_
  have hm := mgk (wc := (wd_X10_isStanding cI cC cZ cB cJ a_m oJ uD dY iJ lJ jQ jR jW jK pJ bM aY jO gR gY mK jZ iY bG mJ jB mQ lY eJ bY bW aG jG bQ 0 jY m_length qG uW eY aJ aB bU dN aR aE bJ aW bT gJ dU bL bR bO mY pW)) hP aAZ 10 rfl rfl rfl
  refine g_calli hP hD hS hA (mixT aAZ) (mixF aAZ) hm.1 hm.2 (nd_F _) (dis_g _) (g_runV (As := [.int p0]) (rest := []) C0 hP hD hS (mixT aAZ) hm.1 (nd_T _) 0 10 rfl rfl (c_X10_isStanding l dC dI cI cC cZ cB cJ a_m oJ uD dY iJ lJ jQ jR jW jK pJ bM aY jO gR gY mK jZ iY bG mJ jB mQ lY eJ bY H.size p0 bW aG jG bQ 0 jY m_length qG uW eY aJ aB bU dN aR aE bJ aW bT gJ dU bL bR bO mY pW _ hp) q_757 q_760 q_758 q_759 q_642 h_X10_isStanding rfl rfl ⟨Nat.le_of_ble_eq_true rfl, Nat.le_of_ble_eq_true rfl⟩ rfl rfl hl.1 rfl (lv_room (Nat.le_of_ble_eq_true rfl)) eX10_broken_0.2.2.2.2.2.1 ⟨Nat.zero_le _, Nat.zero_le _⟩) (fun r_1 u H locs hp hP hD hS => ?_)
  have hPD := PDm (ws' := (wd_X10_broken cI cC cZ cB cJ a_m oJ uD dY iJ lJ jQ jR jW jK pJ bM aY jO gR gY mK jZ iY bG mJ jB mQ lY eJ bY bW aG jG bQ 0 jY m_length qG uW eY aJ aB bU dN aR aE bJ aW bT gJ dU bL bR bO mY pW rD m_x jA rW oY pR pX uM tD)) hP hD 10 rfl rfl rfl
  have hP := hPD.1
  have hD := hPD.2
  refine lv_if_ne (tgt := 15) hx hb eX10_broken_0.2.2.2.2.2.2.1 (by decide) (fun hc => ?_) (fun hc => ?_)
  · have hp := hp.1 hc
    refine lv_aload_n hx hb eX10_broken_0.2.2.2.2.2.2.2.2.2.1 rfl (lv_at hl 0 rfl) ?_
    have hm := mgk (wc := (wd_X10_layHands cI cC cZ cB cJ a_m oJ uD dY iJ lJ jQ jR jW jK pJ bM aY jO gR gY mK jZ iY bG mJ jB mQ lY eJ bY bW aG jG bQ 0 jY m_length qG uW eY aJ aB bU dN aR aE bJ aW bT gJ dU bL bR bO mY pW rD m_x jA rW oY pR pX tD)) hP aBa 10 rfl rfl rfl
    refine g_callv hP hD hS hA (mixT aBa) (mixF aBa) hm.1 hm.2 (nd_F _) (dis_g _) (g_runV (As := []) (rest := []) C0 hP hD hS (mixT aBa) hm.1 (nd_T _) 0 10 rfl rfl (c_X10_layHands l dC dI cI cC cZ cB cJ a_m oJ uD dY iJ lJ jQ jR jW jK pJ bM aY jO gR gY mK jZ iY bG mJ jB mQ lY eJ bY H.size bW aG jG bQ 0 jY m_length qG uW eY aJ aB bU dN aR aE bJ aW bT gJ dU bL bR bO mY pW rD m_x jA rW oY pR pX tD _ hp) q_883 q_886 q_884 q_885 q_642 h_X10_layHands rfl rfl ⟨Nat.le_of_ble_eq_true rfl, Nat.le_of_ble_eq_true rfl⟩ rfl rfl hl.1 rfl (lv_room (Nat.le_of_ble_eq_true rfl)) eX10_broken_0.2.2.2.2.2.2.2.2.2.2.1 ⟨Nat.zero_le _, Nat.zero_le _⟩) (fun u H locs hp hP hD hS => ?_)
    obtain ⟨xY, zM⟩ := u
    have hPD := PDm (ws' := (wd_X10_broken cI cC cZ cB cJ a_m oJ uD dY iJ lJ jQ jR jW jK pJ bM aY jO gR gY mK jZ iY bG mJ jB mQ lY eJ bY bW aG jG bQ 0 jY m_length qG uW eY aJ aB bU dN aR aE bJ aW bT gJ xY bL bR bO mY pW rD m_x jA rW oY pR pX uM zM)) hP hD 10 rfl rfl rfl
    have hP := hPD.1
    have hD := hPD.2
    refine lv_aload_n hx hb eX10_broken_0.2.2.2.2.2.2.2.2.2.2.2.1 rfl (lv_at hl 0 rfl) ?_
    refine va_get (D := (dC, dI)) (ci := 10) (v := .ref jZ) (C := RX10) (T := TX10) (N := 51) hx hb hts i_X10 hown hK hP 0 rfl rfl 36 (Nat.le_of_ble_eq_true rfl) (hts _ q_869) (fun _ h9 => h9) rfl eX10_broken_0.2.2.2.2.2.2.2.2.2.2.2.2.1 ?_
    refine lv_iload_n hx hb eX10_broken_0.2.2.2.2.2.2.2.2.2.2.2.2.2.1 rfl (lv_at hl 1 rfl) ?_
    refine lv_iconst (v := 0) hx hb eX10_broken_0.2.2.2.2.2.2.2.2.2.2.2.2.2.2.1 ic_0 ?_
    have hin := hp.1
    have hp := hp.2
    refine va_iast hx hb hK hP hD hS 9 0 rfl rfl hin eX10_broken_0.2.2.2.2.2.2.2.2.2.2.2.2.2.2.2 (fun H locs hP hD hS => ?_)
    have hP : va_P (dC, dI) classes (wd_X10_broken cI cC cZ cB cJ a_m oJ uD dY iJ lJ jQ jR jW jK pJ bM aY jO gR gY mK jZ iY bG mJ jB mQ lY eJ bY bW aG jG bQ 0 jY m_length qG uW eY aJ aB bU dN aR aE bJ aW bT gJ xY bL bR bO mY pW rD m_x jA rW oY pR pX uM (upd zM p0.toNatClampNeg 0)) H := hP
    have hD : va_D A (wd_X10_broken cI cC cZ cB cJ a_m oJ uD dY iJ lJ jQ jR jW jK pJ bM aY jO gR gY mK jZ iY bG mJ jB mQ lY eJ bY bW aG jG bQ 0 jY m_length qG uW eY aJ aB bU dN aR aE bJ aW bT gJ xY bL bR bO mY pW rD m_x jA rW oY pR pX uM (upd zM p0.toNatClampNeg 0)) := hD
    refine lv_aload_n hx hb eX10_broken_26.1 rfl (lv_at hl 0 rfl) ?_
    refine va_get (D := (dC, dI)) (ci := 10) (v := .int xY) (C := RX10) (T := TX10) (N := 51) hx hb hts i_X10 hown hK hP 0 rfl rfl 37 (Nat.le_of_ble_eq_true rfl) (hts _ q_878) (fun _ h9 => h9) rfl eX10_broken_26.2.1 ?_
    refine lv_aload_n hx hb eX10_broken_26.2.2.1 rfl (lv_at hl 0 rfl) ?_
    refine lv_aload_n hx hb eX10_broken_26.2.2.2.1 rfl (lv_at hl 0 rfl) ?_
    have hm := mgk (wc := (wd_X10_allStandings cI cC cZ cB cJ a_m oJ uD dY iJ lJ jQ jR jW jK pJ bM aY jO gR gY mK jZ iY bG mJ jB mQ lY eJ bY bW aG jG bQ 0 jY m_length qG uW eY aJ aB bU dN aR aE bJ aW bT gJ xY bL bR bO mY pW)) hP aAZ 10 rfl rfl rfl
    refine g_calli hP hD hS hA (mixT aAZ) (mixF aAZ) hm.1 hm.2 (nd_F _) (dis_g _) (g_runV (As := []) (rest := [.ref a_m, .int xY]) C0 hP hD hS (mixT aAZ) hm.1 (nd_T _) 0 10 rfl rfl (c_X10_allStandings l dC dI cI cC cZ cB cJ a_m oJ uD dY iJ lJ jQ jR jW jK pJ bM aY jO gR gY mK jZ iY bG mJ jB mQ lY eJ bY H.size bW aG jG bQ 0 jY m_length qG uW eY aJ aB bU dN aR aE bJ aW bT gJ xY bL bR bO mY pW _ hp) q_870 q_873 q_871 q_872 q_642 h_X10_allStandings rfl rfl ⟨Nat.le_of_ble_eq_true rfl, Nat.le_of_ble_eq_true rfl⟩ rfl rfl hl.1 rfl (lv_room (Nat.le_of_ble_eq_true rfl)) eX10_broken_26.2.2.2.2.1 ⟨Nat.zero_le _, Nat.zero_le _⟩) (fun r_4 u H locs hp hP hD hS => ?_)
    have hPD := PDm (ws' := (wd_X10_broken cI cC cZ cB cJ a_m oJ uD dY iJ lJ jQ jR jW jK pJ bM aY jO gR gY mK jZ iY bG mJ jB mQ lY eJ bY bW aG jG bQ 0 jY m_length qG uW eY aJ aB bU dN aR aE bJ aW bT gJ xY bL bR bO mY pW rD m_x jA rW oY pR pX uM (upd zM p0.toNatClampNeg 0))) hP hD 10 rfl rfl rfl
    have hP := hPD.1
    have hD := hPD.2
    have hm := mgk (wc := (wd_X10_handOf cI cC cZ cB cJ a_m oJ uD dY iJ lJ jQ jR jW jK pJ bM aY jO gR gY mK jZ iY bG mJ jB mQ lY eJ bY bW aG jG bQ 0 jY m_length qG uW eY aJ aB bU dN aR aE bJ aW bT gJ xY bL bR bO mY pW (upd zM p0.toNatClampNeg 0))) hP aBr 10 rfl rfl rfl
    refine g_calli hP hD hS hA (mixT aBr) (mixF aBr) hm.1 hm.2 (nd_F _) (dis_g _) (g_runV (As := [.int r_4]) (rest := [.int xY]) C0 hP hD hS (mixT aBr) hm.1 (nd_T _) 0 10 rfl rfl (c_X10_handOf l dC dI cI cC cZ cB cJ a_m oJ uD dY iJ lJ jQ jR jW jK pJ bM aY jO gR gY mK jZ iY bG mJ jB mQ lY eJ bY H.size r_4 bW aG jG bQ 0 jY m_length qG uW eY aJ aB bU dN aR aE bJ aW bT gJ xY bL bR bO mY pW (upd zM p0.toNatClampNeg 0) _ hp) q_874 q_877 q_875 q_876 q_642 h_X10_handOf rfl rfl ⟨Nat.le_of_ble_eq_true rfl, Nat.le_of_ble_eq_true rfl⟩ rfl rfl hl.1 rfl (lv_room (Nat.le_of_ble_eq_true rfl)) eX10_broken_26.2.2.2.2.2.1 ⟨Nat.zero_le _, Nat.zero_le _⟩) (fun r_5 u H locs hp hP hD hS => ?_)
    have hPD := PDm (ws' := (wd_X10_broken cI cC cZ cB cJ a_m oJ uD dY iJ lJ jQ jR jW jK pJ bM aY jO gR gY mK jZ iY bG mJ jB mQ lY eJ bY bW aG jG bQ 0 jY m_length qG uW eY aJ aB bU dN aR aE bJ aW bT gJ xY bL bR bO mY pW rD m_x jA rW oY pR pX uM (upd zM p0.toNatClampNeg 0))) hP hD 10 rfl rfl rfl
    have hP := hPD.1
    have hD := hPD.2
    refine lv_iand hx hb eX10_broken_26.2.2.2.2.2.2.1 ?_
    refine lv_topi (fun v_6 ev_6 => ?_)
    have hp := hp v_6 ev_6
    refine lv_istore_n (lv' := [(2, .int v_6), (0, .ref a_m), (1, .int p0)]) hx hb eX10_broken_26.2.2.2.2.2.2.2.1 rfl hl (by decide) rfl (fun ls hl => ?_)
    refine lv_aload_n hx hb eX10_broken_26.2.2.2.2.2.2.2.2.1 rfl (lv_at hl 1 rfl) ?_
    refine lv_iload_n hx hb eX10_broken_26.2.2.2.2.2.2.2.2.2.1 rfl (lv_at hl 0 rfl) ?_
    have hm := mgk (wc := (wd_X10_cover cI cC cZ cB cJ a_m oJ uD dY iJ lJ jQ jR jW jK pJ bM aY jO gR gY mK jZ iY bG mJ jB mQ lY eJ bY bW aG jG bQ 0 jY m_length qG uW eY aJ aB bU dN aR aE bJ aW bT gJ xY bL bR bO mY pW (upd zM p0.toNatClampNeg 0))) hP aBr 10 rfl rfl rfl
    refine g_calli hP hD hS hA (mixT aBr) (mixF aBr) hm.1 hm.2 (nd_F _) (dis_g _) (g_runV (As := [.int v_6]) (rest := []) C0 hP hD hS (mixT aBr) hm.1 (nd_T _) 0 10 rfl rfl (c_X10_cover l dC dI cI cC cZ cB cJ a_m oJ uD dY iJ lJ jQ jR jW jK pJ bM aY jO gR gY mK jZ iY bG mJ jB mQ lY eJ bY H.size v_6 bW aG jG bQ 0 jY m_length qG uW eY aJ aB bU dN aR aE bJ aW bT gJ xY bL bR bO mY pW (upd zM p0.toNatClampNeg 0) _ hp) q_898 q_901 q_899 q_900 q_642 h_X10_cover rfl rfl ⟨Nat.le_of_ble_eq_true rfl, Nat.le_of_ble_eq_true rfl⟩ rfl rfl hl.1 rfl (lv_room (Nat.le_of_ble_eq_true rfl)) eX10_broken_26.2.2.2.2.2.2.2.2.2.2.1 ⟨Nat.zero_le _, Nat.zero_le _⟩) (fun r_7 u H locs hp hP hD hS => ?_)
    have hPD := PDm (ws' := (wd_X10_broken cI cC cZ cB cJ a_m oJ uD dY iJ lJ jQ jR jW jK pJ bM aY jO gR gY mK jZ iY bG mJ jB mQ lY eJ bY bW aG jG bQ 0 jY m_length qG uW eY aJ aB bU dN aR aE bJ aW bT gJ xY bL bR bO mY pW rD m_x jA rW oY pR pX uM (upd zM p0.toNatClampNeg 0))) hP hD 10 rfl rfl rfl
    have hP := hPD.1
    have hD := hPD.2
    have hm := mgk (wc := (wd_J6_bitCount_0f7a4 cI cC cZ cB cJ)) hP zH 10 rfl rfl rfl
    refine g_calli hP hD hS hA (mixT zH) (mixF zH) hm.1 hm.2 (nd_F _) (dis_g _) (g_runS (As := [.int r_7]) (rest := []) C0 hP hD hS (mixT zH) hm.1 (nd_T _) (c_J6_bitCount_0f7a4 l dC dI cI cC cZ cB cJ H.size r_7 _ hp) q_320 q_803 q_322 q_321 h_J6_bitCount_0f7a4 rfl rfl ⟨Nat.le_of_ble_eq_true rfl, Nat.le_of_ble_eq_true rfl⟩ rfl rfl hl.1 rfl (lv_room (Nat.le_of_ble_eq_true rfl)) eX10_broken_26.2.2.2.2.2.2.2.2.2.2.2.1 ⟨Nat.zero_le _, Nat.zero_le _⟩) (fun r_8 u H locs hp hP hD hS => ?_)
    have hPD := PDm (ws' := (wd_X10_broken cI cC cZ cB cJ a_m oJ uD dY iJ lJ jQ jR jW jK pJ bM aY jO gR gY mK jZ iY bG mJ jB mQ lY eJ bY bW aG jG bQ 0 jY m_length qG uW eY aJ aB bU dN aR aE bJ aW bT gJ xY bL bR bO mY pW rD m_x jA rW oY pR pX uM (upd zM p0.toNatClampNeg 0))) hP hD 10 rfl rfl rfl
    have hP := hPD.1
    have hD := hPD.2
    refine lv_istore_n (lv' := [(3, .int r_8), (2, .int v_6), (0, .ref a_m), (1, .int p0)]) hx hb eX10_broken_26.2.2.2.2.2.2.2.2.2.2.2.2.1 rfl hl (by decide) rfl (fun ls hl => ?_)
    refine lv_aload_n hx hb eX10_broken_26.2.2.2.2.2.2.2.2.2.2.2.2.2.1 rfl (lv_at hl 2 rfl) ?_
    refine lv_iconst (v := 0) hx hb eX10_broken_26.2.2.2.2.2.2.2.2.2.2.2.2.2.2.1 ic_0 ?_
    refine va_put (D := (dC, dI)) (ci := 10) (v := .int 0) (ty := .int) (C := RX10) (T := TX10) (N := 51) hx hb hts i_X10 tyX10 tyX10_ok nmX10 hown hK hP hD hS 0 rfl rfl 13 (Nat.le_of_ble_eq_true rfl) (hts _ q_847) (fun _ h9 => h9) rfl (tyX10_ok 13 (Nat.le_of_ble_eq_true rfl)) rfl rfl (Nat.le_of_ble_eq_true rfl) eX10_broken_26.2.2.2.2.2.2.2.2.2.2.2.2.2.2.2 (fun H locs hP hD hS => ?_)
    have hP : va_P (dC, dI) classes (wd_X10_broken cI cC cZ cB cJ a_m oJ uD dY iJ lJ jQ jR jW jK pJ bM aY jO gR gY mK jZ iY bG mJ jB mQ lY eJ bY bW aG jG 0 0 jY m_length qG uW eY aJ aB bU dN aR aE bJ aW bT gJ xY bL bR bO mY pW rD m_x jA rW oY pR pX uM (upd zM p0.toNatClampNeg 0)) H := hP
    have hD : va_D A (wd_X10_broken cI cC cZ cB cJ a_m oJ uD dY iJ lJ jQ jR jW jK pJ bM aY jO gR gY mK jZ iY bG mJ jB mQ lY eJ bY bW aG jG 0 0 jY m_length qG uW eY aJ aB bU dN aR aE bJ aW bT gJ xY bL bR bO mY pW rD m_x jA rW oY pR pX uM (upd zM p0.toNatClampNeg 0)) := hD
    refine lv_aload_n hx hb eX10_broken_54.1 rfl (lv_at hl 2 rfl) ?_
    refine lv_aload_n hx hb eX10_broken_54.2.1 rfl (lv_at hl 2 rfl) ?_
    refine va_get (D := (dC, dI)) (ci := 10) (v := .int xY) (C := RX10) (T := TX10) (N := 51) hx hb hts i_X10 hown hK hP 0 rfl rfl 37 (Nat.le_of_ble_eq_true rfl) (hts _ q_878) (fun _ h9 => h9) rfl eX10_broken_54.2.2.1 ?_
    refine lv_iload_n hx hb eX10_broken_54.2.2.2.1 rfl (lv_at hl 1 rfl) ?_
    refine lv_iconst (v := (-1)) hx hb eX10_broken_54.2.2.2.2.1 ic_m1 ?_
    refine lv_ixor hx hb eX10_broken_54.2.2.2.2.2.1 ?_
    refine lv_iand hx hb eX10_broken_54.2.2.2.2.2.2.1 ?_
    refine lv_topi (fun v_9 ev_9 => ?_)
    have hp := hp v_9 ev_9
    have hm := mgk (wc := (wd_X10_tell cI cC cZ cB cJ a_m oJ uD dY iJ lJ jQ jR jW jK pJ bM aY jO gR gY mK jZ iY bG mJ jB mQ lY eJ bY bW aG jG 0 0 jY m_length qG uW eY aJ aB bU dN aR aE bJ aW bT gJ xY bL bR bO mY pW uM)) hP aAN 10 rfl rfl rfl
    refine g_callv hP hD hS hA (mixT aAN) (mixF aAN) hm.1 hm.2 (nd_F _) (dis_g _) (g_runV (As := [.int v_9]) (rest := []) C0 hP hD hS (mixT aAN) hm.1 (nd_T _) 0 10 rfl rfl (c_X10_tell l dC dI cI cC cZ cB cJ a_m oJ uD dY iJ lJ jQ jR jW jK pJ bM aY jO gR gY mK jZ iY bG mJ jB mQ lY eJ bY H.size v_9 bW aG jG 0 0 jY m_length qG uW eY aJ aB bU dN aR aE bJ aW bT gJ xY bL bR bO mY pW uM _ hp) q_849 q_852 q_850 q_851 q_642 h_X10_tell rfl rfl ⟨Nat.le_of_ble_eq_true rfl, Nat.le_of_ble_eq_true rfl⟩ rfl rfl hl.1 rfl (lv_room (Nat.le_of_ble_eq_true rfl)) eX10_broken_54.2.2.2.2.2.2.2.1 ⟨Nat.zero_le _, Nat.zero_le _⟩) (fun u H locs hp hP hD hS => ?_)
    obtain ⟨xW, zG⟩ := u
    have hPD := PDm (ws' := (wd_X10_broken cI cC cZ cB cJ a_m oJ uD dY iJ lJ jQ jR jW jK pJ bM aY jO gR gY mK jZ iY bG mJ jB mQ lY eJ bY bW aG jG xW 0 jY m_length qG uW eY aJ aB bU dN aR aE bJ aW bT gJ xY bL bR bO mY pW rD m_x jA rW oY pR pX zG (upd zM p0.toNatClampNeg 0))) hP hD 10 rfl rfl rfl
    have hP := hPD.1
    have hD := hPD.2
    refine lv_iload_n hx hb eX10_broken_54.2.2.2.2.2.2.2.2.1 rfl (lv_at hl 0 rfl) ?_
    exact W.iret (v := r_8) hx hb hr (fun t ht hW => ⟨⟨r_8, (xW, 0, xY, zG, (upd zM p0.toNatClampNeg 0)), rfl, hp, by rw [ht]; exact hP, va_K.moved hW.alike hK, hD⟩, hS.F ht⟩) hS.2.2 eX10_broken_54.2.2.2.2.2.2.2.2.2
  · have hp := hp.2 hc
    refine lv_iconst (v := (-1)) hx hb eX10_broken_0.2.2.2.2.2.2.2.1 ic_m1 ?_
    exact W.iret (v := (-1)) hx hb hr (fun t ht hW => ⟨⟨(-1), (bQ, 0, dU, uM, tD), rfl, hp, by rw [ht]; exact hP, va_K.moved hW.alike hK, hD⟩, hS.F ht⟩) hS.2.2 eX10_broken_0.2.2.2.2.2.2.2.2.1
