noncomputable abbrev wd_X10_never (cI cC cZ cB cJ : ClassId) (a_m oJ uD dY iJ lJ jQ jR jW jK pJ bM aY jO gR gY mK jZ iY bG mJ jB mQ lY eJ bY : Nat) (bW aG jG bQ dG : Int32) (jY : Nat) (m_length qG uW eY aJ aB bU dN aR aE bJ aW bT gJ dU bL bR bO mY pW : Int32) (rD m_x jA pY oY pR pX uM : Nat → Int32) : va_W := [(a_m, .inr (10, [.ref oJ, .int bW, .ref uD, .ref dY, .ref iJ, .ref lJ, .int aG, .ref jQ, .ref jR, .ref jW, .ref jK, .int jG, .ref pJ, .int bQ, .int dG, rdv jK jO jY, .int m_length, .int qG, .int uW, .int eY, .ref bM, .ref aY, .int aJ, .int aB, .ref jO, .int bU, .int dN, .int aR, .int aE, .int bJ, .int aW, .ref gR, .int bT, .ref gY, .ref mK, .int gJ, .ref jZ, .int dU, .ref iY, .ref bG, .int bL, .int bR, .int bO, .ref mJ, .ref jB, .ref mQ, .int mY, .int pW, .ref lY, .ref eJ, .ref bY])), (oJ, .inl (cI, 21, .inl rD)), (uD, .inl (cI, 16, .inl m_x)), (dY, .inl (cI, 16, .inl jA)), (iJ, .inl (cI, 16, .inl pY)), (jQ, .inl (cI, 8, .inl oY)), (jR, .inl (cI, 8, .inl pR)), (jW, .inl (cI, 5, .inl pX)), (pJ, .inl (cI, 32, .inl uM))]
noncomputable abbrev q_X10_never (dC : Nat → ClassId) (dI : Nat → Nat → Nat) (cI cC cZ cB cJ : ClassId) (A : Nat → Prop) (a_m oJ uD dY iJ lJ jQ jR jW jK pJ bM aY jO gR gY mK jZ iY bG mJ jB mQ lY eJ bY : Nat) (bW aG jG : Int32) (jY : Nat) (m_length qG uW eY aJ aB bU dN aR aE bJ aW bT gJ dU bL bR bO mY pW : Int32) (rD m_x jA pY oY pR pX : Nat → Int32) (post : Int32 → Int32 → Int32 → (Nat → Int32) → Prop) : Array Value → State → Outcome → State → Prop := va_Qi (fun (r : Int32) (u : Int32 × Int32 × (Nat → Int32)) => post r u.1 u.2.1 u.2.2) (fun u t => gB (dC, dI) (tyl cI cC cZ cB cJ) A (wd_X10_never cI cC cZ cB cJ a_m oJ uD dY iJ lJ jQ jR jW jK pJ bM aY jO gR gY mK jZ iY bG mJ jB mQ lY eJ bY bW aG jG u.1 u.2.1 jY m_length qG uW eY aJ aB bU dN aR aE bJ aW bT gJ dU bL bR bO mY pW rD m_x jA pY oY pR pX u.2.2) t) A
noncomputable abbrev rm_X10_never : Room := { frames := 4, cells := 0, slots := 0, locals := 91 }
section S_X10_never
variable {p : Program} {l : Launch} {e : Env} {s : State} {m : MethodId} {args : Array Value} {below : List Frame} {meth : Method} {c : Code} {dC : Nat → ClassId} {dI : Nat → Nat → Nat} {cI cC cZ cB cJ : ClassId} {A : Nat → Prop} {a_m oJ uD dY iJ lJ jQ jR jW jK pJ bM aY jO gR gY mK jZ iY bG mJ jB mQ lY eJ bY : Nat} {bW aG jG : Int32} {jY : Nat} {m_length qG uW eY aJ aB bU dN aR aE bJ aW bT gJ dU bL bR bO mY pW : Int32} {rD m_x jA pY oY pR pX : Nat → Int32} {post : Int32 → Int32 → Int32 → (Nat → Int32) → Prop}
noncomputable def ws_X10_never_17 (post : Int32 → Int32 → Int32 → (Nat → Int32) → Prop) (next : Int32 → Int32 → Int32 → Int32 → (Nat → Int32) → Prop) (bW aG : Int32) (rD m_x jA pY oY pR pX : Nat → Int32) (x1 x2 bQ dG : Int32) (uM : Nat → Int32) : Prop := (aG ≤ x2 → ∀ v_2 : Int32, v_2 = rD (16 : Int32).toNatClampNeg → wp_X10_worthOfAll (fun r_3 => wp_X10_tell (fun aAl aCV => post x1 aAl dG aCV) r_3 0 uM) x1 v_2 bW pY) ∧ (¬ aG ≤ x2 → wp_X10_reachedFrom (fun r_6 => ∀ v_7 : Int32, v_7 = x1 &&& (r_6 ^^^ (-1)) → ∀ v_8 : Int32, v_8 = x2 + 1 → next v_7 v_8 bQ dG uM) x2 1 1 bW m_x jA oY pR pX)
noncomputable def wb_X10_never_17 (post : Int32 → Int32 → Int32 → (Nat → Int32) → Prop) (bW aG : Int32) (rD m_x jA pY oY pR pX : Nat → Int32) : Nat → Int32 → Int32 → Int32 → Int32 → (Nat → Int32) → Prop := fun n => Nat.rec (motive := fun _ => Int32 → Int32 → Int32 → Int32 → (Nat → Int32) → Prop) (fun _ _ _ _ _ => False) (fun _ ih => ws_X10_never_17 post ih bW aG rD m_x jA pY oY pR pX) n
set_option maxHeartbeats 4000000 in
set_option maxRecDepth 100000 in
theorem ks_X10_never_17 (C0 : gc cX10_never (some .int) 3 RX10 (dC, dI) (tyl cI cC cZ cB cJ) A p s m args meth c) {next : Int32 → Int32 → Int32 → Int32 → (Nat → Int32) → Prop} (hKn : ∀ (x1 : Int32) (x2 : Int32) (bQ : Int32) (dG : Int32) (uM : Nat → Int32) (H : Heap) (locs : List Loc) (ls : Array Slot), next x1 x2 bQ dG uM → va_P (dC, dI) classes (wd_X10_never cI cC cZ cB cJ a_m oJ uD dY iJ lJ jQ jR jW jK pJ bM aY jO gR gY mK jZ iY bG mJ jB mQ lY eJ bY bW aG jG bQ dG jY m_length qG uW eY aJ aB bU dN aR aE bJ aW bT gJ dU bL bR bO mY pW rD m_x jA pY oY pR pX uM) H → va_D A (wd_X10_never cI cC cZ cB cJ a_m oJ uD dY iJ lJ jQ jR jW jK pJ bM aY jO gR gY mK jZ iY bG mJ jB mQ lY eJ bY bW aG jG bQ dG jY m_length qG uW eY aJ aB bU dN aR aE bJ aW bT gJ dU bL bR bO mY pW rD m_x jA pY oY pR pX uM) → va_S A s.heap H locs → lv_has ls 3 [(0, .ref a_m), (1, .int x1), (2, .int x2)] → W p l e rm_X10_never s m args below meth c H locs 0 0 (MQ below (q_X10_never dC dI cI cC cZ cB cJ A a_m oJ uD dY iJ lJ jQ jR jW jK pJ bM aY jO gR gY mK jZ iY bG mJ jB mQ lY eJ bY bW aG jG jY m_length qG uW eY aJ aB bU dN aR aE bJ aW bT gJ dU bL bR bO mY pW rD m_x jA pY oY pR pX post) args s 0 0 A) (F0 m 17 ls [])) : ∀ (x1 x2 bQ dG : Int32) (uM : Nat → Int32) (H : Heap) (locs : List Loc) (ls : Array Slot), (ws_X10_never_17 post next bW aG rD m_x jA pY oY pR pX) x1 x2 bQ dG uM → va_P (dC, dI) classes (wd_X10_never cI cC cZ cB cJ a_m oJ uD dY iJ lJ jQ jR jW jK pJ bM aY jO gR gY mK jZ iY bG mJ jB mQ lY eJ bY bW aG jG bQ dG jY m_length qG uW eY aJ aB bU dN aR aE bJ aW bT gJ dU bL bR bO mY pW rD m_x jA pY oY pR pX uM) H → va_D A (wd_X10_never cI cC cZ cB cJ a_m oJ uD dY iJ lJ jQ jR jW jK pJ bM aY jO gR gY mK jZ iY bG mJ jB mQ lY eJ bY bW aG jG bQ dG jY m_length qG uW eY aJ aB bU dN aR aE bJ aW bT gJ dU bL bR bO mY pW rD m_x jA pY oY pR pX uM) → va_S A s.heap H locs → lv_has ls 3 [(0, .ref a_m), (1, .int x1), (2, .int x2)] → W p l e rm_X10_never s m args below meth c H locs 0 0 (MQ below (q_X10_never dC dI cI cC cZ cB cJ A a_m oJ uD dY iJ lJ jQ jR jW jK pJ bM aY jO gR gY mK jZ iY bG mJ jB mQ lY eJ bY bW aG jG jY m_length qG uW eY aJ aB bU dN aR aE bJ aW bT gJ dU bL bR bO mY pW rD m_x jA pY oY pR pX post) args s 0 0 A) (F0 m 17 ls []) := by
  obtain ⟨hx, hb, hr, hml, hown, hts, hlocks, hA, hK, hN, tL, tM, hZL, hTL, hZM, hTM, hZX⟩ := id C0
  intro x1 x2 bQ dG uM H locs ls hp hP hD hS hl
  unfold ws_X10_never_17 at hp
  refine lv_iload_n hx hb eX10_never_0.2.2.2.2.2.2.2.2.2.2.2.1 rfl (lv_at hl 2 rfl) ?_
  refine lv_aload_n hx hb eX10_never_0.2.2.2.2.2.2.2.2.2.2.2.2.1 rfl (lv_at hl 0 rfl) ?_
  refine va_get (D := (dC, dI)) (ci := 10) (v := .int aG) (C := RX10) (T := TX10) (N := 51) hx hb hts i_X10 hown hK hP 0 rfl rfl 6 (Nat.le_of_ble_eq_true rfl) (hts _ q_666) (fun _ h9 => h9) rfl eX10_never_0.2.2.2.2.2.2.2.2.2.2.2.2.2.1 ?_
  refine lv_icmp_ge (tgt := 43) hx hb eX10_never_0.2.2.2.2.2.2.2.2.2.2.2.2.2.2.1 (by decide) (fun hc => ?_) (fun hc => ?_)
  · have hp := hp.1 hc
    refine lv_aload_n hx hb eX10_never_26.2.2.2.2.2.2.2.2.2.2.2.1 rfl (lv_at hl 0 rfl) ?_
    refine lv_iconst (v := 0) hx hb eX10_never_26.2.2.2.2.2.2.2.2.2.2.2.2.1 ic_0 ?_
    refine va_put (D := (dC, dI)) (ci := 10) (v := .int 0) (ty := .int) (C := RX10) (T := TX10) (N := 51) hx hb hts i_X10 tyX10 tyX10_ok nmX10 hown hK hP hD hS 0 rfl rfl 13 (Nat.le_of_ble_eq_true rfl) (hts _ q_847) (fun _ h9 => h9) rfl (tyX10_ok 13 (Nat.le_of_ble_eq_true rfl)) rfl rfl (Nat.le_of_ble_eq_true rfl) eX10_never_26.2.2.2.2.2.2.2.2.2.2.2.2.2.1 (fun H locs hP hD hS => ?_)
    have hP : va_P (dC, dI) classes (wd_X10_never cI cC cZ cB cJ a_m oJ uD dY iJ lJ jQ jR jW jK pJ bM aY jO gR gY mK jZ iY bG mJ jB mQ lY eJ bY bW aG jG 0 dG jY m_length qG uW eY aJ aB bU dN aR aE bJ aW bT gJ dU bL bR bO mY pW rD m_x jA pY oY pR pX uM) H := hP
    have hD : va_D A (wd_X10_never cI cC cZ cB cJ a_m oJ uD dY iJ lJ jQ jR jW jK pJ bM aY jO gR gY mK jZ iY bG mJ jB mQ lY eJ bY bW aG jG 0 dG jY m_length qG uW eY aJ aB bU dN aR aE bJ aW bT gJ dU bL bR bO mY pW rD m_x jA pY oY pR pX uM) := hD
    refine lv_aload_n hx hb eX10_never_26.2.2.2.2.2.2.2.2.2.2.2.2.2.2.1 rfl (lv_at hl 0 rfl) ?_
    refine lv_aload_n hx hb eX10_never_26.2.2.2.2.2.2.2.2.2.2.2.2.2.2.2 rfl (lv_at hl 0 rfl) ?_
    refine lv_iload_n hx hb eX10_never_50.1 rfl (lv_at hl 1 rfl) ?_
    refine lv_aload_n hx hb eX10_never_50.2.1 rfl (lv_at hl 0 rfl) ?_
    refine va_get (D := (dC, dI)) (ci := 10) (v := .ref oJ) (C := RX10) (T := TX10) (N := 51) hx hb hts i_X10 hown hK hP 0 rfl rfl 0 (Nat.le_of_ble_eq_true rfl) (hts _ q_692) (fun _ h9 => h9) rfl eX10_never_50.2.2.1 ?_
    refine lv_bipush (v := 16) hx hb eX10_never_50.2.2.2.1 bp_16 ?_
    refine va_iald hx hb hK hP 1 0 rfl rfl (g_in rfl) eX10_never_50.2.2.2.2.1 ?_
    refine lv_topi (fun v_2 ev_2 => ?_)
    have hp := hp v_2 ev_2
    have hm := mgk (wc := (wd_X10_worthOfAll cI cC cZ cB cJ a_m oJ uD dY iJ lJ jQ jR jW jK pJ bM aY jO gR gY mK jZ iY bG mJ jB mQ lY eJ bY bW aG jG 0 dG jY m_length qG uW eY aJ aB bU dN aR aE bJ aW bT gJ dU bL bR bO mY pW pY)) hP mk_245 9 rfl rfl rfl
    refine g_calli hP hD hS hA (mixT mk_245) (mixF mk_245) hm.1 hm.2 (nd_F _) (dis_g _) (g_runV (As := [.int x1, .int v_2]) (rest := [.ref a_m]) C0 hP hD hS (mixT mk_245) hm.1 (nd_T _) 0 10 rfl rfl (c_X10_worthOfAll l dC dI cI cC cZ cB cJ a_m oJ uD dY iJ lJ jQ jR jW jK pJ bM aY jO gR gY mK jZ iY bG mJ jB mQ lY eJ bY H.size x1 v_2 bW aG jG 0 dG jY m_length qG uW eY aJ aB bU dN aR aE bJ aW bT gJ dU bL bR bO mY pW pY _ hp) q_865 q_868 q_866 q_867 q_642 h_X10_worthOfAll rfl rfl ⟨Nat.le_of_ble_eq_true rfl, Nat.le_of_ble_eq_true rfl⟩ rfl rfl hl.1 rfl (lv_room (Nat.le_of_ble_eq_true rfl)) eX10_never_50.2.2.2.2.2.1 ⟨Nat.zero_le _, Nat.zero_le _⟩) (fun r_3 u H locs hp hP hD hS => ?_)
    have hPD := PDm (ws' := (wd_X10_never cI cC cZ cB cJ a_m oJ uD dY iJ lJ jQ jR jW jK pJ bM aY jO gR gY mK jZ iY bG mJ jB mQ lY eJ bY bW aG jG 0 dG jY m_length qG uW eY aJ aB bU dN aR aE bJ aW bT gJ dU bL bR bO mY pW rD m_x jA pY oY pR pX uM)) hP hD 9 rfl rfl rfl
    have hP := hPD.1
    have hD := hPD.2
    have hm := mgk (wc := (wd_X10_tell cI cC cZ cB cJ a_m oJ uD dY iJ lJ jQ jR jW jK pJ bM aY jO gR gY mK jZ iY bG mJ jB mQ lY eJ bY bW aG jG 0 dG jY m_length qG uW eY aJ aB bU dN aR aE bJ aW bT gJ dU bL bR bO mY pW uM)) hP mk_246 9 rfl rfl rfl
    refine g_callv hP hD hS hA (mixT mk_246) (mixF mk_246) hm.1 hm.2 (nd_F _) (dis_g _) (g_runV (As := [.int r_3]) (rest := []) C0 hP hD hS (mixT mk_246) hm.1 (nd_T _) 0 10 rfl rfl (c_X10_tell l dC dI cI cC cZ cB cJ a_m oJ uD dY iJ lJ jQ jR jW jK pJ bM aY jO gR gY mK jZ iY bG mJ jB mQ lY eJ bY H.size r_3 bW aG jG 0 dG jY m_length qG uW eY aJ aB bU dN aR aE bJ aW bT gJ dU bL bR bO mY pW uM _ hp) q_849 q_852 q_850 q_851 q_642 h_X10_tell rfl rfl ⟨Nat.le_of_ble_eq_true rfl, Nat.le_of_ble_eq_true rfl⟩ rfl rfl hl.1 rfl (lv_room (Nat.le_of_ble_eq_true rfl)) eX10_never_50.2.2.2.2.2.2.1 ⟨Nat.zero_le _, Nat.zero_le _⟩) (fun u H locs hp hP hD hS => ?_)
    obtain ⟨aAl, aCV⟩ := u
    have hPD := PDm (ws' := (wd_X10_never cI cC cZ cB cJ a_m oJ uD dY iJ lJ jQ jR jW jK pJ bM aY jO gR gY mK jZ iY bG mJ jB mQ lY eJ bY bW aG jG aAl dG jY m_length qG uW eY aJ aB bU dN aR aE bJ aW bT gJ dU bL bR bO mY pW rD m_x jA pY oY pR pX aCV)) hP hD 9 rfl rfl rfl
    have hP := hPD.1
    have hD := hPD.2
    refine lv_iload_n hx hb eX10_never_50.2.2.2.2.2.2.2.1 rfl (lv_at hl 1 rfl) ?_
    exact W.iret (v := x1) hx hb hr (fun t ht hW => ⟨⟨x1, (aAl, dG, aCV), rfl, hp, by rw [ht]; exact hP, va_K.moved hW.alike hK, hD⟩, hS.F ht⟩) hS.2.2 eX10_never_50.2.2.2.2.2.2.2.2
  · have hp := hp.2 hc
    refine lv_iload_n hx hb eX10_never_0.2.2.2.2.2.2.2.2.2.2.2.2.2.2.2 rfl (lv_at hl 1 rfl) ?_
    refine lv_aload_n hx hb eX10_never_26.1 rfl (lv_at hl 0 rfl) ?_
    refine lv_iload_n hx hb eX10_never_26.2.1 rfl (lv_at hl 2 rfl) ?_
    refine lv_iconst (v := 1) hx hb eX10_never_26.2.2.1 ic_1 ?_
    refine lv_iconst (v := 1) hx hb eX10_never_26.2.2.2.1 ic_1 ?_
    have hm := mgk (wc := (wd_X10_reachedFrom cI cC cZ cB cJ a_m oJ uD dY iJ lJ jQ jR jW jK pJ bM aY jO gR gY mK jZ iY bG mJ jB mQ lY eJ bY bW aG jG bQ dG jY m_length qG uW eY aJ aB bU dN aR aE bJ aW bT gJ dU bL bR bO mY pW m_x jA oY pR pX)) hP mk_247 9 rfl rfl rfl
    refine g_calli hP hD hS hA (mixT mk_247) (mixF mk_247) hm.1 hm.2 (nd_F _) (dis_g _) (g_runV (As := [.int x2, .int 1, .int 1]) (rest := [.int x1]) C0 hP hD hS (mixT mk_247) hm.1 (nd_T _) 0 10 rfl rfl (c_X10_reachedFrom l dC dI cI cC cZ cB cJ a_m oJ uD dY iJ lJ jQ jR jW jK pJ bM aY jO gR gY mK jZ iY bG mJ jB mQ lY eJ bY H.size x2 1 1 bW aG jG bQ dG jY m_length qG uW eY aJ aB bU dN aR aE bJ aW bT gJ dU bL bR bO mY pW m_x jA oY pR pX _ hp) q_824 q_827 q_825 q_826 q_642 h_X10_reachedFrom rfl rfl ⟨Nat.le_of_ble_eq_true rfl, Nat.le_of_ble_eq_true rfl⟩ rfl rfl hl.1 rfl (lv_room (Nat.le_of_ble_eq_true rfl)) eX10_never_26.2.2.2.2.1 ⟨Nat.zero_le _, Nat.zero_le _⟩) (fun r_6 u H locs hp hP hD hS => ?_)
    have hPD := PDm (ws' := (wd_X10_never cI cC cZ cB cJ a_m oJ uD dY iJ lJ jQ jR jW jK pJ bM aY jO gR gY mK jZ iY bG mJ jB mQ lY eJ bY bW aG jG bQ dG jY m_length qG uW eY aJ aB bU dN aR aE bJ aW bT gJ dU bL bR bO mY pW rD m_x jA pY oY pR pX uM)) hP hD 9 rfl rfl rfl
    have hP := hPD.1
    have hD := hPD.2
    refine lv_iconst (v := (-1)) hx hb eX10_never_26.2.2.2.2.2.1 ic_m1 ?_
    refine lv_ixor hx hb eX10_never_26.2.2.2.2.2.2.1 ?_
    refine lv_iand hx hb eX10_never_26.2.2.2.2.2.2.2.1 ?_
    refine lv_topi (fun v_7 ev_7 => ?_)
    have hp := hp v_7 ev_7
    refine lv_istore_n (lv' := [(1, .int v_7), (0, .ref a_m), (2, .int x2)]) hx hb eX10_never_26.2.2.2.2.2.2.2.2.1 rfl hl (by decide) rfl (fun ls hl => ?_)
    obtain ⟨v_8, ev_8⟩ : ∃ y : Int32, y = x2 + 1 := ⟨_, rfl⟩
    refine lv_iinc (v := v_8) (lv' := [(2, .int v_8), (1, .int v_7), (0, .ref a_m)]) hx hb eX10_never_26.2.2.2.2.2.2.2.2.2.1 hl (k := 2) rfl (by rw [ev_8]; rfl) (by decide) rfl (fun ls hl => ?_)
    have hp := hp v_8 ev_8
    refine lv_goto (tgt := 17) hx hb eX10_never_26.2.2.2.2.2.2.2.2.2.2.1 (by decide) ?_
    exact hKn v_7 v_8 bQ dG uM H locs ls hp hP hD hS (lv_sub hl [2, 1, 0] rfl)
set_option maxHeartbeats 4000000 in
set_option maxRecDepth 100000 in
theorem kb_X10_never_17 (C0 : gc cX10_never (some .int) 3 RX10 (dC, dI) (tyl cI cC cZ cB cJ) A p s m args meth c) : ∀ (n : Nat), ∀ (x1 x2 bQ dG : Int32) (uM : Nat → Int32) (H : Heap) (locs : List Loc) (ls : Array Slot), (wb_X10_never_17 post bW aG rD m_x jA pY oY pR pX n) x1 x2 bQ dG uM → va_P (dC, dI) classes (wd_X10_never cI cC cZ cB cJ a_m oJ uD dY iJ lJ jQ jR jW jK pJ bM aY jO gR gY mK jZ iY bG mJ jB mQ lY eJ bY bW aG jG bQ dG jY m_length qG uW eY aJ aB bU dN aR aE bJ aW bT gJ dU bL bR bO mY pW rD m_x jA pY oY pR pX uM) H → va_D A (wd_X10_never cI cC cZ cB cJ a_m oJ uD dY iJ lJ jQ jR jW jK pJ bM aY jO gR gY mK jZ iY bG mJ jB mQ lY eJ bY bW aG jG bQ dG jY m_length qG uW eY aJ aB bU dN aR aE bJ aW bT gJ dU bL bR bO mY pW rD m_x jA pY oY pR pX uM) → va_S A s.heap H locs → lv_has ls 3 [(0, .ref a_m), (1, .int x1), (2, .int x2)] → W p l e rm_X10_never s m args below meth c H locs 0 0 (MQ below (q_X10_never dC dI cI cC cZ cB cJ A a_m oJ uD dY iJ lJ jQ jR jW jK pJ bM aY jO gR gY mK jZ iY bG mJ jB mQ lY eJ bY bW aG jG jY m_length qG uW eY aJ aB bU dN aR aE bJ aW bT gJ dU bL bR bO mY pW rD m_x jA pY oY pR pX post) args s 0 0 A) (F0 m 17 ls []) := by
  intro n
  induction n with
  | zero =>
    intro x1 x2 bQ dG uM H locs ls hp
    exact False.elim hp
  | succ n ih =>
    intro x1 x2 bQ dG uM H locs ls hp
    exact ks_X10_never_17 C0 ih x1 x2 bQ dG uM H locs ls hp
end S_X10_never
noncomputable def wp_X10_never (post : Int32 → Int32 → Int32 → (Nat → Int32) → Prop) (bW aG bQ dG : Int32) (rD m_x jA pY oY pR pX uM : Nat → Int32) : Prop := wp_X10_which (fun r_1 => ∃ n : Nat, wb_X10_never_17 post bW aG rD m_x jA pY oY pR pX n r_1 0 bQ 0 uM) 0 bW rD
set_option maxHeartbeats 4000000 in
set_option maxRecDepth 100000 in
theorem c_X10_never (l : Launch) (dC : Nat → ClassId) (dI : Nat → Nat → Nat) (cI cC cZ cB cJ : ClassId) (a_m oJ uD dY iJ lJ jQ jR jW jK pJ bM aY jO gR gY mK jZ iY bG mJ jB mQ lY eJ bY sz : Nat) (bW aG jG bQ dG : Int32) (jY : Nat) (m_length qG uW eY aJ aB bU dN aR aE bJ aW bT gJ dU bL bR bO mY pW : Int32) (rD m_x jA pY oY pR pX uM : Nat → Int32) (post : Int32 → Int32 → Int32 → (Nat → Int32) → Prop) (hw : wp_X10_never post bW aG bQ dG rD m_x jA pY oY pR pX uM) : Met l yX10_never (gw yX10_never cX10_never 3 (some .int)) rm_X10_never (va_Pc [.ref a_m] (gPre (dC, dI) (tyl cI cC cZ cB cJ) (wd_X10_never cI cC cZ cB cJ a_m oJ uD dY iJ lJ jQ jR jW jK pJ bM aY jO gR gY mK jZ iY bG mJ jB mQ lY eJ bY bW aG jG bQ dG jY m_length qG uW eY aJ aB bU dN aR aE bJ aW bT gJ dU bL bR bO mY pW rD m_x jA pY oY pR pX uM) sz)) (q_X10_never dC dI cI cC cZ cB cJ (va_A (wd_X10_never cI cC cZ cB cJ a_m oJ uD dY iJ lJ jQ jR jW jK pJ bM aY jO gR gY mK jZ iY bG mJ jB mQ lY eJ bY bW aG jG bQ dG jY m_length qG uW eY aJ aB bU dN aR aE bJ aW bT gJ dU bL bR bO mY pW rD m_x jA pY oY pR pX uM) sz) a_m oJ uD dY iJ lJ jQ jR jW jK pJ bM aY jO gR gY mK jZ iY bG mJ jB mQ lY eJ bY bW aG jG jY m_length qG uW eY aJ aB bU dN aR aE bJ aW bT gJ dU bL bR bO mY pW rD m_x jA pY oY pR pX post) 0 0 (va_A (wd_X10_never cI cC cZ cB cJ a_m oJ uD dY iJ lJ jQ jR jW jK pJ bM aY jO gR gY mK jZ iY bG mJ jB mQ lY eJ bY bW aG jG bQ dG jY m_length qG uW eY aJ aB bU dN aR aE bJ aW bT gJ dU bL bR bO mY pW rD m_x jA pY oY pR pX uM) sz) := by
  refine g_enter (own := RX10) (dC, dI) (tyl cI cC cZ cB cJ) (wd_X10_never cI cC cZ cB cJ a_m oJ uD dY iJ lJ jQ jR jW jK pJ bM aY jO gR gY mK jZ iY bG mJ jB mQ lY eJ bY bW aG jG bQ dG jY m_length qG uW eY aJ aB bU dN aR aE bJ aW bT gJ dU bL bR bO mY pW rD m_x jA pY oY pR pX uM) sz [.ref a_m] (fun A => q_X10_never dC dI cI cC cZ cB cJ A a_m oJ uD dY iJ lJ jQ jR jW jK pJ bM aY jO gR gY mK jZ iY bG mJ jB mQ lY eJ bY bW aG jG jY m_length qG uW eY aJ aB bU dN aR aE bJ aW bT gJ dU bL bR bO mY pW rD m_x jA pY oY pR pX post) pn_RX10 rfl (Nat.le_of_ble_eq_true rfl) ?_
  intro p e s m args below meth c A H locs ls C0 hP hD hS hl
  have hl : lv_has ls 3 [(0, .ref a_m)] := hl
  obtain ⟨hx, hb, hr, hml, hown, hts, hlocks, hA, hK, hN, tL, tM, hZL, hTL, hZM, hTM, hZX⟩ := id C0
  have hp := hw
  unfold wp_X10_never at hp
  refine lv_aload_n hx hb eX10_never_0.1 rfl (lv_at hl 0 rfl) ?_
  refine lv_iconst (v := 0) hx hb eX10_never_0.2.1 ic_0 ?_
  refine va_put (D := (dC, dI)) (ci := 10) (v := .int 0) (ty := .int) (C := RX10) (T := TX10) (N := 51) hx hb hts i_X10 tyX10 tyX10_ok nmX10 hown hK hP hD hS 0 rfl rfl 14 (Nat.le_of_ble_eq_true rfl) (hts _ q_638) (fun _ h9 => h9) rfl (tyX10_ok 14 (Nat.le_of_ble_eq_true rfl)) rfl rfl (Nat.le_of_ble_eq_true rfl) eX10_never_0.2.2.1 (fun H locs hP hD hS => ?_)
  have hP : va_P (dC, dI) classes (wd_X10_never cI cC cZ cB cJ a_m oJ uD dY iJ lJ jQ jR jW jK pJ bM aY jO gR gY mK jZ iY bG mJ jB mQ lY eJ bY bW aG jG bQ 0 jY m_length qG uW eY aJ aB bU dN aR aE bJ aW bT gJ dU bL bR bO mY pW rD m_x jA pY oY pR pX uM) H := hP
  have hD : va_D A (wd_X10_never cI cC cZ cB cJ a_m oJ uD dY iJ lJ jQ jR jW jK pJ bM aY jO gR gY mK jZ iY bG mJ jB mQ lY eJ bY bW aG jG bQ 0 jY m_length qG uW eY aJ aB bU dN aR aE bJ aW bT gJ dU bL bR bO mY pW rD m_x jA pY oY pR pX uM) := hD
  refine lv_aload_n hx hb eX10_never_0.2.2.2.1 rfl (lv_at hl 0 rfl) ?_
  refine lv_aload_n hx hb eX10_never_0.2.2.2.2.1 rfl (lv_at hl 0 rfl) ?_
  refine va_get (D := (dC, dI)) (ci := 10) (v := .ref oJ) (C := RX10) (T := TX10) (N := 51) hx hb hts i_X10 hown hK hP 0 rfl rfl 0 (Nat.le_of_ble_eq_true rfl) (hts _ q_692) (fun _ h9 => h9) rfl eX10_never_0.2.2.2.2.2.1 ?_
  refine lv_iconst (v := 0) hx hb eX10_never_0.2.2.2.2.2.2.1 ic_0 ?_
  have hm := mgk (wc := (wd_X10_which cI cC cZ cB cJ a_m oJ uD dY iJ lJ jQ jR jW jK pJ bM aY jO gR gY mK jZ iY bG mJ jB mQ lY eJ bY bW aG jG bQ 0 jY m_length qG uW eY aJ aB bU dN aR aE bJ aW bT gJ dU bL bR bO mY pW rD)) hP mk_5 9 rfl rfl rfl
  refine g_calli hP hD hS hA (mixT mk_5) (mixF mk_5) hm.1 hm.2 (nd_F _) (dis_g _) (g_runV (As := [.ref oJ, .int 0]) (rest := []) C0 hP hD hS (mixT mk_5) hm.1 (nd_T _) 0 10 rfl rfl (c_X10_which l dC dI cI cC cZ cB cJ a_m oJ uD dY iJ lJ jQ jR jW jK pJ bM aY jO gR gY mK jZ iY bG mJ jB mQ lY eJ bY H.size 0 bW aG jG bQ 0 jY m_length qG uW eY aJ aB bU dN aR aE bJ aW bT gJ dU bL bR bO mY pW rD _ hp) q_749 q_752 q_750 q_751 q_642 h_X10_which rfl rfl ⟨Nat.le_of_ble_eq_true rfl, Nat.le_of_ble_eq_true rfl⟩ rfl rfl hl.1 rfl (lv_room (Nat.le_of_ble_eq_true rfl)) eX10_never_0.2.2.2.2.2.2.2.1 ⟨Nat.zero_le _, Nat.zero_le _⟩) (fun r_1 u H locs hp hP hD hS => ?_)
  have hPD := PDm (ws' := (wd_X10_never cI cC cZ cB cJ a_m oJ uD dY iJ lJ jQ jR jW jK pJ bM aY jO gR gY mK jZ iY bG mJ jB mQ lY eJ bY bW aG jG bQ 0 jY m_length qG uW eY aJ aB bU dN aR aE bJ aW bT gJ dU bL bR bO mY pW rD m_x jA pY oY pR pX uM)) hP hD 9 rfl rfl rfl
  have hP := hPD.1
  have hD := hPD.2
  refine lv_istore_n (lv' := [(1, .int r_1), (0, .ref a_m)]) hx hb eX10_never_0.2.2.2.2.2.2.2.2.1 rfl hl (by decide) rfl (fun ls hl => ?_)
  refine lv_iconst (v := 0) hx hb eX10_never_0.2.2.2.2.2.2.2.2.2.1 ic_0 ?_
  refine lv_istore_n (lv' := [(2, .int 0), (1, .int r_1), (0, .ref a_m)]) hx hb eX10_never_0.2.2.2.2.2.2.2.2.2.2.1 rfl hl (by decide) rfl (fun ls hl => ?_)
  obtain ⟨n9, hp⟩ := hp
  exact kb_X10_never_17 C0 n9 r_1 0 bQ 0 uM H locs ls hp hP hD hS (lv_sub hl [2, 1, 0] rfl)
noncomputable abbrev wd_X10_seconds (cI cC cZ cB cJ : ClassId) (a_m oJ uD dY iJ lJ jQ jR jW jK pJ bM aY jO gR gY mK jZ iY bG mJ jB mQ lY eJ bY : Nat) (bW aG jG bQ dG : Int32) (jY : Nat) (m_length qG uW eY aJ aB bU dN aR aE bJ aW bT gJ dU bL bR bO mY pW : Int32) (rD m_x jA pY oY pR pX rG rQ : Nat → Int32) : va_W := [(a_m, .inr (10, [.ref oJ, .int bW, .ref uD, .ref dY, .ref iJ, .ref lJ, .int aG, .ref jQ, .ref jR, .ref jW, .ref jK, .int jG, .ref pJ, .int bQ, .int dG, rdv jK jO jY, .int m_length, .int qG, .int uW, .int eY, .ref bM, .ref aY, .int aJ, .int aB, .ref jO, .int bU, .int dN, .int aR, .int aE, .int bJ, .int aW, .ref gR, .int bT, .ref gY, .ref mK, .int gJ, .ref jZ, .int dU, .ref iY, .ref bG, .int bL, .int bR, .int bO, .ref mJ, .ref jB, .ref mQ, .int mY, .int pW, .ref lY, .ref eJ, .ref bY])), (oJ, .inl (cI, 21, .inl rD)), (uD, .inl (cI, 16, .inl m_x)), (dY, .inl (cI, 16, .inl jA)), (iJ, .inl (cI, 16, .inl pY)), (jQ, .inl (cI, 8, .inl oY)), (jR, .inl (cI, 8, .inl pR)), (jW, .inl (cI, 5, .inl pX)), (jK, .inl (cB, 80, .inl rG)), (jO, .inl (cB, 40, .inl rQ))]
noncomputable abbrev q_X10_seconds (dC : Nat → ClassId) (dI : Nat → Nat → Nat) (cI cC cZ cB cJ : ClassId) (A : Nat → Prop) (a_m oJ uD dY iJ lJ jQ jR jW jK pJ bM aY jO gR gY mK jZ iY bG mJ jB mQ lY eJ bY : Nat) (bW aG jG bQ aJ aB bU bT gJ dU bL bR bO mY pW : Int32) (rD m_x jA pY oY pR pX rG rQ : Nat → Int32) (post : Int32 → Int32 → Nat → Int32 → Int32 → Int32 → Int32 → Int32 → Int32 → Int32 → Int32 → Int32 → Prop) : Array Value → State → Outcome → State → Prop := va_Qi (fun (r : Int32) (u : Int32 × Nat × Int32 × Int32 × Int32 × Int32 × Int32 × Int32 × Int32 × Int32 × Int32) => post r u.1 u.2.1 u.2.2.1 u.2.2.2.1 u.2.2.2.2.1 u.2.2.2.2.2.1 u.2.2.2.2.2.2.1 u.2.2.2.2.2.2.2.1 u.2.2.2.2.2.2.2.2.1 u.2.2.2.2.2.2.2.2.2.1 u.2.2.2.2.2.2.2.2.2.2) (fun u t => gB (dC, dI) (tyl cI cC cZ cB cJ) A (wd_X10_seconds cI cC cZ cB cJ a_m oJ uD dY iJ lJ jQ jR jW jK pJ bM aY jO gR gY mK jZ iY bG mJ jB mQ lY eJ bY bW aG jG bQ u.1 u.2.1 u.2.2.1 u.2.2.2.1 u.2.2.2.2.1 u.2.2.2.2.2.1 aJ aB bU u.2.2.2.2.2.2.1 u.2.2.2.2.2.2.2.1 u.2.2.2.2.2.2.2.2.1 u.2.2.2.2.2.2.2.2.2.1 u.2.2.2.2.2.2.2.2.2.2 bT gJ dU bL bR bO mY pW rD m_x jA pY oY pR pX rG rQ) t) A
noncomputable abbrev rm_X10_seconds : Room := { frames := 266, cells := 0, slots := 0, locals := 8782 }
noncomputable def wp_X10_seconds (post : Int32 → Int32 → Nat → Int32 → Int32 → Int32 → Int32 → Int32 → Int32 → Int32 → Int32 → Int32 → Prop) (p0 p1 p2 bW aG dG : Int32) (jY : Nat) (m_length qG uW eY bU dN aR aE bJ aW : Int32) (rD m_x jA pY oY pR pX rG rQ : Nat → Int32) : Prop := wp_X10_isFruit (fun r_1 => (r_1 = 0 → post (-1) 0 jY m_length qG uW eY dN aR aE bJ aW) ∧ (¬ r_1 = 0 → wp_X10_isStanding (fun r_2 => (r_2 = 0 → post (-1) 0 jY m_length qG uW eY dN aR aE bJ aW) ∧ (¬ r_2 = 0 → wp_X10_in (fun r_3 => (¬ r_3 = 0 → ∀ v_4 : Int32, v_4 = rD (18 : Int32).toNatClampNeg → wp_X10_reachBy (fun r_5 => wp_X10_isWithin (fun r_6 => (r_6 = 0 → post (-2) 0 jY m_length qG uW eY dN aR aE bJ aW) ∧ (¬ r_6 = 0 → wp_X10_secondsOf (fun r_7 m_read_8 m_length_9 m_top_10 aGk aAQ aJW aEG aB7 aF7 aEH => post r_7 0 m_read_8 m_length_9 m_top_10 aGk aAQ aJW aEG aB7 aF7 aEH) p0 p1 p2 0 jY m_length qG uW eY bU dN aR aE bJ aW m_x jA pY oY pR rG rQ)) p0 p1 r_5 m_x jA oY pR) v_4 p2 pX) ∧ (r_3 = 0 → post (-1) 0 jY m_length qG uW eY dN aR aE bJ aW)) p2 0 1)) p1 aG)) p0 bW
set_option maxHeartbeats 4000000 in
set_option maxRecDepth 100000 in
theorem c_X10_seconds (l : Launch) (dC : Nat → ClassId) (dI : Nat → Nat → Nat) (cI cC cZ cB cJ : ClassId) (a_m oJ uD dY iJ lJ jQ jR jW jK pJ bM aY jO gR gY mK jZ iY bG mJ jB mQ lY eJ bY sz : Nat) (p0 p1 p2 bW aG jG bQ dG : Int32) (jY : Nat) (m_length qG uW eY aJ aB bU dN aR aE bJ aW bT gJ dU bL bR bO mY pW : Int32) (rD m_x jA pY oY pR pX rG rQ : Nat → Int32) (post : Int32 → Int32 → Nat → Int32 → Int32 → Int32 → Int32 → Int32 → Int32 → Int32 → Int32 → Int32 → Prop) (hw : wp_X10_seconds post p0 p1 p2 bW aG dG jY m_length qG uW eY bU dN aR aE bJ aW rD m_x jA pY oY pR pX rG rQ) : Met l yX10_seconds (gw yX10_seconds cX10_seconds 4 (some .int)) rm_X10_seconds (va_Pc [.ref a_m, .int p0, .int p1, .int p2] (gPre (dC, dI) (tyl cI cC cZ cB cJ) (wd_X10_seconds cI cC cZ cB cJ a_m oJ uD dY iJ lJ jQ jR jW jK pJ bM aY jO gR gY mK jZ iY bG mJ jB mQ lY eJ bY bW aG jG bQ dG jY m_length qG uW eY aJ aB bU dN aR aE bJ aW bT gJ dU bL bR bO mY pW rD m_x jA pY oY pR pX rG rQ) sz)) (q_X10_seconds dC dI cI cC cZ cB cJ (va_A (wd_X10_seconds cI cC cZ cB cJ a_m oJ uD dY iJ lJ jQ jR jW jK pJ bM aY jO gR gY mK jZ iY bG mJ jB mQ lY eJ bY bW aG jG bQ dG jY m_length qG uW eY aJ aB bU dN aR aE bJ aW bT gJ dU bL bR bO mY pW rD m_x jA pY oY pR pX rG rQ) sz) a_m oJ uD dY iJ lJ jQ jR jW jK pJ bM aY jO gR gY mK jZ iY bG mJ jB mQ lY eJ bY bW aG jG bQ aJ aB bU bT gJ dU bL bR bO mY pW rD m_x jA pY oY pR pX rG rQ post) 0 0 (va_A (wd_X10_seconds cI cC cZ cB cJ a_m oJ uD dY iJ lJ jQ jR jW jK pJ bM aY jO gR gY mK jZ iY bG mJ jB mQ lY eJ bY bW aG jG bQ dG jY m_length qG uW eY aJ aB bU dN aR aE bJ aW bT gJ dU bL bR bO mY pW rD m_x jA pY oY pR pX rG rQ) sz) := by
  refine g_enter (own := RX10) (dC, dI) (tyl cI cC cZ cB cJ) (wd_X10_seconds cI cC cZ cB cJ a_m oJ uD dY iJ lJ jQ jR jW jK pJ bM aY jO gR gY mK jZ iY bG mJ jB mQ lY eJ bY bW aG jG bQ dG jY m_length qG uW eY aJ aB bU dN aR aE bJ aW bT gJ dU bL bR bO mY pW rD m_x jA pY oY pR pX rG rQ) sz [.ref a_m, .int p0, .int p1, .int p2] (fun A => q_X10_seconds dC dI cI cC cZ cB cJ A a_m oJ uD dY iJ lJ jQ jR jW jK pJ bM aY jO gR gY mK jZ iY bG mJ jB mQ lY eJ bY bW aG jG bQ aJ aB bU bT gJ dU bL bR bO mY pW rD m_x jA pY oY pR pX rG rQ post) pn_RX10 rfl (Nat.le_of_ble_eq_true rfl) ?_
  intro p e s m args below meth c A H locs ls C0 hP hD hS hl
  have hl : lv_has ls 4 [(0, .ref a_m), (1, .int p0), (2, .int p1), (3, .int p2)] := hl
  obtain ⟨hx, hb, hr, hml, hown, hts, hlocks, hA, hK, hN, tL, tM, hZL, hTL, hZM, hTM, hZX⟩ := id C0
  have hp := hw
  unfold wp_X10_seconds at hp
  refine lv_aload_n hx hb eX10_seconds_0.1 rfl (lv_at hl 0 rfl) ?_
  refine lv_iconst (v := 0) hx hb eX10_seconds_0.2.1 ic_0 ?_
  refine va_put (D := (dC, dI)) (ci := 10) (v := .int 0) (ty := .int) (C := RX10) (T := TX10) (N := 51) hx hb hts i_X10 tyX10 tyX10_ok nmX10 hown hK hP hD hS 0 rfl rfl 14 (Nat.le_of_ble_eq_true rfl) (hts _ q_638) (fun _ h9 => h9) rfl (tyX10_ok 14 (Nat.le_of_ble_eq_true rfl)) rfl rfl (Nat.le_of_ble_eq_true rfl) eX10_seconds_0.2.2.1 (fun H locs hP hD hS => ?_)
  have hP : va_P (dC, dI) classes (wd_X10_seconds cI cC cZ cB cJ a_m oJ uD dY iJ lJ jQ jR jW jK pJ bM aY jO gR gY mK jZ iY bG mJ jB mQ lY eJ bY bW aG jG bQ 0 jY m_length qG uW eY aJ aB bU dN aR aE bJ aW bT gJ dU bL bR bO mY pW rD m_x jA pY oY pR pX rG rQ) H := hP
  have hD : va_D A (wd_X10_seconds cI cC cZ cB cJ a_m oJ uD dY iJ lJ jQ jR jW jK pJ bM aY jO gR gY mK jZ iY bG mJ jB mQ lY eJ bY bW aG jG bQ 0 jY m_length qG uW eY aJ aB bU dN aR aE bJ aW bT gJ dU bL bR bO mY pW rD m_x jA pY oY pR pX rG rQ) := hD
  refine lv_aload_n hx hb eX10_seconds_0.2.2.2.1 rfl (lv_at hl 0 rfl) ?_
  refine lv_iload_n hx hb eX10_seconds_0.2.2.2.2.1 rfl (lv_at hl 1 rfl) ?_
  have hm := mgk (wc := (wd_X10_isFruit cI cC cZ cB cJ a_m oJ uD dY iJ lJ jQ jR jW jK pJ bM aY jO gR gY mK jZ iY bG mJ jB mQ lY eJ bY bW aG jG bQ 0 jY m_length qG uW eY aJ aB bU dN aR aE bJ aW bT gJ dU bL bR bO mY pW)) hP aAZ 10 rfl rfl rfl
  refine g_calli hP hD hS hA (mixT aAZ) (mixF aAZ) hm.1 hm.2 (nd_F _) (dis_g _) (g_runV (As := [.int p0]) (rest := []) C0 hP hD hS (mixT aAZ) hm.1 (nd_T _) 0 10 rfl rfl (c_X10_isFruit l dC dI cI cC cZ cB cJ a_m oJ uD dY iJ lJ jQ jR jW jK pJ bM aY jO gR gY mK jZ iY bG mJ jB mQ lY eJ bY H.size p0 bW aG jG bQ 0 jY m_length qG uW eY aJ aB bU dN aR aE bJ aW bT gJ dU bL bR bO mY pW _ hp) q_741 q_744 q_742 q_743 q_642 h_X10_isFruit rfl rfl ⟨Nat.le_of_ble_eq_true rfl, Nat.le_of_ble_eq_true rfl⟩ rfl rfl hl.1 rfl (lv_room (Nat.le_of_ble_eq_true rfl)) eX10_seconds_0.2.2.2.2.2.1 ⟨Nat.zero_le _, Nat.zero_le _⟩) (fun r_1 u H locs hp hP hD hS => ?_)
  have hPD := PDm (ws' := (wd_X10_seconds cI cC cZ cB cJ a_m oJ uD dY iJ lJ jQ jR jW jK pJ bM aY jO gR gY mK jZ iY bG mJ jB mQ lY eJ bY bW aG jG bQ 0 jY m_length qG uW eY aJ aB bU dN aR aE bJ aW bT gJ dU bL bR bO mY pW rD m_x jA pY oY pR pX rG rQ)) hP hD 10 rfl rfl rfl
  have hP := hPD.1
  have hD := hPD.2
  refine lv_if_eq (tgt := 30) hx hb eX10_seconds_0.2.2.2.2.2.2.1 (by decide) (fun hc => ?_) (fun hc => ?_)
  · have hp := hp.1 hc
    refine lv_iconst (v := (-1)) hx hb eX10_seconds_30.1 ic_m1 ?_
    exact W.iret (v := (-1)) hx hb hr (fun t ht hW => ⟨⟨(-1), (0, jY, m_length, qG, uW, eY, dN, aR, aE, bJ, aW), rfl, hp, by rw [ht]; exact hP, va_K.moved hW.alike hK, hD⟩, hS.F ht⟩) hS.2.2 eX10_seconds_30.2.1
  · have hp := hp.2 hc
    refine lv_aload_n hx hb eX10_seconds_0.2.2.2.2.2.2.2.1 rfl (lv_at hl 0 rfl) ?_
    refine lv_iload_n hx hb eX10_seconds_0.2.2.2.2.2.2.2.2.1 rfl (lv_at hl 2 rfl) ?_
    have hm := mgk (wc := (wd_X10_isStanding cI cC cZ cB cJ a_m oJ uD dY iJ lJ jQ jR jW jK pJ bM aY jO gR gY mK jZ iY bG mJ jB mQ lY eJ bY bW aG jG bQ 0 jY m_length qG uW eY aJ aB bU dN aR aE bJ aW bT gJ dU bL bR bO mY pW)) hP aAZ 10 rfl rfl rfl
    refine g_calli hP hD hS hA (mixT aAZ) (mixF aAZ) hm.1 hm.2 (nd_F _) (dis_g _) (g_runV (As := [.int p1]) (rest := []) C0 hP hD hS (mixT aAZ) hm.1 (nd_T _) 0 10 rfl rfl (c_X10_isStanding l dC dI cI cC cZ cB cJ a_m oJ uD dY iJ lJ jQ jR jW jK pJ bM aY jO gR gY mK jZ iY bG mJ jB mQ lY eJ bY H.size p1 bW aG jG bQ 0 jY m_length qG uW eY aJ aB bU dN aR aE bJ aW bT gJ dU bL bR bO mY pW _ hp) q_757 q_760 q_758 q_759 q_642 h_X10_isStanding rfl rfl ⟨Nat.le_of_ble_eq_true rfl, Nat.le_of_ble_eq_true rfl⟩ rfl rfl hl.1 rfl (lv_room (Nat.le_of_ble_eq_true rfl)) eX10_seconds_0.2.2.2.2.2.2.2.2.2.1 ⟨Nat.zero_le _, Nat.zero_le _⟩) (fun r_2 u H locs hp hP hD hS => ?_)
    have hPD := PDm (ws' := (wd_X10_seconds cI cC cZ cB cJ a_m oJ uD dY iJ lJ jQ jR jW jK pJ bM aY jO gR gY mK jZ iY bG mJ jB mQ lY eJ bY bW aG jG bQ 0 jY m_length qG uW eY aJ aB bU dN aR aE bJ aW bT gJ dU bL bR bO mY pW rD m_x jA pY oY pR pX rG rQ)) hP hD 10 rfl rfl rfl
    have hP := hPD.1
    have hD := hPD.2
    refine lv_if_eq (tgt := 30) hx hb eX10_seconds_0.2.2.2.2.2.2.2.2.2.2.1 (by decide) (fun hc => ?_) (fun hc => ?_)
    · have hp := hp.1 hc
      refine lv_iconst (v := (-1)) hx hb eX10_seconds_30.1 ic_m1 ?_
      exact W.iret (v := (-1)) hx hb hr (fun t ht hW => ⟨⟨(-1), (0, jY, m_length, qG, uW, eY, dN, aR, aE, bJ, aW), rfl, hp, by rw [ht]; exact hP, va_K.moved hW.alike hK, hD⟩, hS.F ht⟩) hS.2.2 eX10_seconds_30.2.1
    · have hp := hp.2 hc
      refine lv_iload_n hx hb eX10_seconds_0.2.2.2.2.2.2.2.2.2.2.2.1 rfl (lv_at hl 3 rfl) ?_
      refine lv_iconst (v := 0) hx hb eX10_seconds_0.2.2.2.2.2.2.2.2.2.2.2.2.1 ic_0 ?_
      refine lv_iconst (v := 1) hx hb eX10_seconds_0.2.2.2.2.2.2.2.2.2.2.2.2.2.1 ic_1 ?_
      have hm := mgk (wc := (wd_X10_in cI cC cZ cB cJ)) hP zH 10 rfl rfl rfl
      refine g_calli hP hD hS hA (mixT zH) (mixF zH) hm.1 hm.2 (nd_F _) (dis_g _) (g_runS (As := [.int p2, .int 0, .int 1]) (rest := []) C0 hP hD hS (mixT zH) hm.1 (nd_T _) (c_X10_in l dC dI cI cC cZ cB cJ H.size p2 0 1 _ hp) q_641 q_644 q_643 q_642 h_X10_in rfl rfl ⟨Nat.le_of_ble_eq_true rfl, Nat.le_of_ble_eq_true rfl⟩ rfl rfl hl.1 rfl (lv_room (Nat.le_of_ble_eq_true rfl)) eX10_seconds_0.2.2.2.2.2.2.2.2.2.2.2.2.2.2.1 ⟨Nat.zero_le _, Nat.zero_le _⟩) (fun r_3 u H locs hp hP hD hS => ?_)
      have hPD := PDm (ws' := (wd_X10_seconds cI cC cZ cB cJ a_m oJ uD dY iJ lJ jQ jR jW jK pJ bM aY jO gR gY mK jZ iY bG mJ jB mQ lY eJ bY bW aG jG bQ 0 jY m_length qG uW eY aJ aB bU dN aR aE bJ aW bT gJ dU bL bR bO mY pW rD m_x jA pY oY pR pX rG rQ)) hP hD 10 rfl rfl rfl
      have hP := hPD.1
      have hD := hPD.2
      refine lv_if_ne (tgt := 32) hx hb eX10_seconds_0.2.2.2.2.2.2.2.2.2.2.2.2.2.2.2 (by decide) (fun hc => ?_) (fun hc => ?_)
      · have hp := hp.1 hc
        refine lv_aload_n hx hb eX10_seconds_30.2.2.1 rfl (lv_at hl 0 rfl) ?_
        refine lv_iload_n hx hb eX10_seconds_30.2.2.2.1 rfl (lv_at hl 1 rfl) ?_
        refine lv_iload_n hx hb eX10_seconds_30.2.2.2.2.1 rfl (lv_at hl 2 rfl) ?_
        refine lv_aload_n hx hb eX10_seconds_30.2.2.2.2.2.1 rfl (lv_at hl 0 rfl) ?_
        refine lv_aload_n hx hb eX10_seconds_30.2.2.2.2.2.2.1 rfl (lv_at hl 0 rfl) ?_
        refine va_get (D := (dC, dI)) (ci := 10) (v := .ref oJ) (C := RX10) (T := TX10) (N := 51) hx hb hts i_X10 hown hK hP 0 rfl rfl 0 (Nat.le_of_ble_eq_true rfl) (hts _ q_692) (fun _ h9 => h9) rfl eX10_seconds_30.2.2.2.2.2.2.2.1 ?_
        refine lv_bipush (v := 18) hx hb eX10_seconds_30.2.2.2.2.2.2.2.2.1 bp_18 ?_
        refine va_iald hx hb hK hP 1 0 rfl rfl (g_in rfl) eX10_seconds_30.2.2.2.2.2.2.2.2.2.1 ?_
        refine lv_topi (fun v_4 ev_4 => ?_)
        have hp := hp v_4 ev_4
        refine lv_iload_n hx hb eX10_seconds_30.2.2.2.2.2.2.2.2.2.2.1 rfl (lv_at hl 3 rfl) ?_
        have hm := mgk (wc := (wd_X10_reachBy cI cC cZ cB cJ a_m oJ uD dY iJ lJ jQ jR jW jK pJ bM aY jO gR gY mK jZ iY bG mJ jB mQ lY eJ bY bW aG jG bQ 0 jY m_length qG uW eY aJ aB bU dN aR aE bJ aW bT gJ dU bL bR bO mY pW pX)) hP mk_250 10 rfl rfl rfl
        refine g_calli hP hD hS hA (mixT mk_250) (mixF mk_250) hm.1 hm.2 (nd_F _) (dis_g _) (g_runV (As := [.int v_4, .int p2]) (rest := [.int p1, .int p0, .ref a_m]) C0 hP hD hS (mixT mk_250) hm.1 (nd_T _) 0 10 rfl rfl (c_X10_reachBy l dC dI cI cC cZ cB cJ a_m oJ uD dY iJ lJ jQ jR jW jK pJ bM aY jO gR gY mK jZ iY bG mJ jB mQ lY eJ bY H.size v_4 p2 bW aG jG bQ 0 jY m_length qG uW eY aJ aB bU dN aR aE bJ aW bT gJ dU bL bR bO mY pW pX _ hp) q_795 q_798 q_796 q_797 q_642 h_X10_reachBy rfl rfl ⟨Nat.le_of_ble_eq_true rfl, Nat.le_of_ble_eq_true rfl⟩ rfl rfl hl.1 rfl (lv_room (Nat.le_of_ble_eq_true rfl)) eX10_seconds_30.2.2.2.2.2.2.2.2.2.2.2.1 ⟨Nat.zero_le _, Nat.zero_le _⟩) (fun r_5 u H locs hp hP hD hS => ?_)
        have hPD := PDm (ws' := (wd_X10_seconds cI cC cZ cB cJ a_m oJ uD dY iJ lJ jQ jR jW jK pJ bM aY jO gR gY mK jZ iY bG mJ jB mQ lY eJ bY bW aG jG bQ 0 jY m_length qG uW eY aJ aB bU dN aR aE bJ aW bT gJ dU bL bR bO mY pW rD m_x jA pY oY pR pX rG rQ)) hP hD 10 rfl rfl rfl
        have hP := hPD.1
        have hD := hPD.2
        have hm := mgk (wc := (wd_X10_isWithin cI cC cZ cB cJ a_m oJ uD dY iJ lJ jQ jR jW jK pJ bM aY jO gR gY mK jZ iY bG mJ jB mQ lY eJ bY bW aG jG bQ 0 jY m_length qG uW eY aJ aB bU dN aR aE bJ aW bT gJ dU bL bR bO mY pW m_x jA oY pR)) hP mk_251 10 rfl rfl rfl
        refine g_calli hP hD hS hA (mixT mk_251) (mixF mk_251) hm.1 hm.2 (nd_F _) (dis_g _) (g_runV (As := [.int p0, .int p1, .int r_5]) (rest := []) C0 hP hD hS (mixT mk_251) hm.1 (nd_T _) 0 10 rfl rfl (c_X10_isWithin l dC dI cI cC cZ cB cJ a_m oJ uD dY iJ lJ jQ jR jW jK pJ bM aY jO gR gY mK jZ iY bG mJ jB mQ lY eJ bY H.size p0 p1 r_5 bW aG jG bQ 0 jY m_length qG uW eY aJ aB bU dN aR aE bJ aW bT gJ dU bL bR bO mY pW m_x jA oY pR _ hp) q_799 q_802 q_800 q_801 q_642 h_X10_isWithin rfl rfl ⟨Nat.le_of_ble_eq_true rfl, Nat.le_of_ble_eq_true rfl⟩ rfl rfl hl.1 rfl (lv_room (Nat.le_of_ble_eq_true rfl)) eX10_seconds_30.2.2.2.2.2.2.2.2.2.2.2.2.1 ⟨Nat.zero_le _, Nat.zero_le _⟩) (fun r_6 u H locs hp hP hD hS => ?_)
        have hPD := PDm (ws' := (wd_X10_seconds cI cC cZ cB cJ a_m oJ uD dY iJ lJ jQ jR jW jK pJ bM aY jO gR gY mK jZ iY bG mJ jB mQ lY eJ bY bW aG jG bQ 0 jY m_length qG uW eY aJ aB bU dN aR aE bJ aW bT gJ dU bL bR bO mY pW rD m_x jA pY oY pR pX rG rQ)) hP hD 10 rfl rfl rfl
        have hP := hPD.1
        have hD := hPD.2
        refine lv_if_eq (tgt := 64) hx hb eX10_seconds_30.2.2.2.2.2.2.2.2.2.2.2.2.2.1 (by decide) (fun hc => ?_) (fun hc => ?_)
        · have hp := hp.1 hc
          refine lv_bipush (v := (-2)) hx hb eX10_seconds_55.2.2.2.2.2.1 bp_m2 ?_
          exact W.iret (v := (-2)) hx hb hr (fun t ht hW => ⟨⟨(-2), (0, jY, m_length, qG, uW, eY, dN, aR, aE, bJ, aW), rfl, hp, by rw [ht]; exact hP, va_K.moved hW.alike hK, hD⟩, hS.F ht⟩) hS.2.2 eX10_seconds_55.2.2.2.2.2.2
        · have hp := hp.2 hc
          refine lv_aload_n hx hb eX10_seconds_30.2.2.2.2.2.2.2.2.2.2.2.2.2.2.1 rfl (lv_at hl 0 rfl) ?_
          refine lv_iload_n hx hb eX10_seconds_30.2.2.2.2.2.2.2.2.2.2.2.2.2.2.2 rfl (lv_at hl 1 rfl) ?_
          refine lv_iload_n hx hb eX10_seconds_55.1 rfl (lv_at hl 2 rfl) ?_
          refine lv_iload_n hx hb eX10_seconds_55.2.1 rfl (lv_at hl 3 rfl) ?_
          refine lv_iconst (v := 0) hx hb eX10_seconds_55.2.2.1 ic_0 ?_
          have hm := mgk (wc := (wd_X10_secondsOf cI cC cZ cB cJ a_m oJ uD dY iJ lJ jQ jR jW jK pJ bM aY jO gR gY mK jZ iY bG mJ jB mQ lY eJ bY bW aG jG bQ 0 jY m_length qG uW eY aJ aB bU dN aR aE bJ aW bT gJ dU bL bR bO mY pW m_x jA pY oY pR rG rQ)) hP mk_252 10 rfl rfl rfl
          refine g_calli hP hD hS hA (mixT mk_252) (mixF mk_252) hm.1 hm.2 (nd_F _) (dis_g _) (g_runV (As := [.int p0, .int p1, .int p2, .int 0]) (rest := []) C0 hP hD hS (mixT mk_252) hm.1 (nd_T _) 0 10 rfl rfl (c_X10_secondsOf l dC dI cI cC cZ cB cJ a_m oJ uD dY iJ lJ jQ jR jW jK pJ bM aY jO gR gY mK jZ iY bG mJ jB mQ lY eJ bY H.size p0 p1 p2 0 bW aG jG bQ 0 jY m_length qG uW eY aJ aB bU dN aR aE bJ aW bT gJ dU bL bR bO mY pW m_x jA pY oY pR rG rQ _ hp) q_804 q_807 q_805 q_806 q_642 h_X10_secondsOf rfl rfl ⟨Nat.le_of_ble_eq_true rfl, Nat.le_of_ble_eq_true rfl⟩ rfl rfl hl.1 rfl (lv_room (Nat.le_of_ble_eq_true rfl)) eX10_seconds_55.2.2.2.1 ⟨Nat.zero_le _, Nat.zero_le _⟩) (fun r_7 u H locs hp hP hD hS => ?_)
          obtain ⟨m_read_8, m_length_9, m_top_10, aGk, aAQ, aJW, aEG, aB7, aF7, aEH⟩ := u
          have hPD := PDm (ws' := (wd_X10_seconds cI cC cZ cB cJ a_m oJ uD dY iJ lJ jQ jR jW jK pJ bM aY jO gR gY mK jZ iY bG mJ jB mQ lY eJ bY bW aG jG bQ 0 m_read_8 m_length_9 m_top_10 aGk aAQ aJ aB bU aJW aEG aB7 aF7 aEH bT gJ dU bL bR bO mY pW rD m_x jA pY oY pR pX rG rQ)) hP hD 10 rfl rfl rfl
          have hP := hPD.1
          have hD := hPD.2
          refine lv_goto (tgt := 66) hx hb eX10_seconds_55.2.2.2.2.1 (by decide) ?_
          exact W.iret (v := r_7) hx hb hr (fun t ht hW => ⟨⟨r_7, (0, m_read_8, m_length_9, m_top_10, aGk, aAQ, aJW, aEG, aB7, aF7, aEH), rfl, hp, by rw [ht]; exact hP, va_K.moved hW.alike hK, hD⟩, hS.F ht⟩) hS.2.2 eX10_seconds_55.2.2.2.2.2.2
      · have hp := hp.2 hc
        refine lv_iconst (v := (-1)) hx hb eX10_seconds_30.1 ic_m1 ?_
        exact W.iret (v := (-1)) hx hb hr (fun t ht hW => ⟨⟨(-1), (0, jY, m_length, qG, uW, eY, dN, aR, aE, bJ, aW), rfl, hp, by rw [ht]; exact hP, va_K.moved hW.alike hK, hD⟩, hS.F ht⟩) hS.2.2 eX10_seconds_30.2.1
noncomputable abbrev wd_X10_allStandings (cI cC cZ cB cJ : ClassId) (a_m oJ uD dY iJ lJ jQ jR jW jK pJ bM aY jO gR gY mK jZ iY bG mJ jB mQ lY eJ bY : Nat) (bW aG jG bQ dG : Int32) (jY : Nat) (m_length qG uW eY aJ aB bU dN aR aE bJ aW bT gJ dU bL bR bO mY pW : Int32) : va_W := [(a_m, .inr (10, [.ref oJ, .int bW, .ref uD, .ref dY, .ref iJ, .ref lJ, .int aG, .ref jQ, .ref jR, .ref jW, .ref jK, .int jG, .ref pJ, .int bQ, .int dG, rdv jK jO jY, .int m_length, .int qG, .int uW, .int eY, .ref bM, .ref aY, .int aJ, .int aB, .ref jO, .int bU, .int dN, .int aR, .int aE, .int bJ, .int aW, .ref gR, .int bT, .ref gY, .ref mK, .int gJ, .ref jZ, .int dU, .ref iY, .ref bG, .int bL, .int bR, .int bO, .ref mJ, .ref jB, .ref mQ, .int mY, .int pW, .ref lY, .ref eJ, .ref bY]))]
noncomputable abbrev q_X10_allStandings (dC : Nat → ClassId) (dI : Nat → Nat → Nat) (cI cC cZ cB cJ : ClassId) (A : Nat → Prop) (a_m oJ uD dY iJ lJ jQ jR jW jK pJ bM aY jO gR gY mK jZ iY bG mJ jB mQ lY eJ bY : Nat) (bW aG jG bQ dG : Int32) (jY : Nat) (m_length qG uW eY aJ aB bU dN aR aE bJ aW bT gJ dU bL bR bO mY pW : Int32) (post : Int32 → Prop) : Array Value → State → Outcome → State → Prop := va_Qi (fun (r : Int32) (u : Unit) => post r) (fun u t => gB (dC, dI) (tyl cI cC cZ cB cJ) A (wd_X10_allStandings cI cC cZ cB cJ a_m oJ uD dY iJ lJ jQ jR jW jK pJ bM aY jO gR gY mK jZ iY bG mJ jB mQ lY eJ bY bW aG jG bQ dG jY m_length qG uW eY aJ aB bU dN aR aE bJ aW bT gJ dU bL bR bO mY pW) t) A
noncomputable abbrev rm_X10_allStandings : Room := { frames := 0, cells := 0, slots := 0, locals := 0 }
noncomputable def wp_X10_allStandings (post : Int32 → Prop) (aG : Int32) : Prop := ∀ v_1 : Int32, v_1 = 1 <<< (aG &&& 31) → post (v_1 - 1)
set_option maxHeartbeats 4000000 in
set_option maxRecDepth 100000 in
theorem c_X10_allStandings (l : Launch) (dC : Nat → ClassId) (dI : Nat → Nat → Nat) (cI cC cZ cB cJ : ClassId) (a_m oJ uD dY iJ lJ jQ jR jW jK pJ bM aY jO gR gY mK jZ iY bG mJ jB mQ lY eJ bY sz : Nat) (bW aG jG bQ dG : Int32) (jY : Nat) (m_length qG uW eY aJ aB bU dN aR aE bJ aW bT gJ dU bL bR bO mY pW : Int32) (post : Int32 → Prop) (hw : wp_X10_allStandings post aG) : Met l yX10_allStandings (gw yX10_allStandings cX10_allStandings 1 (some .int)) rm_X10_allStandings (va_Pc [.ref a_m] (gPre (dC, dI) (tyl cI cC cZ cB cJ) (wd_X10_allStandings cI cC cZ cB cJ a_m oJ uD dY iJ lJ jQ jR jW jK pJ bM aY jO gR gY mK jZ iY bG mJ jB mQ lY eJ bY bW aG jG bQ dG jY m_length qG uW eY aJ aB bU dN aR aE bJ aW bT gJ dU bL bR bO mY pW) sz)) (q_X10_allStandings dC dI cI cC cZ cB cJ (va_A (wd_X10_allStandings cI cC cZ cB cJ a_m oJ uD dY iJ lJ jQ jR jW jK pJ bM aY jO gR gY mK jZ iY bG mJ jB mQ lY eJ bY bW aG jG bQ dG jY m_length qG uW eY aJ aB bU dN aR aE bJ aW bT gJ dU bL bR bO mY pW) sz) a_m oJ uD dY iJ lJ jQ jR jW jK pJ bM aY jO gR gY mK jZ iY bG mJ jB mQ lY eJ bY bW aG jG bQ dG jY m_length qG uW eY aJ aB bU dN aR aE bJ aW bT gJ dU bL bR bO mY pW post) 0 0 (va_A (wd_X10_allStandings cI cC cZ cB cJ a_m oJ uD dY iJ lJ jQ jR jW jK pJ bM aY jO gR gY mK jZ iY bG mJ jB mQ lY eJ bY bW aG jG bQ dG jY m_length qG uW eY aJ aB bU dN aR aE bJ aW bT gJ dU bL bR bO mY pW) sz) := by
  refine g_enter (own := RX10) (dC, dI) (tyl cI cC cZ cB cJ) (wd_X10_allStandings cI cC cZ cB cJ a_m oJ uD dY iJ lJ jQ jR jW jK pJ bM aY jO gR gY mK jZ iY bG mJ jB mQ lY eJ bY bW aG jG bQ dG jY m_length qG uW eY aJ aB bU dN aR aE bJ aW bT gJ dU bL bR bO mY pW) sz [.ref a_m] (fun A => q_X10_allStandings dC dI cI cC cZ cB cJ A a_m oJ uD dY iJ lJ jQ jR jW jK pJ bM aY jO gR gY mK jZ iY bG mJ jB mQ lY eJ bY bW aG jG bQ dG jY m_length qG uW eY aJ aB bU dN aR aE bJ aW bT gJ dU bL bR bO mY pW post) pn_RX10 rfl (Nat.le_of_ble_eq_true rfl) ?_
  intro p e s m args below meth c A H locs ls C0 hP hD hS hl
  have hl : lv_has ls 1 [(0, .ref a_m)] := hl
  obtain ⟨hx, hb, hr, hml, hown, hts, hlocks, hA, hK, hN, tL, tM, hZL, hTL, hZM, hTM, hZX⟩ := id C0
  have hp := hw
  unfold wp_X10_allStandings at hp
  refine lv_iconst (v := 1) hx hb eX10_allStandings_0.1 ic_1 ?_
  refine lv_aload_n hx hb eX10_allStandings_0.2.1 rfl (lv_at hl 0 rfl) ?_
  refine va_get (D := (dC, dI)) (ci := 10) (v := .int aG) (C := RX10) (T := TX10) (N := 51) hx hb hts i_X10 hown hK hP 0 rfl rfl 6 (Nat.le_of_ble_eq_true rfl) (hts _ q_666) (fun _ h9 => h9) rfl eX10_allStandings_0.2.2.1 ?_
  refine lv_ishl hx hb eX10_allStandings_0.2.2.2.1 ?_
  refine lv_topi (fun v_1 ev_1 => ?_)
  have hp := hp v_1 ev_1
  refine lv_iconst (v := 1) hx hb eX10_allStandings_0.2.2.2.2.1 ic_1 ?_
  refine lv_isub hx hb eX10_allStandings_0.2.2.2.2.2.1 ?_
  exact W.iret (v := v_1 - 1) hx hb hr (fun t ht hW => ⟨⟨v_1 - 1, (), rfl, hp, by rw [ht]; exact hP, va_K.moved hW.alike hK, hD⟩, hS.F ht⟩) hS.2.2 eX10_allStandings_0.2.2.2.2.2.2
noncomputable abbrev wd_X10_handOf (cI cC cZ cB cJ : ClassId) (a_m oJ uD dY iJ lJ jQ jR jW jK pJ bM aY jO gR gY mK jZ iY bG mJ jB mQ lY eJ bY : Nat) (bW aG jG bQ dG : Int32) (jY : Nat) (m_length qG uW eY aJ aB bU dN aR aE bJ aW bT gJ dU bL bR bO mY pW : Int32) (tD : Nat → Int32) : va_W := [(a_m, .inr (10, [.ref oJ, .int bW, .ref uD, .ref dY, .ref iJ, .ref lJ, .int aG, .ref jQ, .ref jR, .ref jW, .ref jK, .int jG, .ref pJ, .int bQ, .int dG, rdv jK jO jY, .int m_length, .int qG, .int uW, .int eY, .ref bM, .ref aY, .int aJ, .int aB, .ref jO, .int bU, .int dN, .int aR, .int aE, .int bJ, .int aW, .ref gR, .int bT, .ref gY, .ref mK, .int gJ, .ref jZ, .int dU, .ref iY, .ref bG, .int bL, .int bR, .int bO, .ref mJ, .ref jB, .ref mQ, .int mY, .int pW, .ref lY, .ref eJ, .ref bY])), (jZ, .inl (cI, 8, .inl tD))]
noncomputable abbrev q_X10_handOf (dC : Nat → ClassId) (dI : Nat → Nat → Nat) (cI cC cZ cB cJ : ClassId) (A : Nat → Prop) (a_m oJ uD dY iJ lJ jQ jR jW jK pJ bM aY jO gR gY mK jZ iY bG mJ jB mQ lY eJ bY : Nat) (bW aG jG bQ dG : Int32) (jY : Nat) (m_length qG uW eY aJ aB bU dN aR aE bJ aW bT gJ dU bL bR bO mY pW : Int32) (tD : Nat → Int32) (post : Int32 → Prop) : Array Value → State → Outcome → State → Prop := va_Qi (fun (r : Int32) (u : Unit) => post r) (fun u t => gB (dC, dI) (tyl cI cC cZ cB cJ) A (wd_X10_handOf cI cC cZ cB cJ a_m oJ uD dY iJ lJ jQ jR jW jK pJ bM aY jO gR gY mK jZ iY bG mJ jB mQ lY eJ bY bW aG jG bQ dG jY m_length qG uW eY aJ aB bU dN aR aE bJ aW bT gJ dU bL bR bO mY pW tD) t) A
noncomputable abbrev rm_X10_handOf : Room := { frames := 1, cells := 0, slots := 0, locals := 21 }
section S_X10_handOf
variable {p : Program} {l : Launch} {e : Env} {s : State} {m : MethodId} {args : Array Value} {below : List Frame} {meth : Method} {c : Code} {dC : Nat → ClassId} {dI : Nat → Nat → Nat} {cI cC cZ cB cJ : ClassId} {A : Nat → Prop} {a_m oJ uD dY iJ lJ jQ jR jW jK pJ bM aY jO gR gY mK jZ iY bG mJ jB mQ lY eJ bY : Nat} {bW aG jG bQ dG : Int32} {jY : Nat} {m_length qG uW eY aJ aB bU dN aR aE bJ aW bT gJ dU bL bR bO mY pW : Int32} {tD : Nat → Int32} {post : Int32 → Prop}
noncomputable def ws_X10_handOf_31 (post : Int32 → Prop) (K4 : Int32 → Int32 → Int32 → Prop) (aG : Int32) (tD : Nat → Int32) (x1 x3 k0 k1 : Int32) : Prop := ∀ v_2 : Int32, v_2 = k0 ||| k1 → ∀ v_3 : Int32, v_3 = x3 + 1 → K4 x1 v_2 v_3
set_option maxHeartbeats 4000000 in
set_option maxRecDepth 100000 in
theorem ks_X10_handOf_31 (C0 : gc cX10_handOf (some .int) 4 RX10 (dC, dI) (tyl cI cC cZ cB cJ) A p s m args meth c) {K4 : Int32 → Int32 → Int32 → Prop} (hK4 : ∀ (x1 : Int32) (x2 : Int32) (x3 : Int32) (H : Heap) (locs : List Loc) (ls : Array Slot), K4 x1 x2 x3 → va_P (dC, dI) classes (wd_X10_handOf cI cC cZ cB cJ a_m oJ uD dY iJ lJ jQ jR jW jK pJ bM aY jO gR gY mK jZ iY bG mJ jB mQ lY eJ bY bW aG jG bQ dG jY m_length qG uW eY aJ aB bU dN aR aE bJ aW bT gJ dU bL bR bO mY pW tD) H → va_D A (wd_X10_handOf cI cC cZ cB cJ a_m oJ uD dY iJ lJ jQ jR jW jK pJ bM aY jO gR gY mK jZ iY bG mJ jB mQ lY eJ bY bW aG jG bQ dG jY m_length qG uW eY aJ aB bU dN aR aE bJ aW bT gJ dU bL bR bO mY pW tD) → va_S A s.heap H locs → lv_has ls 4 [(0, .ref a_m), (1, .int x1), (2, .int x2), (3, .int x3)] → W p l e rm_X10_handOf s m args below meth c H locs 0 0 (MQ below (q_X10_handOf dC dI cI cC cZ cB cJ A a_m oJ uD dY iJ lJ jQ jR jW jK pJ bM aY jO gR gY mK jZ iY bG mJ jB mQ lY eJ bY bW aG jG bQ dG jY m_length qG uW eY aJ aB bU dN aR aE bJ aW bT gJ dU bL bR bO mY pW tD post) args s 0 0 A) (F0 m 4 ls [])) : ∀ (x1 x3 k0 k1 : Int32) (H : Heap) (locs : List Loc) (ls : Array Slot), (ws_X10_handOf_31 post K4 aG tD) x1 x3 k0 k1 → va_P (dC, dI) classes (wd_X10_handOf cI cC cZ cB cJ a_m oJ uD dY iJ lJ jQ jR jW jK pJ bM aY jO gR gY mK jZ iY bG mJ jB mQ lY eJ bY bW aG jG bQ dG jY m_length qG uW eY aJ aB bU dN aR aE bJ aW bT gJ dU bL bR bO mY pW tD) H → va_D A (wd_X10_handOf cI cC cZ cB cJ a_m oJ uD dY iJ lJ jQ jR jW jK pJ bM aY jO gR gY mK jZ iY bG mJ jB mQ lY eJ bY bW aG jG bQ dG jY m_length qG uW eY aJ aB bU dN aR aE bJ aW bT gJ dU bL bR bO mY pW tD) → va_S A s.heap H locs → lv_has ls 4 [(0, .ref a_m), (1, .int x1), (3, .int x3)] → W p l e rm_X10_handOf s m args below meth c H locs 0 0 (MQ below (q_X10_handOf dC dI cI cC cZ cB cJ A a_m oJ uD dY iJ lJ jQ jR jW jK pJ bM aY jO gR gY mK jZ iY bG mJ jB mQ lY eJ bY bW aG jG bQ dG jY m_length qG uW eY aJ aB bU dN aR aE bJ aW bT gJ dU bL bR bO mY pW tD post) args s 0 0 A) (F0 m 31 ls [.int k1, .int k0]) := by
  obtain ⟨hx, hb, hr, hml, hown, hts, hlocks, hA, hK, hN, tL, tM, hZL, hTL, hZM, hTM, hZX⟩ := id C0
  intro x1 x3 k0 k1 H locs ls hp hP hD hS hl
  unfold ws_X10_handOf_31 at hp
  refine lv_ior hx hb eX10_handOf_26.2.2.2.1 ?_
  refine lv_topi (fun v_2 ev_2 => ?_)
  have hp := hp v_2 ev_2
  refine lv_istore_n (lv' := [(2, .int v_2), (0, .ref a_m), (1, .int x1), (3, .int x3)]) hx hb eX10_handOf_26.2.2.2.2.1 rfl hl (by decide) rfl (fun ls hl => ?_)
  obtain ⟨v_3, ev_3⟩ : ∃ y : Int32, y = x3 + 1 := ⟨_, rfl⟩
  refine lv_iinc (v := v_3) (lv' := [(3, .int v_3), (2, .int v_2), (0, .ref a_m), (1, .int x1)]) hx hb eX10_handOf_26.2.2.2.2.2.1 hl (k := 3) rfl (by rw [ev_3]; rfl) (by decide) rfl (fun ls hl => ?_)
  have hp := hp v_3 ev_3
  refine lv_goto (tgt := 4) hx hb eX10_handOf_26.2.2.2.2.2.2.1 (by decide) ?_
  exact hK4 x1 v_2 v_3 H locs ls hp hP hD hS (lv_sub hl [2, 3, 1, 0] rfl)
noncomputable def ws_X10_handOf_4 (post : Int32 → Prop) (next : Int32 → Int32 → Int32 → Prop) (aG : Int32) (tD : Nat → Int32) (x1 x2 x3 : Int32) : Prop := (aG ≤ x3 → post x2) ∧ (¬ aG ≤ x3 → wp_X10_has (fun r_1 => (r_1 = 0 → ws_X10_handOf_31 post next aG tD x1 x3 x2 0) ∧ (¬ r_1 = 0 → vp_in x3 8 ∧ (∀ v_4 : Int32, v_4 = tD x3.toNatClampNeg → ws_X10_handOf_31 post next aG tD x1 x3 x2 v_4))) x1 x3)
noncomputable def wb_X10_handOf_4 (post : Int32 → Prop) (aG : Int32) (tD : Nat → Int32) : Nat → Int32 → Int32 → Int32 → Prop := fun n => Nat.rec (motive := fun _ => Int32 → Int32 → Int32 → Prop) (fun _ _ _ => False) (fun _ ih => ws_X10_handOf_4 post ih aG tD) n
set_option maxHeartbeats 4000000 in
set_option maxRecDepth 100000 in
theorem ks_X10_handOf_4 (C0 : gc cX10_handOf (some .int) 4 RX10 (dC, dI) (tyl cI cC cZ cB cJ) A p s m args meth c) {next : Int32 → Int32 → Int32 → Prop} (hKn : ∀ (x1 : Int32) (x2 : Int32) (x3 : Int32) (H : Heap) (locs : List Loc) (ls : Array Slot), next x1 x2 x3 → va_P (dC, dI) classes (wd_X10_handOf cI cC cZ cB cJ a_m oJ uD dY iJ lJ jQ jR jW jK pJ bM aY jO gR gY mK jZ iY bG mJ jB mQ lY eJ bY bW aG jG bQ dG jY m_length qG uW eY aJ aB bU dN aR aE bJ aW bT gJ dU bL bR bO mY pW tD) H → va_D A (wd_X10_handOf cI cC cZ cB cJ a_m oJ uD dY iJ lJ jQ jR jW jK pJ bM aY jO gR gY mK jZ iY bG mJ jB mQ lY eJ bY bW aG jG bQ dG jY m_length qG uW eY aJ aB bU dN aR aE bJ aW bT gJ dU bL bR bO mY pW tD) → va_S A s.heap H locs → lv_has ls 4 [(0, .ref a_m), (1, .int x1), (2, .int x2), (3, .int x3)] → W p l e rm_X10_handOf s m args below meth c H locs 0 0 (MQ below (q_X10_handOf dC dI cI cC cZ cB cJ A a_m oJ uD dY iJ lJ jQ jR jW jK pJ bM aY jO gR gY mK jZ iY bG mJ jB mQ lY eJ bY bW aG jG bQ dG jY m_length qG uW eY aJ aB bU dN aR aE bJ aW bT gJ dU bL bR bO mY pW tD post) args s 0 0 A) (F0 m 4 ls [])) : ∀ (x1 x2 x3 : Int32) (H : Heap) (locs : List Loc) (ls : Array Slot), (ws_X10_handOf_4 post next aG tD) x1 x2 x3 → va_P (dC, dI) classes (wd_X10_handOf cI cC cZ cB cJ a_m oJ uD dY iJ lJ jQ jR jW jK pJ bM aY jO gR gY mK jZ iY bG mJ jB mQ lY eJ bY bW aG jG bQ dG jY m_length qG uW eY aJ aB bU dN aR aE bJ aW bT gJ dU bL bR bO mY pW tD) H → va_D A (wd_X10_handOf cI cC cZ cB cJ a_m oJ uD dY iJ lJ jQ jR jW jK pJ bM aY jO gR gY mK jZ iY bG mJ jB mQ lY eJ bY bW aG jG bQ dG jY m_length qG uW eY aJ aB bU dN aR aE bJ aW bT gJ dU bL bR bO mY pW tD) → va_S A s.heap H locs → lv_has ls 4 [(0, .ref a_m), (1, .int x1), (2, .int x2), (3, .int x3)] → W p l e rm_X10_handOf s m args below meth c H locs 0 0 (MQ below (q_X10_handOf dC dI cI cC cZ cB cJ A a_m oJ uD dY iJ lJ jQ jR jW jK pJ bM aY jO gR gY mK jZ iY bG mJ jB mQ lY eJ bY bW aG jG bQ dG jY m_length qG uW eY aJ aB bU dN aR aE bJ aW bT gJ dU bL bR bO mY pW tD post) args s 0 0 A) (F0 m 4 ls []) := by
  obtain ⟨hx, hb, hr, hml, hown, hts, hlocks, hA, hK, hN, tL, tM, hZL, hTL, hZM, hTM, hZX⟩ := id C0
  intro x1 x2 x3 H locs ls hp hP hD hS hl
  unfold ws_X10_handOf_4 at hp
  refine lv_iload_n hx hb eX10_handOf_0.2.2.2.2.1 rfl (lv_at hl 3 rfl) ?_
  refine lv_aload_n hx hb eX10_handOf_0.2.2.2.2.2.1 rfl (lv_at hl 0 rfl) ?_
  refine va_get (D := (dC, dI)) (ci := 10) (v := .int aG) (C := RX10) (T := TX10) (N := 51) hx hb hts i_X10 hown hK hP 0 rfl rfl 6 (Nat.le_of_ble_eq_true rfl) (hts _ q_666) (fun _ h9 => h9) rfl eX10_handOf_0.2.2.2.2.2.2.1 ?_
  refine lv_icmp_ge (tgt := 39) hx hb eX10_handOf_0.2.2.2.2.2.2.2.1 (by decide) (fun hc => ?_) (fun hc => ?_)
  · have hp := hp.1 hc
    refine lv_iload_n hx hb eX10_handOf_26.2.2.2.2.2.2.2.1 rfl (lv_at hl 2 rfl) ?_
    exact W.iret (v := x2) hx hb hr (fun t ht hW => ⟨⟨x2, (), rfl, hp, by rw [ht]; exact hP, va_K.moved hW.alike hK, hD⟩, hS.F ht⟩) hS.2.2 eX10_handOf_26.2.2.2.2.2.2.2.2
  · have hp := hp.2 hc
    refine lv_iload_n hx hb eX10_handOf_0.2.2.2.2.2.2.2.2.1 rfl (lv_at hl 2 rfl) ?_
    refine lv_iload_n hx hb eX10_handOf_0.2.2.2.2.2.2.2.2.2.1 rfl (lv_at hl 1 rfl) ?_
    refine lv_iload_n hx hb eX10_handOf_0.2.2.2.2.2.2.2.2.2.2.1 rfl (lv_at hl 3 rfl) ?_
    refine g_calli (wc := (wd_X10_has cI cC cZ cB cJ)) hP hD hS hA [] [0, 1] rfl rfl rfl rfl (g_runS (As := [.int x1, .int x3]) (rest := [.int x2]) C0 hP hD hS [] rfl rfl (c_X10_has l dC dI cI cC cZ cB cJ H.size x1 x3 _ hp) q_734 q_736 q_735 q_642 h_X10_has rfl rfl ⟨Nat.le_of_ble_eq_true rfl, Nat.le_of_ble_eq_true rfl⟩ rfl rfl hl.1 rfl (lv_room (Nat.le_of_ble_eq_true rfl)) eX10_handOf_0.2.2.2.2.2.2.2.2.2.2.2.1 ⟨Nat.zero_le _, Nat.zero_le _⟩) (fun r_1 u H locs hp hP hD hS => ?_)
    have hPD := PDs (ws' := (wd_X10_handOf cI cC cZ cB cJ a_m oJ uD dY iJ lJ jQ jR jW jK pJ bM aY jO gR gY mK jZ iY bG mJ jB mQ lY eJ bY bW aG jG bQ dG jY m_length qG uW eY aJ aB bU dN aR aE bJ aW bT gJ dU bL bR bO mY pW tD)) hP hD [0, 1] (by decide) rfl
    have hP := hPD.1
    have hD := hPD.2
    refine lv_if_eq (tgt := 30) hx hb eX10_handOf_0.2.2.2.2.2.2.2.2.2.2.2.2.1 (by decide) (fun hc => ?_) (fun hc => ?_)
    · have hp := hp.1 hc
      refine lv_iconst (v := 0) hx hb eX10_handOf_26.2.2.1 ic_0 ?_
      exact ks_X10_handOf_31 C0 hKn x1 x3 x2 0 H locs ls hp hP hD hS (lv_sub hl [0, 1, 3] rfl)
    · have hp := hp.2 hc
      refine lv_aload_n hx hb eX10_handOf_0.2.2.2.2.2.2.2.2.2.2.2.2.2.1 rfl (lv_at hl 0 rfl) ?_
      refine va_get (D := (dC, dI)) (ci := 10) (v := .ref jZ) (C := RX10) (T := TX10) (N := 51) hx hb hts i_X10 hown hK hP 0 rfl rfl 36 (Nat.le_of_ble_eq_true rfl) (hts _ q_869) (fun _ h9 => h9) rfl eX10_handOf_0.2.2.2.2.2.2.2.2.2.2.2.2.2.2.1 ?_
      refine lv_iload_n hx hb eX10_handOf_0.2.2.2.2.2.2.2.2.2.2.2.2.2.2.2 rfl (lv_at hl 3 rfl) ?_
      have hin := hp.1
      have hp := hp.2
      refine va_iald hx hb hK hP 1 0 rfl rfl hin eX10_handOf_26.1 ?_
      refine lv_topi (fun v_4 ev_4 => ?_)
      have hp := hp v_4 ev_4
      refine lv_goto (tgt := 31) hx hb eX10_handOf_26.2.1 (by decide) ?_
      exact ks_X10_handOf_31 C0 hKn x1 x3 x2 v_4 H locs ls hp hP hD hS (lv_sub hl [0, 1, 3] rfl)
set_option maxHeartbeats 4000000 in
set_option maxRecDepth 100000 in
theorem kb_X10_handOf_4 (C0 : gc cX10_handOf (some .int) 4 RX10 (dC, dI) (tyl cI cC cZ cB cJ) A p s m args meth c) : ∀ (n : Nat), ∀ (x1 x2 x3 : Int32) (H : Heap) (locs : List Loc) (ls : Array Slot), (wb_X10_handOf_4 post aG tD n) x1 x2 x3 → va_P (dC, dI) classes (wd_X10_handOf cI cC cZ cB cJ a_m oJ uD dY iJ lJ jQ jR jW jK pJ bM aY jO gR gY mK jZ iY bG mJ jB mQ lY eJ bY bW aG jG bQ dG jY m_length qG uW eY aJ aB bU dN aR aE bJ aW bT gJ dU bL bR bO mY pW tD) H → va_D A (wd_X10_handOf cI cC cZ cB cJ a_m oJ uD dY iJ lJ jQ jR jW jK pJ bM aY jO gR gY mK jZ iY bG mJ jB mQ lY eJ bY bW aG jG bQ dG jY m_length qG uW eY aJ aB bU dN aR aE bJ aW bT gJ dU bL bR bO mY pW tD) → va_S A s.heap H locs → lv_has ls 4 [(0, .ref a_m), (1, .int x1), (2, .int x2), (3, .int x3)] → W p l e rm_X10_handOf s m args below meth c H locs 0 0 (MQ below (q_X10_handOf dC dI cI cC cZ cB cJ A a_m oJ uD dY iJ lJ jQ jR jW jK pJ bM aY jO gR gY mK jZ iY bG mJ jB mQ lY eJ bY bW aG jG bQ dG jY m_length qG uW eY aJ aB bU dN aR aE bJ aW bT gJ dU bL bR bO mY pW tD post) args s 0 0 A) (F0 m 4 ls []) := by
  intro n
  induction n with
  | zero =>
    intro x1 x2 x3 H locs ls hp
    exact False.elim hp
  | succ n ih =>
    intro x1 x2 x3 H locs ls hp
    exact ks_X10_handOf_4 C0 ih x1 x2 x3 H locs ls hp
end S_X10_handOf
noncomputable def wp_X10_handOf (post : Int32 → Prop) (p0 aG : Int32) (tD : Nat → Int32) : Prop := ∃ n : Nat, wb_X10_handOf_4 post aG tD n p0 0 0
set_option maxHeartbeats 4000000 in
set_option maxRecDepth 100000 in
theorem c_X10_handOf (l : Launch) (dC : Nat → ClassId) (dI : Nat → Nat → Nat) (cI cC cZ cB cJ : ClassId) (a_m oJ uD dY iJ lJ jQ jR jW jK pJ bM aY jO gR gY mK jZ iY bG mJ jB mQ lY eJ bY sz : Nat) (p0 bW aG jG bQ dG : Int32) (jY : Nat) (m_length qG uW eY aJ aB bU dN aR aE bJ aW bT gJ dU bL bR bO mY pW : Int32) (tD : Nat → Int32) (post : Int32 → Prop) (hw : wp_X10_handOf post p0 aG tD) : Met l yX10_handOf (gw yX10_handOf cX10_handOf 4 (some .int)) rm_X10_handOf (va_Pc [.ref a_m, .int p0] (gPre (dC, dI) (tyl cI cC cZ cB cJ) (wd_X10_handOf cI cC cZ cB cJ a_m oJ uD dY iJ lJ jQ jR jW jK pJ bM aY jO gR gY mK jZ iY bG mJ jB mQ lY eJ bY bW aG jG bQ dG jY m_length qG uW eY aJ aB bU dN aR aE bJ aW bT gJ dU bL bR bO mY pW tD) sz)) (q_X10_handOf dC dI cI cC cZ cB cJ (va_A (wd_X10_handOf cI cC cZ cB cJ a_m oJ uD dY iJ lJ jQ jR jW jK pJ bM aY jO gR gY mK jZ iY bG mJ jB mQ lY eJ bY bW aG jG bQ dG jY m_length qG uW eY aJ aB bU dN aR aE bJ aW bT gJ dU bL bR bO mY pW tD) sz) a_m oJ uD dY iJ lJ jQ jR jW jK pJ bM aY jO gR gY mK jZ iY bG mJ jB mQ lY eJ bY bW aG jG bQ dG jY m_length qG uW eY aJ aB bU dN aR aE bJ aW bT gJ dU bL bR bO mY pW tD post) 0 0 (va_A (wd_X10_handOf cI cC cZ cB cJ a_m oJ uD dY iJ lJ jQ jR jW jK pJ bM aY jO gR gY mK jZ iY bG mJ jB mQ lY eJ bY bW aG jG bQ dG jY m_length qG uW eY aJ aB bU dN aR aE bJ aW bT gJ dU bL bR bO mY pW tD) sz) := by
  refine g_enter (own := RX10) (dC, dI) (tyl cI cC cZ cB cJ) (wd_X10_handOf cI cC cZ cB cJ a_m oJ uD dY iJ lJ jQ jR jW jK pJ bM aY jO gR gY mK jZ iY bG mJ jB mQ lY eJ bY bW aG jG bQ dG jY m_length qG uW eY aJ aB bU dN aR aE bJ aW bT gJ dU bL bR bO mY pW tD) sz [.ref a_m, .int p0] (fun A => q_X10_handOf dC dI cI cC cZ cB cJ A a_m oJ uD dY iJ lJ jQ jR jW jK pJ bM aY jO gR gY mK jZ iY bG mJ jB mQ lY eJ bY bW aG jG bQ dG jY m_length qG uW eY aJ aB bU dN aR aE bJ aW bT gJ dU bL bR bO mY pW tD post) pn_RX10 rfl (Nat.le_of_ble_eq_true rfl) ?_
  intro p e s m args below meth c A H locs ls C0 hP hD hS hl
  have hl : lv_has ls 4 [(0, .ref a_m), (1, .int p0)] := hl
  obtain ⟨hx, hb, hr, hml, hown, hts, hlocks, hA, hK, hN, tL, tM, hZL, hTL, hZM, hTM, hZX⟩ := id C0
  have hp := hw
  unfold wp_X10_handOf at hp
  refine lv_iconst (v := 0) hx hb eX10_handOf_0.1 ic_0 ?_
  refine lv_istore_n (lv' := [(2, .int 0), (0, .ref a_m), (1, .int p0)]) hx hb eX10_handOf_0.2.1 rfl hl (by decide) rfl (fun ls hl => ?_)
  refine lv_iconst (v := 0) hx hb eX10_handOf_0.2.2.1 ic_0 ?_
  refine lv_istore_n (lv' := [(3, .int 0), (2, .int 0), (0, .ref a_m), (1, .int p0)]) hx hb eX10_handOf_0.2.2.2.1 rfl hl (by decide) rfl (fun ls hl => ?_)
  obtain ⟨n9, hp⟩ := hp
  exact kb_X10_handOf_4 C0 n9 p0 0 0 H locs ls hp hP hD hS (lv_sub hl [2, 3, 1, 0] rfl)
noncomputable abbrev wd_X10_layHands_ (cI cC cZ cB cJ : ClassId) (a_m oJ uD dY iJ lJ jQ jR jW jK pJ bM aY jO gR gY mK jZ iY bG mJ jB mQ lY eJ bY : Nat) (bW aG jG bQ dG : Int32) (jY : Nat) (m_length qG uW eY aJ aB bU dN aR aE bJ aW bT gJ dU bL bR bO mY pW : Int32) (rD m_x jA rW oY pR pX tD : Nat → Int32) : va_W := [(a_m, .inr (10, [.ref oJ, .int bW, .ref uD, .ref dY, .ref iJ, .ref lJ, .int aG, .ref jQ, .ref jR, .ref jW, .ref jK, .int jG, .ref pJ, .int bQ, .int dG, rdv jK jO jY, .int m_length, .int qG, .int uW, .int eY, .ref bM, .ref aY, .int aJ, .int aB, .ref jO, .int bU, .int dN, .int aR, .int aE, .int bJ, .int aW, .ref gR, .int bT, .ref gY, .ref mK, .int gJ, .ref jZ, .int dU, .ref iY, .ref bG, .int bL, .int bR, .int bO, .ref mJ, .ref jB, .ref mQ, .int mY, .int pW, .ref lY, .ref eJ, .ref bY])), (oJ, .inl (cI, 21, .inl rD)), (uD, .inl (cI, 16, .inl m_x)), (dY, .inl (cI, 16, .inl jA)), (lJ, .inl (cI, 16, .inl rW)), (jQ, .inl (cI, 8, .inl oY)), (jR, .inl (cI, 8, .inl pR)), (jW, .inl (cI, 5, .inl pX)), (jZ, .inl (cI, 8, .inl tD))]
noncomputable abbrev q_X10_layHands_ (dC : Nat → ClassId) (dI : Nat → Nat → Nat) (cI cC cZ cB cJ : ClassId) (A : Nat → Prop) (a_m oJ uD dY iJ lJ jQ jR jW jK pJ bM aY jO gR gY mK jZ iY bG mJ jB mQ lY eJ bY : Nat) (bW aG jG bQ dG : Int32) (jY : Nat) (m_length qG uW eY aJ aB bU dN aR aE bJ aW bT gJ bL bR bO mY pW : Int32) (rD m_x jA rW oY pR pX : Nat → Int32) (post : Int32 → (Nat → Int32) → Prop) : Array Value → State → Outcome → State → Prop := va_Qv (fun (u : Int32 × (Nat → Int32)) => post u.1 u.2) (fun u t => gB (dC, dI) (tyl cI cC cZ cB cJ) A (wd_X10_layHands_ cI cC cZ cB cJ a_m oJ uD dY iJ lJ jQ jR jW jK pJ bM aY jO gR gY mK jZ iY bG mJ jB mQ lY eJ bY bW aG jG bQ dG jY m_length qG uW eY aJ aB bU dN aR aE bJ aW bT gJ u.1 bL bR bO mY pW rD m_x jA rW oY pR pX u.2) t) A
noncomputable abbrev rm_X10_layHands_ : Room := { frames := 4, cells := 0, slots := 0, locals := 91 }
section S_X10_layHands_
variable {p : Program} {l : Launch} {e : Env} {s : State} {m : MethodId} {args : Array Value} {below : List Frame} {meth : Method} {c : Code} {dC : Nat → ClassId} {dI : Nat → Nat → Nat} {cI cC cZ cB cJ : ClassId} {A : Nat → Prop} {a_m oJ uD dY iJ lJ jQ jR jW jK pJ bM aY jO gR gY mK jZ iY bG mJ jB mQ lY eJ bY : Nat} {bW aG jG bQ dG : Int32} {jY : Nat} {m_length qG uW eY aJ aB bU dN aR aE bJ aW bT gJ bL bR bO mY pW : Int32} {rD m_x jA rW oY pR pX : Nat → Int32} {post : Int32 → (Nat → Int32) → Prop}
noncomputable def ws_X10_layHands__2 (post : Int32 → (Nat → Int32) → Prop) (next : Int32 → Int32 → Int32 → (Nat → Int32) → Prop) (bW aG : Int32) (rD m_x jA rW oY pR pX : Nat → Int32) (x1 x2 dU : Int32) (tD : Nat → Int32) : Prop := (aG ≤ x2 → wp_X10_which (fun r_1 => ∀ v_2 : Int32, v_2 = rD (19 : Int32).toNatClampNeg → wp_X10_ripeOnes (fun r_3 => ∀ v_4 : Int32, v_4 = r_1 &&& r_3 → wp_X10_allStandings (fun r_5 => wp_X10_handOf (fun r_6 => ∀ v_7 : Int32, v_7 = v_4 &&& r_6 → post v_7 tD) r_5 aG tD) aG) v_2 bW rW) 0 bW rD) ∧ (¬ aG ≤ x2 → wp_X10_reachedFrom (fun r_8 => vp_in x2 8 ∧ (∀ v_9 : Int32, v_9 = x2 + 1 → next x1 v_9 dU (upd tD x2.toNatClampNeg r_8))) x2 x1 0 bW m_x jA oY pR pX)
noncomputable def wb_X10_layHands__2 (post : Int32 → (Nat → Int32) → Prop) (bW aG : Int32) (rD m_x jA rW oY pR pX : Nat → Int32) : Nat → Int32 → Int32 → Int32 → (Nat → Int32) → Prop := fun n => Nat.rec (motive := fun _ => Int32 → Int32 → Int32 → (Nat → Int32) → Prop) (fun _ _ _ _ => False) (fun _ ih => ws_X10_layHands__2 post ih bW aG rD m_x jA rW oY pR pX) n
set_option maxHeartbeats 4000000 in
set_option maxRecDepth 100000 in
theorem ks_X10_layHands__2 (C0 : gc cX10_layHands_ none 3 RX10 (dC, dI) (tyl cI cC cZ cB cJ) A p s m args meth c) {next : Int32 → Int32 → Int32 → (Nat → Int32) → Prop} (hKn : ∀ (x1 : Int32) (x2 : Int32) (dU : Int32) (tD : Nat → Int32) (H : Heap) (locs : List Loc) (ls : Array Slot), next x1 x2 dU tD → va_P (dC, dI) classes (wd_X10_layHands_ cI cC cZ cB cJ a_m oJ uD dY iJ lJ jQ jR jW jK pJ bM aY jO gR gY mK jZ iY bG mJ jB mQ lY eJ bY bW aG jG bQ dG jY m_length qG uW eY aJ aB bU dN aR aE bJ aW bT gJ dU bL bR bO mY pW rD m_x jA rW oY pR pX tD) H → va_D A (wd_X10_layHands_ cI cC cZ cB cJ a_m oJ uD dY iJ lJ jQ jR jW jK pJ bM aY jO gR gY mK jZ iY bG mJ jB mQ lY eJ bY bW aG jG bQ dG jY m_length qG uW eY aJ aB bU dN aR aE bJ aW bT gJ dU bL bR bO mY pW rD m_x jA rW oY pR pX tD) → va_S A s.heap H locs → lv_has ls 3 [(0, .ref a_m), (1, .int x1), (2, .int x2)] → W p l e rm_X10_layHands_ s m args below meth c H locs 0 0 (MQ below (q_X10_layHands_ dC dI cI cC cZ cB cJ A a_m oJ uD dY iJ lJ jQ jR jW jK pJ bM aY jO gR gY mK jZ iY bG mJ jB mQ lY eJ bY bW aG jG bQ dG jY m_length qG uW eY aJ aB bU dN aR aE bJ aW bT gJ bL bR bO mY pW rD m_x jA rW oY pR pX post) args s 0 0 A) (F0 m 2 ls [])) : ∀ (x1 x2 dU : Int32) (tD : Nat → Int32) (H : Heap) (locs : List Loc) (ls : Array Slot), (ws_X10_layHands__2 post next bW aG rD m_x jA rW oY pR pX) x1 x2 dU tD → va_P (dC, dI) classes (wd_X10_layHands_ cI cC cZ cB cJ a_m oJ uD dY iJ lJ jQ jR jW jK pJ bM aY jO gR gY mK jZ iY bG mJ jB mQ lY eJ bY bW aG jG bQ dG jY m_length qG uW eY aJ aB bU dN aR aE bJ aW bT gJ dU bL bR bO mY pW rD m_x jA rW oY pR pX tD) H → va_D A (wd_X10_layHands_ cI cC cZ cB cJ a_m oJ uD dY iJ lJ jQ jR jW jK pJ bM aY jO gR gY mK jZ iY bG mJ jB mQ lY eJ bY bW aG jG bQ dG jY m_length qG uW eY aJ aB bU dN aR aE bJ aW bT gJ dU bL bR bO mY pW rD m_x jA rW oY pR pX tD) → va_S A s.heap H locs → lv_has ls 3 [(0, .ref a_m), (1, .int x1), (2, .int x2)] → W p l e rm_X10_layHands_ s m args below meth c H locs 0 0 (MQ below (q_X10_layHands_ dC dI cI cC cZ cB cJ A a_m oJ uD dY iJ lJ jQ jR jW jK pJ bM aY jO gR gY mK jZ iY bG mJ jB mQ lY eJ bY bW aG jG bQ dG jY m_length qG uW eY aJ aB bU dN aR aE bJ aW bT gJ bL bR bO mY pW rD m_x jA rW oY pR pX post) args s 0 0 A) (F0 m 2 ls []) := by
  obtain ⟨hx, hb, hr, hml, hown, hts, hlocks, hA, hK, hN, tL, tM, hZL, hTL, hZM, hTM, hZX⟩ := id C0
  intro x1 x2 dU tD H locs ls hp hP hD hS hl
  unfold ws_X10_layHands__2 at hp
  refine lv_iload_n hx hb eX10_layHands__0.2.2.1 rfl (lv_at hl 2 rfl) ?_
  refine lv_aload_n hx hb eX10_layHands__0.2.2.2.1 rfl (lv_at hl 0 rfl) ?_
  refine va_get (D := (dC, dI)) (ci := 10) (v := .int aG) (C := RX10) (T := TX10) (N := 51) hx hb hts i_X10 hown hK hP 0 rfl rfl 6 (Nat.le_of_ble_eq_true rfl) (hts _ q_666) (fun _ h9 => h9) rfl eX10_layHands__0.2.2.2.2.1 ?_
  refine lv_icmp_ge (tgt := 29) hx hb eX10_layHands__0.2.2.2.2.2.1 (by decide) (fun hc => ?_) (fun hc => ?_)
  · have hp := hp.1 hc
    refine lv_aload_n hx hb eX10_layHands__26.2.1 rfl (lv_at hl 0 rfl) ?_
    refine lv_aload_n hx hb eX10_layHands__26.2.2.1 rfl (lv_at hl 0 rfl) ?_
    refine lv_aload_n hx hb eX10_layHands__26.2.2.2.1 rfl (lv_at hl 0 rfl) ?_
    refine va_get (D := (dC, dI)) (ci := 10) (v := .ref oJ) (C := RX10) (T := TX10) (N := 51) hx hb hts i_X10 hown hK hP 0 rfl rfl 0 (Nat.le_of_ble_eq_true rfl) (hts _ q_692) (fun _ h9 => h9) rfl eX10_layHands__26.2.2.2.2.1 ?_
    refine lv_iconst (v := 0) hx hb eX10_layHands__26.2.2.2.2.2.1 ic_0 ?_
    have hm := mgk (wc := (wd_X10_which cI cC cZ cB cJ a_m oJ uD dY iJ lJ jQ jR jW jK pJ bM aY jO gR gY mK jZ iY bG mJ jB mQ lY eJ bY bW aG jG bQ dG jY m_length qG uW eY aJ aB bU dN aR aE bJ aW bT gJ dU bL bR bO mY pW rD)) hP mk_5 9 rfl rfl rfl
    refine g_calli hP hD hS hA (mixT mk_5) (mixF mk_5) hm.1 hm.2 (nd_F _) (dis_g _) (g_runV (As := [.ref oJ, .int 0]) (rest := [.ref a_m]) C0 hP hD hS (mixT mk_5) hm.1 (nd_T _) 0 10 rfl rfl (c_X10_which l dC dI cI cC cZ cB cJ a_m oJ uD dY iJ lJ jQ jR jW jK pJ bM aY jO gR gY mK jZ iY bG mJ jB mQ lY eJ bY H.size 0 bW aG jG bQ dG jY m_length qG uW eY aJ aB bU dN aR aE bJ aW bT gJ dU bL bR bO mY pW rD _ hp) q_749 q_752 q_750 q_751 q_642 h_X10_which rfl rfl ⟨Nat.le_of_ble_eq_true rfl, Nat.le_of_ble_eq_true rfl⟩ rfl rfl hl.1 rfl (lv_room (Nat.le_of_ble_eq_true rfl)) eX10_layHands__26.2.2.2.2.2.2.1 ⟨Nat.zero_le _, Nat.zero_le _⟩) (fun r_1 u H locs hp hP hD hS => ?_)
    have hPD := PDm (ws' := (wd_X10_layHands_ cI cC cZ cB cJ a_m oJ uD dY iJ lJ jQ jR jW jK pJ bM aY jO gR gY mK jZ iY bG mJ jB mQ lY eJ bY bW aG jG bQ dG jY m_length qG uW eY aJ aB bU dN aR aE bJ aW bT gJ dU bL bR bO mY pW rD m_x jA rW oY pR pX tD)) hP hD 9 rfl rfl rfl
    have hP := hPD.1
    have hD := hPD.2
    refine lv_aload_n hx hb eX10_layHands__26.2.2.2.2.2.2.2.1 rfl (lv_at hl 0 rfl) ?_
    refine lv_aload_n hx hb eX10_layHands__26.2.2.2.2.2.2.2.2.1 rfl (lv_at hl 0 rfl) ?_
    refine va_get (D := (dC, dI)) (ci := 10) (v := .ref oJ) (C := RX10) (T := TX10) (N := 51) hx hb hts i_X10 hown hK hP 0 rfl rfl 0 (Nat.le_of_ble_eq_true rfl) (hts _ q_692) (fun _ h9 => h9) rfl eX10_layHands__26.2.2.2.2.2.2.2.2.2.1 ?_
    refine lv_bipush (v := 19) hx hb eX10_layHands__26.2.2.2.2.2.2.2.2.2.2.1 bp_19 ?_
    refine va_iald hx hb hK hP 1 0 rfl rfl (g_in rfl) eX10_layHands__26.2.2.2.2.2.2.2.2.2.2.2.1 ?_
    refine lv_topi (fun v_2 ev_2 => ?_)
    have hp := hp v_2 ev_2
    have hm := mgk (wc := (wd_X10_ripeOnes cI cC cZ cB cJ a_m oJ uD dY iJ lJ jQ jR jW jK pJ bM aY jO gR gY mK jZ iY bG mJ jB mQ lY eJ bY bW aG jG bQ dG jY m_length qG uW eY aJ aB bU dN aR aE bJ aW bT gJ dU bL bR bO mY pW rW)) hP mk_245 9 rfl rfl rfl
    refine g_calli hP hD hS hA (mixT mk_245) (mixF mk_245) hm.1 hm.2 (nd_F _) (dis_g _) (g_runV (As := [.int v_2]) (rest := [.int r_1, .ref a_m]) C0 hP hD hS (mixT mk_245) hm.1 (nd_T _) 0 10 rfl rfl (c_X10_ripeOnes l dC dI cI cC cZ cB cJ a_m oJ uD dY iJ lJ jQ jR jW jK pJ bM aY jO gR gY mK jZ iY bG mJ jB mQ lY eJ bY H.size v_2 bW aG jG bQ dG jY m_length qG uW eY aJ aB bU dN aR aE bJ aW bT gJ dU bL bR bO mY pW rW _ hp) q_828 q_831 q_829 q_830 q_642 h_X10_ripeOnes rfl rfl ⟨Nat.le_of_ble_eq_true rfl, Nat.le_of_ble_eq_true rfl⟩ rfl rfl hl.1 rfl (lv_room (Nat.le_of_ble_eq_true rfl)) eX10_layHands__26.2.2.2.2.2.2.2.2.2.2.2.2.1 ⟨Nat.zero_le _, Nat.zero_le _⟩) (fun r_3 u H locs hp hP hD hS => ?_)
    have hPD := PDm (ws' := (wd_X10_layHands_ cI cC cZ cB cJ a_m oJ uD dY iJ lJ jQ jR jW jK pJ bM aY jO gR gY mK jZ iY bG mJ jB mQ lY eJ bY bW aG jG bQ dG jY m_length qG uW eY aJ aB bU dN aR aE bJ aW bT gJ dU bL bR bO mY pW rD m_x jA rW oY pR pX tD)) hP hD 9 rfl rfl rfl
    have hP := hPD.1
    have hD := hPD.2
    refine lv_iand hx hb eX10_layHands__26.2.2.2.2.2.2.2.2.2.2.2.2.2.1 ?_
    refine lv_topi (fun v_4 ev_4 => ?_)
    have hp := hp v_4 ev_4
    refine lv_aload_n hx hb eX10_layHands__26.2.2.2.2.2.2.2.2.2.2.2.2.2.2.1 rfl (lv_at hl 0 rfl) ?_
    refine lv_aload_n hx hb eX10_layHands__26.2.2.2.2.2.2.2.2.2.2.2.2.2.2.2 rfl (lv_at hl 0 rfl) ?_
    have hm := mgk (wc := (wd_X10_allStandings cI cC cZ cB cJ a_m oJ uD dY iJ lJ jQ jR jW jK pJ bM aY jO gR gY mK jZ iY bG mJ jB mQ lY eJ bY bW aG jG bQ dG jY m_length qG uW eY aJ aB bU dN aR aE bJ aW bT gJ dU bL bR bO mY pW)) hP mk_6 9 rfl rfl rfl
    refine g_calli hP hD hS hA (mixT mk_6) (mixF mk_6) hm.1 hm.2 (nd_F _) (dis_g _) (g_runV (As := []) (rest := [.ref a_m, .int v_4, .ref a_m]) C0 hP hD hS (mixT mk_6) hm.1 (nd_T _) 0 10 rfl rfl (c_X10_allStandings l dC dI cI cC cZ cB cJ a_m oJ uD dY iJ lJ jQ jR jW jK pJ bM aY jO gR gY mK jZ iY bG mJ jB mQ lY eJ bY H.size bW aG jG bQ dG jY m_length qG uW eY aJ aB bU dN aR aE bJ aW bT gJ dU bL bR bO mY pW _ hp) q_870 q_873 q_871 q_872 q_642 h_X10_allStandings rfl rfl ⟨Nat.le_of_ble_eq_true rfl, Nat.le_of_ble_eq_true rfl⟩ rfl rfl hl.1 rfl (lv_room (Nat.le_of_ble_eq_true rfl)) eX10_layHands__53.1 ⟨Nat.zero_le _, Nat.zero_le _⟩) (fun r_5 u H locs hp hP hD hS => ?_)
    have hPD := PDm (ws' := (wd_X10_layHands_ cI cC cZ cB cJ a_m oJ uD dY iJ lJ jQ jR jW jK pJ bM aY jO gR gY mK jZ iY bG mJ jB mQ lY eJ bY bW aG jG bQ dG jY m_length qG uW eY aJ aB bU dN aR aE bJ aW bT gJ dU bL bR bO mY pW rD m_x jA rW oY pR pX tD)) hP hD 9 rfl rfl rfl
    have hP := hPD.1
    have hD := hPD.2
    have hm := mgk (wc := (wd_X10_handOf cI cC cZ cB cJ a_m oJ uD dY iJ lJ jQ jR jW jK pJ bM aY jO gR gY mK jZ iY bG mJ jB mQ lY eJ bY bW aG jG bQ dG jY m_length qG uW eY aJ aB bU dN aR aE bJ aW bT gJ dU bL bR bO mY pW tD)) hP mk_246 9 rfl rfl rfl
    refine g_calli hP hD hS hA (mixT mk_246) (mixF mk_246) hm.1 hm.2 (nd_F _) (dis_g _) (g_runV (As := [.int r_5]) (rest := [.int v_4, .ref a_m]) C0 hP hD hS (mixT mk_246) hm.1 (nd_T _) 0 10 rfl rfl (c_X10_handOf l dC dI cI cC cZ cB cJ a_m oJ uD dY iJ lJ jQ jR jW jK pJ bM aY jO gR gY mK jZ iY bG mJ jB mQ lY eJ bY H.size r_5 bW aG jG bQ dG jY m_length qG uW eY aJ aB bU dN aR aE bJ aW bT gJ dU bL bR bO mY pW tD _ hp) q_874 q_877 q_875 q_876 q_642 h_X10_handOf rfl rfl ⟨Nat.le_of_ble_eq_true rfl, Nat.le_of_ble_eq_true rfl⟩ rfl rfl hl.1 rfl (lv_room (Nat.le_of_ble_eq_true rfl)) eX10_layHands__53.2.1 ⟨Nat.zero_le _, Nat.zero_le _⟩) (fun r_6 u H locs hp hP hD hS => ?_)
    have hPD := PDm (ws' := (wd_X10_layHands_ cI cC cZ cB cJ a_m oJ uD dY iJ lJ jQ jR jW jK pJ bM aY jO gR gY mK jZ iY bG mJ jB mQ lY eJ bY bW aG jG bQ dG jY m_length qG uW eY aJ aB bU dN aR aE bJ aW bT gJ dU bL bR bO mY pW rD m_x jA rW oY pR pX tD)) hP hD 9 rfl rfl rfl
    have hP := hPD.1
    have hD := hPD.2
    refine lv_iand hx hb eX10_layHands__53.2.2.1 ?_
    refine lv_topi (fun v_7 ev_7 => ?_)
    have hp := hp v_7 ev_7
    refine va_put (D := (dC, dI)) (ci := 10) (v := .int v_7) (ty := .int) (C := RX10) (T := TX10) (N := 51) hx hb hts i_X10 tyX10 tyX10_ok nmX10 hown hK hP hD hS 0 rfl rfl 37 (Nat.le_of_ble_eq_true rfl) (hts _ q_878) (fun _ h9 => h9) rfl (tyX10_ok 37 (Nat.le_of_ble_eq_true rfl)) rfl rfl (Nat.le_of_ble_eq_true rfl) eX10_layHands__53.2.2.2.1 (fun H locs hP hD hS => ?_)
    have hP : va_P (dC, dI) classes (wd_X10_layHands_ cI cC cZ cB cJ a_m oJ uD dY iJ lJ jQ jR jW jK pJ bM aY jO gR gY mK jZ iY bG mJ jB mQ lY eJ bY bW aG jG bQ dG jY m_length qG uW eY aJ aB bU dN aR aE bJ aW bT gJ v_7 bL bR bO mY pW rD m_x jA rW oY pR pX tD) H := hP
    have hD : va_D A (wd_X10_layHands_ cI cC cZ cB cJ a_m oJ uD dY iJ lJ jQ jR jW jK pJ bM aY jO gR gY mK jZ iY bG mJ jB mQ lY eJ bY bW aG jG bQ dG jY m_length qG uW eY aJ aB bU dN aR aE bJ aW bT gJ v_7 bL bR bO mY pW rD m_x jA rW oY pR pX tD) := hD
    exact W.vret hx hb hr (fun t ht hW => ⟨⟨(v_7, tD), rfl, hp, by rw [ht]; exact hP, va_K.moved hW.alike hK, hD⟩, hS.F ht⟩) hS.2.2 eX10_layHands__53.2.2.2.2
  · have hp := hp.2 hc
    refine lv_aload_n hx hb eX10_layHands__0.2.2.2.2.2.2.1 rfl (lv_at hl 0 rfl) ?_
    refine va_get (D := (dC, dI)) (ci := 10) (v := .ref jZ) (C := RX10) (T := TX10) (N := 51) hx hb hts i_X10 hown hK hP 0 rfl rfl 36 (Nat.le_of_ble_eq_true rfl) (hts _ q_869) (fun _ h9 => h9) rfl eX10_layHands__0.2.2.2.2.2.2.2.1 ?_
    refine lv_iload_n hx hb eX10_layHands__0.2.2.2.2.2.2.2.2.1 rfl (lv_at hl 2 rfl) ?_
    refine lv_aload_n hx hb eX10_layHands__0.2.2.2.2.2.2.2.2.2.1 rfl (lv_at hl 0 rfl) ?_
    refine lv_iload_n hx hb eX10_layHands__0.2.2.2.2.2.2.2.2.2.2.1 rfl (lv_at hl 2 rfl) ?_
    refine lv_iload_n hx hb eX10_layHands__0.2.2.2.2.2.2.2.2.2.2.2.1 rfl (lv_at hl 1 rfl) ?_
    refine lv_iconst (v := 0) hx hb eX10_layHands__0.2.2.2.2.2.2.2.2.2.2.2.2.1 ic_0 ?_
    have hm := mgk (wc := (wd_X10_reachedFrom cI cC cZ cB cJ a_m oJ uD dY iJ lJ jQ jR jW jK pJ bM aY jO gR gY mK jZ iY bG mJ jB mQ lY eJ bY bW aG jG bQ dG jY m_length qG uW eY aJ aB bU dN aR aE bJ aW bT gJ dU bL bR bO mY pW m_x jA oY pR pX)) hP mk_247 9 rfl rfl rfl
    refine g_calli hP hD hS hA (mixT mk_247) (mixF mk_247) hm.1 hm.2 (nd_F _) (dis_g _) (g_runV (As := [.int x2, .int x1, .int 0]) (rest := [.int x2, .ref jZ]) C0 hP hD hS (mixT mk_247) hm.1 (nd_T _) 0 10 rfl rfl (c_X10_reachedFrom l dC dI cI cC cZ cB cJ a_m oJ uD dY iJ lJ jQ jR jW jK pJ bM aY jO gR gY mK jZ iY bG mJ jB mQ lY eJ bY H.size x2 x1 0 bW aG jG bQ dG jY m_length qG uW eY aJ aB bU dN aR aE bJ aW bT gJ dU bL bR bO mY pW m_x jA oY pR pX _ hp) q_824 q_827 q_825 q_826 q_642 h_X10_reachedFrom rfl rfl ⟨Nat.le_of_ble_eq_true rfl, Nat.le_of_ble_eq_true rfl⟩ rfl rfl hl.1 rfl (lv_room (Nat.le_of_ble_eq_true rfl)) eX10_layHands__0.2.2.2.2.2.2.2.2.2.2.2.2.2.1 ⟨Nat.zero_le _, Nat.zero_le _⟩) (fun r_8 u H locs hp hP hD hS => ?_)
    have hPD := PDm (ws' := (wd_X10_layHands_ cI cC cZ cB cJ a_m oJ uD dY iJ lJ jQ jR jW jK pJ bM aY jO gR gY mK jZ iY bG mJ jB mQ lY eJ bY bW aG jG bQ dG jY m_length qG uW eY aJ aB bU dN aR aE bJ aW bT gJ dU bL bR bO mY pW rD m_x jA rW oY pR pX tD)) hP hD 9 rfl rfl rfl
    have hP := hPD.1
    have hD := hPD.2
    have hin := hp.1
    have hp := hp.2
    refine va_iast hx hb hK hP hD hS 8 0 rfl rfl hin eX10_layHands__0.2.2.2.2.2.2.2.2.2.2.2.2.2.2.1 (fun H locs hP hD hS => ?_)
    have hP : va_P (dC, dI) classes (wd_X10_layHands_ cI cC cZ cB cJ a_m oJ uD dY iJ lJ jQ jR jW jK pJ bM aY jO gR gY mK jZ iY bG mJ jB mQ lY eJ bY bW aG jG bQ dG jY m_length qG uW eY aJ aB bU dN aR aE bJ aW bT gJ dU bL bR bO mY pW rD m_x jA rW oY pR pX (upd tD x2.toNatClampNeg r_8)) H := hP
    have hD : va_D A (wd_X10_layHands_ cI cC cZ cB cJ a_m oJ uD dY iJ lJ jQ jR jW jK pJ bM aY jO gR gY mK jZ iY bG mJ jB mQ lY eJ bY bW aG jG bQ dG jY m_length qG uW eY aJ aB bU dN aR aE bJ aW bT gJ dU bL bR bO mY pW rD m_x jA rW oY pR pX (upd tD x2.toNatClampNeg r_8)) := hD
    obtain ⟨v_9, ev_9⟩ : ∃ y : Int32, y = x2 + 1 := ⟨_, rfl⟩
    refine lv_iinc (v := v_9) (lv' := [(2, .int v_9), (0, .ref a_m), (1, .int x1)]) hx hb eX10_layHands__0.2.2.2.2.2.2.2.2.2.2.2.2.2.2.2 hl (k := 2) rfl (by rw [ev_9]; rfl) (by decide) rfl (fun ls hl => ?_)
    have hp := hp v_9 ev_9
    refine lv_goto (tgt := 2) hx hb eX10_layHands__26.1 (by decide) ?_
    exact hKn x1 v_9 dU (upd tD x2.toNatClampNeg r_8) H locs ls hp hP hD hS (lv_sub hl [1, 2, 0] rfl)
set_option maxHeartbeats 4000000 in
set_option maxRecDepth 100000 in
theorem kb_X10_layHands__2 (C0 : gc cX10_layHands_ none 3 RX10 (dC, dI) (tyl cI cC cZ cB cJ) A p s m args meth c) : ∀ (n : Nat), ∀ (x1 x2 dU : Int32) (tD : Nat → Int32) (H : Heap) (locs : List Loc) (ls : Array Slot), (wb_X10_layHands__2 post bW aG rD m_x jA rW oY pR pX n) x1 x2 dU tD → va_P (dC, dI) classes (wd_X10_layHands_ cI cC cZ cB cJ a_m oJ uD dY iJ lJ jQ jR jW jK pJ bM aY jO gR gY mK jZ iY bG mJ jB mQ lY eJ bY bW aG jG bQ dG jY m_length qG uW eY aJ aB bU dN aR aE bJ aW bT gJ dU bL bR bO mY pW rD m_x jA rW oY pR pX tD) H → va_D A (wd_X10_layHands_ cI cC cZ cB cJ a_m oJ uD dY iJ lJ jQ jR jW jK pJ bM aY jO gR gY mK jZ iY bG mJ jB mQ lY eJ bY bW aG jG bQ dG jY m_length qG uW eY aJ aB bU dN aR aE bJ aW bT gJ dU bL bR bO mY pW rD m_x jA rW oY pR pX tD) → va_S A s.heap H locs → lv_has ls 3 [(0, .ref a_m), (1, .int x1), (2, .int x2)] → W p l e rm_X10_layHands_ s m args below meth c H locs 0 0 (MQ below (q_X10_layHands_ dC dI cI cC cZ cB cJ A a_m oJ uD dY iJ lJ jQ jR jW jK pJ bM aY jO gR gY mK jZ iY bG mJ jB mQ lY eJ bY bW aG jG bQ dG jY m_length qG uW eY aJ aB bU dN aR aE bJ aW bT gJ bL bR bO mY pW rD m_x jA rW oY pR pX post) args s 0 0 A) (F0 m 2 ls []) := by
  intro n
  induction n with
  | zero =>
    intro x1 x2 dU tD H locs ls hp
    exact False.elim hp
  | succ n ih =>
    intro x1 x2 dU tD H locs ls hp
    exact ks_X10_layHands__2 C0 ih x1 x2 dU tD H locs ls hp
end S_X10_layHands_
noncomputable def wp_X10_layHands_ (post : Int32 → (Nat → Int32) → Prop) (p0 bW aG dU : Int32) (rD m_x jA rW oY pR pX tD : Nat → Int32) : Prop := ∃ n : Nat, wb_X10_layHands__2 post bW aG rD m_x jA rW oY pR pX n p0 0 dU tD
set_option maxHeartbeats 4000000 in
set_option maxRecDepth 100000 in
theorem c_X10_layHands_ (l : Launch) (dC : Nat → ClassId) (dI : Nat → Nat → Nat) (cI cC cZ cB cJ : ClassId) (a_m oJ uD dY iJ lJ jQ jR jW jK pJ bM aY jO gR gY mK jZ iY bG mJ jB mQ lY eJ bY sz : Nat) (p0 bW aG jG bQ dG : Int32) (jY : Nat) (m_length qG uW eY aJ aB bU dN aR aE bJ aW bT gJ dU bL bR bO mY pW : Int32) (rD m_x jA rW oY pR pX tD : Nat → Int32) (post : Int32 → (Nat → Int32) → Prop) (hw : wp_X10_layHands_ post p0 bW aG dU rD m_x jA rW oY pR pX tD) : Met l yX10_layHands_ (gw yX10_layHands_ cX10_layHands_ 3 none) rm_X10_layHands_ (va_Pc [.ref a_m, .int p0] (gPre (dC, dI) (tyl cI cC cZ cB cJ) (wd_X10_layHands_ cI cC cZ cB cJ a_m oJ uD dY iJ lJ jQ jR jW jK pJ bM aY jO gR gY mK jZ iY bG mJ jB mQ lY eJ bY bW aG jG bQ dG jY m_length qG uW eY aJ aB bU dN aR aE bJ aW bT gJ dU bL bR bO mY pW rD m_x jA rW oY pR pX tD) sz)) (q_X10_layHands_ dC dI cI cC cZ cB cJ (va_A (wd_X10_layHands_ cI cC cZ cB cJ a_m oJ uD dY iJ lJ jQ jR jW jK pJ bM aY jO gR gY mK jZ iY bG mJ jB mQ lY eJ bY bW aG jG bQ dG jY m_length qG uW eY aJ aB bU dN aR aE bJ aW bT gJ dU bL bR bO mY pW rD m_x jA rW oY pR pX tD) sz) a_m oJ uD dY iJ lJ jQ jR jW jK pJ bM aY jO gR gY mK jZ iY bG mJ jB mQ lY eJ bY bW aG jG bQ dG jY m_length qG uW eY aJ aB bU dN aR aE bJ aW bT gJ bL bR bO mY pW rD m_x jA rW oY pR pX post) 0 0 (va_A (wd_X10_layHands_ cI cC cZ cB cJ a_m oJ uD dY iJ lJ jQ jR jW jK pJ bM aY jO gR gY mK jZ iY bG mJ jB mQ lY eJ bY bW aG jG bQ dG jY m_length qG uW eY aJ aB bU dN aR aE bJ aW bT gJ dU bL bR bO mY pW rD m_x jA rW oY pR pX tD) sz) := by
  refine g_enter (own := RX10) (dC, dI) (tyl cI cC cZ cB cJ) (wd_X10_layHands_ cI cC cZ cB cJ a_m oJ uD dY iJ lJ jQ jR jW jK pJ bM aY jO gR gY mK jZ iY bG mJ jB mQ lY eJ bY bW aG jG bQ dG jY m_length qG uW eY aJ aB bU dN aR aE bJ aW bT gJ dU bL bR bO mY pW rD m_x jA rW oY pR pX tD) sz [.ref a_m, .int p0] (fun A => q_X10_layHands_ dC dI cI cC cZ cB cJ A a_m oJ uD dY iJ lJ jQ jR jW jK pJ bM aY jO gR gY mK jZ iY bG mJ jB mQ lY eJ bY bW aG jG bQ dG jY m_length qG uW eY aJ aB bU dN aR aE bJ aW bT gJ bL bR bO mY pW rD m_x jA rW oY pR pX post) pn_RX10 rfl (Nat.le_of_ble_eq_true rfl) ?_
  intro p e s m args below meth c A H locs ls C0 hP hD hS hl
  have hl : lv_has ls 3 [(0, .ref a_m), (1, .int p0)] := hl
  obtain ⟨hx, hb, hr, hml, hown, hts, hlocks, hA, hK, hN, tL, tM, hZL, hTL, hZM, hTM, hZX⟩ := id C0
  have hp := hw
  unfold wp_X10_layHands_ at hp
  refine lv_iconst (v := 0) hx hb eX10_layHands__0.1 ic_0 ?_
  refine lv_istore_n (lv' := [(2, .int 0), (0, .ref a_m), (1, .int p0)]) hx hb eX10_layHands__0.2.1 rfl hl (by decide) rfl (fun ls hl => ?_)
  obtain ⟨n9, hp⟩ := hp
  exact kb_X10_layHands__2 C0 n9 p0 0 dU tD H locs ls hp hP hD hS (lv_sub hl [1, 2, 0] rfl)
noncomputable abbrev wd_X10_layHands (cI cC cZ cB cJ : ClassId) (a_m oJ uD dY iJ lJ jQ jR jW jK pJ bM aY jO gR gY mK jZ iY bG mJ jB mQ lY eJ bY : Nat) (bW aG jG bQ dG : Int32) (jY : Nat) (m_length qG uW eY aJ aB bU dN aR aE bJ aW bT gJ dU bL bR bO mY pW : Int32) (rD m_x jA rW oY pR pX tD : Nat → Int32) : va_W := [(a_m, .inr (10, [.ref oJ, .int bW, .ref uD, .ref dY, .ref iJ, .ref lJ, .int aG, .ref jQ, .ref jR, .ref jW, .ref jK, .int jG, .ref pJ, .int bQ, .int dG, rdv jK jO jY, .int m_length, .int qG, .int uW, .int eY, .ref bM, .ref aY, .int aJ, .int aB, .ref jO, .int bU, .int dN, .int aR, .int aE, .int bJ, .int aW, .ref gR, .int bT, .ref gY, .ref mK, .int gJ, .ref jZ, .int dU, .ref iY, .ref bG, .int bL, .int bR, .int bO, .ref mJ, .ref jB, .ref mQ, .int mY, .int pW, .ref lY, .ref eJ, .ref bY])), (oJ, .inl (cI, 21, .inl rD)), (uD, .inl (cI, 16, .inl m_x)), (dY, .inl (cI, 16, .inl jA)), (lJ, .inl (cI, 16, .inl rW)), (jQ, .inl (cI, 8, .inl oY)), (jR, .inl (cI, 8, .inl pR)), (jW, .inl (cI, 5, .inl pX)), (jZ, .inl (cI, 8, .inl tD))]
noncomputable abbrev q_X10_layHands (dC : Nat → ClassId) (dI : Nat → Nat → Nat) (cI cC cZ cB cJ : ClassId) (A : Nat → Prop) (a_m oJ uD dY iJ lJ jQ jR jW jK pJ bM aY jO gR gY mK jZ iY bG mJ jB mQ lY eJ bY : Nat) (bW aG jG bQ dG : Int32) (jY : Nat) (m_length qG uW eY aJ aB bU dN aR aE bJ aW bT gJ bL bR bO mY pW : Int32) (rD m_x jA rW oY pR pX : Nat → Int32) (post : Int32 → (Nat → Int32) → Prop) : Array Value → State → Outcome → State → Prop := va_Qv (fun (u : Int32 × (Nat → Int32)) => post u.1 u.2) (fun u t => gB (dC, dI) (tyl cI cC cZ cB cJ) A (wd_X10_layHands cI cC cZ cB cJ a_m oJ uD dY iJ lJ jQ jR jW jK pJ bM aY jO gR gY mK jZ iY bG mJ jB mQ lY eJ bY bW aG jG bQ dG jY m_length qG uW eY aJ aB bU dN aR aE bJ aW bT gJ u.1 bL bR bO mY pW rD m_x jA rW oY pR pX u.2) t) A
noncomputable abbrev rm_X10_layHands : Room := { frames := 5, cells := 0, slots := 0, locals := 113 }
noncomputable def wp_X10_layHands (post : Int32 → (Nat → Int32) → Prop) (bW aG dU : Int32) (rD m_x jA rW oY pR pX tD : Nat → Int32) : Prop := ∀ v_1 : Int32, v_1 = rD (18 : Int32).toNatClampNeg → wp_X10_layHands_ (fun xY zM => post xY zM) v_1 bW aG dU rD m_x jA rW oY pR pX tD
set_option maxHeartbeats 4000000 in
set_option maxRecDepth 100000 in
theorem c_X10_layHands (l : Launch) (dC : Nat → ClassId) (dI : Nat → Nat → Nat) (cI cC cZ cB cJ : ClassId) (a_m oJ uD dY iJ lJ jQ jR jW jK pJ bM aY jO gR gY mK jZ iY bG mJ jB mQ lY eJ bY sz : Nat) (bW aG jG bQ dG : Int32) (jY : Nat) (m_length qG uW eY aJ aB bU dN aR aE bJ aW bT gJ dU bL bR bO mY pW : Int32) (rD m_x jA rW oY pR pX tD : Nat → Int32) (post : Int32 → (Nat → Int32) → Prop) (hw : wp_X10_layHands post bW aG dU rD m_x jA rW oY pR pX tD) : Met l yX10_layHands (gw yX10_layHands cX10_layHands 1 none) rm_X10_layHands (va_Pc [.ref a_m] (gPre (dC, dI) (tyl cI cC cZ cB cJ) (wd_X10_layHands cI cC cZ cB cJ a_m oJ uD dY iJ lJ jQ jR jW jK pJ bM aY jO gR gY mK jZ iY bG mJ jB mQ lY eJ bY bW aG jG bQ dG jY m_length qG uW eY aJ aB bU dN aR aE bJ aW bT gJ dU bL bR bO mY pW rD m_x jA rW oY pR pX tD) sz)) (q_X10_layHands dC dI cI cC cZ cB cJ (va_A (wd_X10_layHands cI cC cZ cB cJ a_m oJ uD dY iJ lJ jQ jR jW jK pJ bM aY jO gR gY mK jZ iY bG mJ jB mQ lY eJ bY bW aG jG bQ dG jY m_length qG uW eY aJ aB bU dN aR aE bJ aW bT gJ dU bL bR bO mY pW rD m_x jA rW oY pR pX tD) sz) a_m oJ uD dY iJ lJ jQ jR jW jK pJ bM aY jO gR gY mK jZ iY bG mJ jB mQ lY eJ bY bW aG jG bQ dG jY m_length qG uW eY aJ aB bU dN aR aE bJ aW bT gJ bL bR bO mY pW rD m_x jA rW oY pR pX post) 0 0 (va_A (wd_X10_layHands cI cC cZ cB cJ a_m oJ uD dY iJ lJ jQ jR jW jK pJ bM aY jO gR gY mK jZ iY bG mJ jB mQ lY eJ bY bW aG jG bQ dG jY m_length qG uW eY aJ aB bU dN aR aE bJ aW bT gJ dU bL bR bO mY pW rD m_x jA rW oY pR pX tD) sz) := by
  refine g_enter (own := RX10) (dC, dI) (tyl cI cC cZ cB cJ) (wd_X10_layHands cI cC cZ cB cJ a_m oJ uD dY iJ lJ jQ jR jW jK pJ bM aY jO gR gY mK jZ iY bG mJ jB mQ lY eJ bY bW aG jG bQ dG jY m_length qG uW eY aJ aB bU dN aR aE bJ aW bT gJ dU bL bR bO mY pW rD m_x jA rW oY pR pX tD) sz [.ref a_m] (fun A => q_X10_layHands dC dI cI cC cZ cB cJ A a_m oJ uD dY iJ lJ jQ jR jW jK pJ bM aY jO gR gY mK jZ iY bG mJ jB mQ lY eJ bY bW aG jG bQ dG jY m_length qG uW eY aJ aB bU dN aR aE bJ aW bT gJ bL bR bO mY pW rD m_x jA rW oY pR pX post) pn_RX10 rfl (Nat.le_of_ble_eq_true rfl) ?_
  intro p e s m args below meth c A H locs ls C0 hP hD hS hl
  have hl : lv_has ls 1 [(0, .ref a_m)] := hl
  obtain ⟨hx, hb, hr, hml, hown, hts, hlocks, hA, hK, hN, tL, tM, hZL, hTL, hZM, hTM, hZX⟩ := id C0
  have hp := hw
  unfold wp_X10_layHands at hp
  refine lv_aload_n hx hb eX10_layHands_0.1 rfl (lv_at hl 0 rfl) ?_
  refine lv_aload_n hx hb eX10_layHands_0.2.1 rfl (lv_at hl 0 rfl) ?_
  refine va_get (D := (dC, dI)) (ci := 10) (v := .ref oJ) (C := RX10) (T := TX10) (N := 51) hx hb hts i_X10 hown hK hP 0 rfl rfl 0 (Nat.le_of_ble_eq_true rfl) (hts _ q_692) (fun _ h9 => h9) rfl eX10_layHands_0.2.2.1 ?_
  refine lv_bipush (v := 18) hx hb eX10_layHands_0.2.2.2.1 bp_18 ?_
  refine va_iald hx hb hK hP 1 0 rfl rfl (g_in rfl) eX10_layHands_0.2.2.2.2.1 ?_
  refine lv_topi (fun v_1 ev_1 => ?_)
  have hp := hp v_1 ev_1
  have hm := mgk (wc := (wd_X10_layHands_ cI cC cZ cB cJ a_m oJ uD dY iJ lJ jQ jR jW jK pJ bM aY jO gR gY mK jZ iY bG mJ jB mQ lY eJ bY bW aG jG bQ dG jY m_length qG uW eY aJ aB bU dN aR aE bJ aW bT gJ dU bL bR bO mY pW rD m_x jA rW oY pR pX tD)) hP mk_9 9 rfl rfl rfl
  refine g_callv hP hD hS hA (mixT mk_9) (mixF mk_9) hm.1 hm.2 (nd_F _) (dis_g _) (g_runV (As := [.int v_1]) (rest := []) C0 hP hD hS (mixT mk_9) hm.1 (nd_T _) 0 10 rfl rfl (c_X10_layHands_ l dC dI cI cC cZ cB cJ a_m oJ uD dY iJ lJ jQ jR jW jK pJ bM aY jO gR gY mK jZ iY bG mJ jB mQ lY eJ bY H.size v_1 bW aG jG bQ dG jY m_length qG uW eY aJ aB bU dN aR aE bJ aW bT gJ dU bL bR bO mY pW rD m_x jA rW oY pR pX tD _ hp) q_879 q_882 q_880 q_881 q_642 h_X10_layHands_ rfl rfl ⟨Nat.le_of_ble_eq_true rfl, Nat.le_of_ble_eq_true rfl⟩ rfl rfl hl.1 rfl (lv_room (Nat.le_of_ble_eq_true rfl)) eX10_layHands_0.2.2.2.2.2.1 ⟨Nat.zero_le _, Nat.zero_le _⟩) (fun u H locs hp hP hD hS => ?_)
  obtain ⟨xY, zM⟩ := u
  have hPD := PDm (ws' := (wd_X10_layHands cI cC cZ cB cJ a_m oJ uD dY iJ lJ jQ jR jW jK pJ bM aY jO gR gY mK jZ iY bG mJ jB mQ lY eJ bY bW aG jG bQ dG jY m_length qG uW eY aJ aB bU dN aR aE bJ aW bT gJ xY bL bR bO mY pW rD m_x jA rW oY pR pX zM)) hP hD 9 rfl rfl rfl
  have hP := hPD.1
  have hD := hPD.2
  exact W.vret hx hb hr (fun t ht hW => ⟨⟨(xY, zM), rfl, hp, by rw [ht]; exact hP, va_K.moved hW.alike hK, hD⟩, hS.F ht⟩) hS.2.2 eX10_layHands_0.2.2.2.2.2.2
noncomputable abbrev wd_X10_both (cI cC cZ cB cJ : ClassId) (a_m oJ uD dY iJ lJ jQ jR jW jK pJ bM aY jO gR gY mK jZ iY bG mJ jB mQ lY eJ bY : Nat) (bW aG jG bQ dG : Int32) (jY : Nat) (m_length qG uW eY aJ aB bU dN aR aE bJ aW bT gJ dU bL bR bO mY pW : Int32) (rD m_x jA rW oY pR pX uM tD : Nat → Int32) : va_W := [(a_m, .inr (10, [.ref oJ, .int bW, .ref uD, .ref dY, .ref iJ, .ref lJ, .int aG, .ref jQ, .ref jR, .ref jW, .ref jK, .int jG, .ref pJ, .int bQ, .int dG, rdv jK jO jY, .int m_length, .int qG, .int uW, .int eY, .ref bM, .ref aY, .int aJ, .int aB, .ref jO, .int bU, .int dN, .int aR, .int aE, .int bJ, .int aW, .ref gR, .int bT, .ref gY, .ref mK, .int gJ, .ref jZ, .int dU, .ref iY, .ref bG, .int bL, .int bR, .int bO, .ref mJ, .ref jB, .ref mQ, .int mY, .int pW, .ref lY, .ref eJ, .ref bY])), (oJ, .inl (cI, 21, .inl rD)), (uD, .inl (cI, 16, .inl m_x)), (dY, .inl (cI, 16, .inl jA)), (lJ, .inl (cI, 16, .inl rW)), (jQ, .inl (cI, 8, .inl oY)), (jR, .inl (cI, 8, .inl pR)), (jW, .inl (cI, 5, .inl pX)), (pJ, .inl (cI, 32, .inl uM)), (jZ, .inl (cI, 8, .inl tD))]
noncomputable abbrev q_X10_both (dC : Nat → ClassId) (dI : Nat → Nat → Nat) (cI cC cZ cB cJ : ClassId) (A : Nat → Prop) (a_m oJ uD dY iJ lJ jQ jR jW jK pJ bM aY jO gR gY mK jZ iY bG mJ jB mQ lY eJ bY : Nat) (bW aG jG : Int32) (jY : Nat) (m_length qG uW eY aJ aB bU dN aR aE bJ aW bT gJ bL bR bO mY pW : Int32) (rD m_x jA rW oY pR pX : Nat → Int32) (post : Int32 → Int32 → Int32 → Int32 → (Nat → Int32) → (Nat → Int32) → Prop) : Array Value → State → Outcome → State → Prop := va_Qi (fun (r : Int32) (u : Int32 × Int32 × Int32 × (Nat → Int32) × (Nat → Int32)) => post r u.1 u.2.1 u.2.2.1 u.2.2.2.1 u.2.2.2.2) (fun u t => gB (dC, dI) (tyl cI cC cZ cB cJ) A (wd_X10_both cI cC cZ cB cJ a_m oJ uD dY iJ lJ jQ jR jW jK pJ bM aY jO gR gY mK jZ iY bG mJ jB mQ lY eJ bY bW aG jG u.1 u.2.1 jY m_length qG uW eY aJ aB bU dN aR aE bJ aW bT gJ u.2.2.1 bL bR bO mY pW rD m_x jA rW oY pR pX u.2.2.2.1 u.2.2.2.2) t) A
noncomputable abbrev rm_X10_both : Room := { frames := 6, cells := 0, slots := 0, locals := 133 }
noncomputable def wp_X10_both (post : Int32 → Int32 → Int32 → Int32 → (Nat → Int32) → (Nat → Int32) → Prop) (p0 p1 bW aG bQ dG dU : Int32) (rD m_x jA rW oY pR pX uM tD : Nat → Int32) : Prop := wp_X10_isStanding (fun r_1 => (r_1 = 0 → post (-1) bQ 0 dU uM tD) ∧ (¬ r_1 = 0 → wp_X10_isStanding (fun r_2 => (r_2 = 0 → post (-1) bQ 0 dU uM tD) ∧ (¬ r_2 = 0 → (¬ p0 = p1 → wp_X10_layHands (fun xT yQ => vp_in p0 8 ∧ (∀ v_5 : Int32, v_5 = xT &&& (yQ p0.toNatClampNeg) → vp_in p1 8 ∧ (∀ v_6 : Int32, v_6 = yQ p1.toNatClampNeg → ∀ v_7 : Int32, v_7 = v_5 &&& (v_6 ^^^ (-1)) → wp_X10_tell (fun yY aA1 => vp_in p1 8 ∧ (∀ v_10 : Int32, v_10 = xT &&& (yQ p1.toNatClampNeg) → vp_in p0 8 ∧ (∀ v_11 : Int32, v_11 = yQ p0.toNatClampNeg → ∀ v_12 : Int32, v_12 = v_10 &&& (v_11 ^^^ (-1)) → wp_X10_tell (fun aBe aGq => vp_in p0 8 ∧ (∀ v_15 : Int32, v_15 = xT &&& (yQ p0.toNatClampNeg) → vp_in p1 8 ∧ (post (v_15 &&& (yQ p1.toNatClampNeg)) aBe 0 xT aGq yQ))) v_12 yY aA1))) v_7 0 uM))) bW aG dU rD m_x jA rW oY pR pX tD) ∧ (p0 = p1 → post (-1) bQ 0 dU uM tD))) p1 aG)) p0 aG
set_option maxHeartbeats 4000000 in
set_option maxRecDepth 100000 in
theorem c_X10_both (l : Launch) (dC : Nat → ClassId) (dI : Nat → Nat → Nat) (cI cC cZ cB cJ : ClassId) (a_m oJ uD dY iJ lJ jQ jR jW jK pJ bM aY jO gR gY mK jZ iY bG mJ jB mQ lY eJ bY sz : Nat) (p0 p1 bW aG jG bQ dG : Int32) (jY : Nat) (m_length qG uW eY aJ aB bU dN aR aE bJ aW bT gJ dU bL bR bO mY pW : Int32) (rD m_x jA rW oY pR pX uM tD : Nat → Int32) (post : Int32 → Int32 → Int32 → Int32 → (Nat → Int32) → (Nat → Int32) → Prop) (hw : wp_X10_both post p0 p1 bW aG bQ dG dU rD m_x jA rW oY pR pX uM tD) : Met l yX10_both (gw yX10_both cX10_both 3 (some .int)) rm_X10_both (va_Pc [.ref a_m, .int p0, .int p1] (gPre (dC, dI) (tyl cI cC cZ cB cJ) (wd_X10_both cI cC cZ cB cJ a_m oJ uD dY iJ lJ jQ jR jW jK pJ bM aY jO gR gY mK jZ iY bG mJ jB mQ lY eJ bY bW aG jG bQ dG jY m_length qG uW eY aJ aB bU dN aR aE bJ aW bT gJ dU bL bR bO mY pW rD m_x jA rW oY pR pX uM tD) sz)) (q_X10_both dC dI cI cC cZ cB cJ (va_A (wd_X10_both cI cC cZ cB cJ a_m oJ uD dY iJ lJ jQ jR jW jK pJ bM aY jO gR gY mK jZ iY bG mJ jB mQ lY eJ bY bW aG jG bQ dG jY m_length qG uW eY aJ aB bU dN aR aE bJ aW bT gJ dU bL bR bO mY pW rD m_x jA rW oY pR pX uM tD) sz) a_m oJ uD dY iJ lJ jQ jR jW jK pJ bM aY jO gR gY mK jZ iY bG mJ jB mQ lY eJ bY bW aG jG jY m_length qG uW eY aJ aB bU dN aR aE bJ aW bT gJ bL bR bO mY pW rD m_x jA rW oY pR pX post) 0 0 (va_A (wd_X10_both cI cC cZ cB cJ a_m oJ uD dY iJ lJ jQ jR jW jK pJ bM aY jO gR gY mK jZ iY bG mJ jB mQ lY eJ bY bW aG jG bQ dG jY m_length qG uW eY aJ aB bU dN aR aE bJ aW bT gJ dU bL bR bO mY pW rD m_x jA rW oY pR pX uM tD) sz) := by
  refine g_enter (own := RX10) (dC, dI) (tyl cI cC cZ cB cJ) (wd_X10_both cI cC cZ cB cJ a_m oJ uD dY iJ lJ jQ jR jW jK pJ bM aY jO gR gY mK jZ iY bG mJ jB mQ lY eJ bY bW aG jG bQ dG jY m_length qG uW eY aJ aB bU dN aR aE bJ aW bT gJ dU bL bR bO mY pW rD m_x jA rW oY pR pX uM tD) sz [.ref a_m, .int p0, .int p1] (fun A => q_X10_both dC dI cI cC cZ cB cJ A a_m oJ uD dY iJ lJ jQ jR jW jK pJ bM aY jO gR gY mK jZ iY bG mJ jB mQ lY eJ bY bW aG jG jY m_length qG uW eY aJ aB bU dN aR aE bJ aW bT gJ bL bR bO mY pW rD m_x jA rW oY pR pX post) pn_RX10 rfl (Nat.le_of_ble_eq_true rfl) ?_
  intro p e s m args below meth c A H locs ls C0 hP hD hS hl
  have hl : lv_has ls 3 [(0, .ref a_m), (1, .int p0), (2, .int p1)] := hl
  obtain ⟨hx, hb, hr, hml, hown, hts, hlocks, hA, hK, hN, tL, tM, hZL, hTL, hZM, hTM, hZX⟩ := id C0
  have hp := hw
  unfold wp_X10_both at hp
  refine lv_aload_n hx hb eX10_both_0.1 rfl (lv_at hl 0 rfl) ?_
  refine lv_iconst (v := 0) hx hb eX10_both_0.2.1 ic_0 ?_
  refine va_put (D := (dC, dI)) (ci := 10) (v := .int 0) (ty := .int) (C := RX10) (T := TX10) (N := 51) hx hb hts i_X10 tyX10 tyX10_ok nmX10 hown hK hP hD hS 0 rfl rfl 14 (Nat.le_of_ble_eq_true rfl) (hts _ q_638) (fun _ h9 => h9) rfl (tyX10_ok 14 (Nat.le_of_ble_eq_true rfl)) rfl rfl (Nat.le_of_ble_eq_true rfl) eX10_both_0.2.2.1 (fun H locs hP hD hS => ?_)
  have hP : va_P (dC, dI) classes (wd_X10_both cI cC cZ cB cJ a_m oJ uD dY iJ lJ jQ jR jW jK pJ bM aY jO gR gY mK jZ iY bG mJ jB mQ lY eJ bY bW aG jG bQ 0 jY m_length qG uW eY aJ aB bU dN aR aE bJ aW bT gJ dU bL bR bO mY pW rD m_x jA rW oY pR pX uM tD) H := hP
  have hD : va_D A (wd_X10_both cI cC cZ cB cJ a_m oJ uD dY iJ lJ jQ jR jW jK pJ bM aY jO gR gY mK jZ iY bG mJ jB mQ lY eJ bY bW aG jG bQ 0 jY m_length qG uW eY aJ aB bU dN aR aE bJ aW bT gJ dU bL bR bO mY pW rD m_x jA rW oY pR pX uM tD) := hD
  refine lv_aload_n hx hb eX10_both_0.2.2.2.1 rfl (lv_at hl 0 rfl) ?_
  refine lv_iload_n hx hb eX10_both_0.2.2.2.2.1 rfl (lv_at hl 1 rfl) ?_
  have hm := mgk (wc := (wd_X10_isStanding cI cC cZ cB cJ a_m oJ uD dY iJ lJ jQ jR jW jK pJ bM aY jO gR gY mK jZ iY bG mJ jB mQ lY eJ bY bW aG jG bQ 0 jY m_length qG uW eY aJ aB bU dN aR aE bJ aW bT gJ dU bL bR bO mY pW)) hP aAZ 10 rfl rfl rfl
  refine g_calli hP hD hS hA (mixT aAZ) (mixF aAZ) hm.1 hm.2 (nd_F _) (dis_g _) (g_runV (As := [.int p0]) (rest := []) C0 hP hD hS (mixT aAZ) hm.1 (nd_T _) 0 10 rfl rfl (c_X10_isStanding l dC dI cI cC cZ cB cJ a_m oJ uD dY iJ lJ jQ jR jW jK pJ bM aY jO gR gY mK jZ iY bG mJ jB mQ lY eJ bY H.size p0 bW aG jG bQ 0 jY m_length qG uW eY aJ aB bU dN aR aE bJ aW bT gJ dU bL bR bO mY pW _ hp) q_757 q_760 q_758 q_759 q_642 h_X10_isStanding rfl rfl ⟨Nat.le_of_ble_eq_true rfl, Nat.le_of_ble_eq_true rfl⟩ rfl rfl hl.1 rfl (lv_room (Nat.le_of_ble_eq_true rfl)) eX10_both_0.2.2.2.2.2.1 ⟨Nat.zero_le _, Nat.zero_le _⟩) (fun r_1 u H locs hp hP hD hS => ?_)
  have hPD := PDm (ws' := (wd_X10_both cI cC cZ cB cJ a_m oJ uD dY iJ lJ jQ jR jW jK pJ bM aY jO gR gY mK jZ iY bG mJ jB mQ lY eJ bY bW aG jG bQ 0 jY m_length qG uW eY aJ aB bU dN aR aE bJ aW bT gJ dU bL bR bO mY pW rD m_x jA rW oY pR pX uM tD)) hP hD 10 rfl rfl rfl
  have hP := hPD.1
  have hD := hPD.2
  refine lv_if_eq (tgt := 26) hx hb eX10_both_0.2.2.2.2.2.2.1 (by decide) (fun hc => ?_) (fun hc => ?_)
  · have hp := hp.1 hc
    refine lv_iconst (v := (-1)) hx hb eX10_both_0.2.2.2.2.2.2.2.2.2.2.2.2.2.2.1 ic_m1 ?_
    exact W.iret (v := (-1)) hx hb hr (fun t ht hW => ⟨⟨(-1), (bQ, 0, dU, uM, tD), rfl, hp, by rw [ht]; exact hP, va_K.moved hW.alike hK, hD⟩, hS.F ht⟩) hS.2.2 eX10_both_0.2.2.2.2.2.2.2.2.2.2.2.2.2.2.2
  · have hp := hp.2 hc
    refine lv_aload_n hx hb eX10_both_0.2.2.2.2.2.2.2.1 rfl (lv_at hl 0 rfl) ?_
    refine lv_iload_n hx hb eX10_both_0.2.2.2.2.2.2.2.2.1 rfl (lv_at hl 2 rfl) ?_
    have hm := mgk (wc := (wd_X10_isStanding cI cC cZ cB cJ a_m oJ uD dY iJ lJ jQ jR jW jK pJ bM aY jO gR gY mK jZ iY bG mJ jB mQ lY eJ bY bW aG jG bQ 0 jY m_length qG uW eY aJ aB bU dN aR aE bJ aW bT gJ dU bL bR bO mY pW)) hP aAZ 10 rfl rfl rfl
    refine g_calli hP hD hS hA (mixT aAZ) (mixF aAZ) hm.1 hm.2 (nd_F _) (dis_g _) (g_runV (As := [.int p1]) (rest := []) C0 hP hD hS (mixT aAZ) hm.1 (nd_T _) 0 10 rfl rfl (c_X10_isStanding l dC dI cI cC cZ cB cJ a_m oJ uD dY iJ lJ jQ jR jW jK pJ bM aY jO gR gY mK jZ iY bG mJ jB mQ lY eJ bY H.size p1 bW aG jG bQ 0 jY m_length qG uW eY aJ aB bU dN aR aE bJ aW bT gJ dU bL bR bO mY pW _ hp) q_757 q_760 q_758 q_759 q_642 h_X10_isStanding rfl rfl ⟨Nat.le_of_ble_eq_true rfl, Nat.le_of_ble_eq_true rfl⟩ rfl rfl hl.1 rfl (lv_room (Nat.le_of_ble_eq_true rfl)) eX10_both_0.2.2.2.2.2.2.2.2.2.1 ⟨Nat.zero_le _, Nat.zero_le _⟩) (fun r_2 u H locs hp hP hD hS => ?_)
    have hPD := PDm (ws' := (wd_X10_both cI cC cZ cB cJ a_m oJ uD dY iJ lJ jQ jR jW jK pJ bM aY jO gR gY mK jZ iY bG mJ jB mQ lY eJ bY bW aG jG bQ 0 jY m_length qG uW eY aJ aB bU dN aR aE bJ aW bT gJ dU bL bR bO mY pW rD m_x jA rW oY pR pX uM tD)) hP hD 10 rfl rfl rfl
    have hP := hPD.1
    have hD := hPD.2
    refine lv_if_eq (tgt := 26) hx hb eX10_both_0.2.2.2.2.2.2.2.2.2.2.1 (by decide) (fun hc => ?_) (fun hc => ?_)
    · have hp := hp.1 hc
      refine lv_iconst (v := (-1)) hx hb eX10_both_0.2.2.2.2.2.2.2.2.2.2.2.2.2.2.1 ic_m1 ?_
      exact W.iret (v := (-1)) hx hb hr (fun t ht hW => ⟨⟨(-1), (bQ, 0, dU, uM, tD), rfl, hp, by rw [ht]; exact hP, va_K.moved hW.alike hK, hD⟩, hS.F ht⟩) hS.2.2 eX10_both_0.2.2.2.2.2.2.2.2.2.2.2.2.2.2.2
    · have hp := hp.2 hc
      refine lv_iload_n hx hb eX10_both_0.2.2.2.2.2.2.2.2.2.2.2.1 rfl (lv_at hl 1 rfl) ?_
      refine lv_iload_n hx hb eX10_both_0.2.2.2.2.2.2.2.2.2.2.2.2.1 rfl (lv_at hl 2 rfl) ?_
      refine lv_icmp_ne (tgt := 28) hx hb eX10_both_0.2.2.2.2.2.2.2.2.2.2.2.2.2.1 (by decide) (fun hc => ?_) (fun hc => ?_)
      · have hp := hp.1 hc
        refine lv_aload_n hx hb eX10_both_28.1 rfl (lv_at hl 0 rfl) ?_
        have hm := mgk (wc := (wd_X10_layHands cI cC cZ cB cJ a_m oJ uD dY iJ lJ jQ jR jW jK pJ bM aY jO gR gY mK jZ iY bG mJ jB mQ lY eJ bY bW aG jG bQ 0 jY m_length qG uW eY aJ aB bU dN aR aE bJ aW bT gJ dU bL bR bO mY pW rD m_x jA rW oY pR pX tD)) hP aBa 10 rfl rfl rfl
        refine g_callv hP hD hS hA (mixT aBa) (mixF aBa) hm.1 hm.2 (nd_F _) (dis_g _) (g_runV (As := []) (rest := []) C0 hP hD hS (mixT aBa) hm.1 (nd_T _) 0 10 rfl rfl (c_X10_layHands l dC dI cI cC cZ cB cJ a_m oJ uD dY iJ lJ jQ jR jW jK pJ bM aY jO gR gY mK jZ iY bG mJ jB mQ lY eJ bY H.size bW aG jG bQ 0 jY m_length qG uW eY aJ aB bU dN aR aE bJ aW bT gJ dU bL bR bO mY pW rD m_x jA rW oY pR pX tD _ hp) q_883 q_886 q_884 q_885 q_642 h_X10_layHands rfl rfl ⟨Nat.le_of_ble_eq_true rfl, Nat.le_of_ble_eq_true rfl⟩ rfl rfl hl.1 rfl (lv_room (Nat.le_of_ble_eq_true rfl)) eX10_both_28.2.1 ⟨Nat.zero_le _, Nat.zero_le _⟩) (fun u H locs hp hP hD hS => ?_)
        obtain ⟨xT, yQ⟩ := u
        have hPD := PDm (ws' := (wd_X10_both cI cC cZ cB cJ a_m oJ uD dY iJ lJ jQ jR jW jK pJ bM aY jO gR gY mK jZ iY bG mJ jB mQ lY eJ bY bW aG jG bQ 0 jY m_length qG uW eY aJ aB bU dN aR aE bJ aW bT gJ xT bL bR bO mY pW rD m_x jA rW oY pR pX uM yQ)) hP hD 10 rfl rfl rfl
        have hP := hPD.1
        have hD := hPD.2
        refine lv_aload_n hx hb eX10_both_28.2.2.1 rfl (lv_at hl 0 rfl) ?_
        refine lv_iconst (v := 0) hx hb eX10_both_28.2.2.2.1 ic_0 ?_
        refine va_put (D := (dC, dI)) (ci := 10) (v := .int 0) (ty := .int) (C := RX10) (T := TX10) (N := 51) hx hb hts i_X10 tyX10 tyX10_ok nmX10 hown hK hP hD hS 0 rfl rfl 13 (Nat.le_of_ble_eq_true rfl) (hts _ q_847) (fun _ h9 => h9) rfl (tyX10_ok 13 (Nat.le_of_ble_eq_true rfl)) rfl rfl (Nat.le_of_ble_eq_true rfl) eX10_both_28.2.2.2.2.1 (fun H locs hP hD hS => ?_)
        have hP : va_P (dC, dI) classes (wd_X10_both cI cC cZ cB cJ a_m oJ uD dY iJ lJ jQ jR jW jK pJ bM aY jO gR gY mK jZ iY bG mJ jB mQ lY eJ bY bW aG jG 0 0 jY m_length qG uW eY aJ aB bU dN aR aE bJ aW bT gJ xT bL bR bO mY pW rD m_x jA rW oY pR pX uM yQ) H := hP
        have hD : va_D A (wd_X10_both cI cC cZ cB cJ a_m oJ uD dY iJ lJ jQ jR jW jK pJ bM aY jO gR gY mK jZ iY bG mJ jB mQ lY eJ bY bW aG jG 0 0 jY m_length qG uW eY aJ aB bU dN aR aE bJ aW bT gJ xT bL bR bO mY pW rD m_x jA rW oY pR pX uM yQ) := hD
        refine lv_aload_n hx hb eX10_both_28.2.2.2.2.2.1 rfl (lv_at hl 0 rfl) ?_
        refine lv_aload_n hx hb eX10_both_28.2.2.2.2.2.2.1 rfl (lv_at hl 0 rfl) ?_
        refine va_get (D := (dC, dI)) (ci := 10) (v := .int xT) (C := RX10) (T := TX10) (N := 51) hx hb hts i_X10 hown hK hP 0 rfl rfl 37 (Nat.le_of_ble_eq_true rfl) (hts _ q_878) (fun _ h9 => h9) rfl eX10_both_28.2.2.2.2.2.2.2.1 ?_
        refine lv_aload_n hx hb eX10_both_28.2.2.2.2.2.2.2.2.1 rfl (lv_at hl 0 rfl) ?_
        refine va_get (D := (dC, dI)) (ci := 10) (v := .ref jZ) (C := RX10) (T := TX10) (N := 51) hx hb hts i_X10 hown hK hP 0 rfl rfl 36 (Nat.le_of_ble_eq_true rfl) (hts _ q_869) (fun _ h9 => h9) rfl eX10_both_28.2.2.2.2.2.2.2.2.2.1 ?_
        refine lv_iload_n hx hb eX10_both_28.2.2.2.2.2.2.2.2.2.2.1 rfl (lv_at hl 1 rfl) ?_
        have hin := hp.1
        have hp := hp.2
        refine va_iald hx hb hK hP 9 0 rfl rfl hin eX10_both_28.2.2.2.2.2.2.2.2.2.2.2.1 ?_
        refine lv_iand hx hb eX10_both_28.2.2.2.2.2.2.2.2.2.2.2.2.1 ?_
        refine lv_topi (fun v_5 ev_5 => ?_)
        have hp := hp v_5 ev_5
        refine lv_aload_n hx hb eX10_both_28.2.2.2.2.2.2.2.2.2.2.2.2.2.1 rfl (lv_at hl 0 rfl) ?_
        refine va_get (D := (dC, dI)) (ci := 10) (v := .ref jZ) (C := RX10) (T := TX10) (N := 51) hx hb hts i_X10 hown hK hP 0 rfl rfl 36 (Nat.le_of_ble_eq_true rfl) (hts _ q_869) (fun _ h9 => h9) rfl eX10_both_28.2.2.2.2.2.2.2.2.2.2.2.2.2.2.1 ?_
        refine lv_iload_n hx hb eX10_both_28.2.2.2.2.2.2.2.2.2.2.2.2.2.2.2 rfl (lv_at hl 2 rfl) ?_
        have hin := hp.1
        have hp := hp.2
        refine va_iald hx hb hK hP 9 0 rfl rfl hin eX10_both_54.1 ?_
        refine lv_topi (fun v_6 ev_6 => ?_)
        have hp := hp v_6 ev_6
        refine lv_iconst (v := (-1)) hx hb eX10_both_54.2.1 ic_m1 ?_
        refine lv_ixor hx hb eX10_both_54.2.2.1 ?_
        refine lv_iand hx hb eX10_both_54.2.2.2.1 ?_
        refine lv_topi (fun v_7 ev_7 => ?_)
        have hp := hp v_7 ev_7
        have hm := mgk (wc := (wd_X10_tell cI cC cZ cB cJ a_m oJ uD dY iJ lJ jQ jR jW jK pJ bM aY jO gR gY mK jZ iY bG mJ jB mQ lY eJ bY bW aG jG 0 0 jY m_length qG uW eY aJ aB bU dN aR aE bJ aW bT gJ xT bL bR bO mY pW uM)) hP aAN 10 rfl rfl rfl
        refine g_callv hP hD hS hA (mixT aAN) (mixF aAN) hm.1 hm.2 (nd_F _) (dis_g _) (g_runV (As := [.int v_7]) (rest := []) C0 hP hD hS (mixT aAN) hm.1 (nd_T _) 0 10 rfl rfl (c_X10_tell l dC dI cI cC cZ cB cJ a_m oJ uD dY iJ lJ jQ jR jW jK pJ bM aY jO gR gY mK jZ iY bG mJ jB mQ lY eJ bY H.size v_7 bW aG jG 0 0 jY m_length qG uW eY aJ aB bU dN aR aE bJ aW bT gJ xT bL bR bO mY pW uM _ hp) q_849 q_852 q_850 q_851 q_642 h_X10_tell rfl rfl ⟨Nat.le_of_ble_eq_true rfl, Nat.le_of_ble_eq_true rfl⟩ rfl rfl hl.1 rfl (lv_room (Nat.le_of_ble_eq_true rfl)) eX10_both_54.2.2.2.2.1 ⟨Nat.zero_le _, Nat.zero_le _⟩) (fun u H locs hp hP hD hS => ?_)
        obtain ⟨yY, aA1⟩ := u
        have hPD := PDm (ws' := (wd_X10_both cI cC cZ cB cJ a_m oJ uD dY iJ lJ jQ jR jW jK pJ bM aY jO gR gY mK jZ iY bG mJ jB mQ lY eJ bY bW aG jG yY 0 jY m_length qG uW eY aJ aB bU dN aR aE bJ aW bT gJ xT bL bR bO mY pW rD m_x jA rW oY pR pX aA1 yQ)) hP hD 10 rfl rfl rfl
        have hP := hPD.1
        have hD := hPD.2
        refine lv_aload_n hx hb eX10_both_54.2.2.2.2.2.1 rfl (lv_at hl 0 rfl) ?_
        refine lv_aload_n hx hb eX10_both_54.2.2.2.2.2.2.1 rfl (lv_at hl 0 rfl) ?_
        refine va_get (D := (dC, dI)) (ci := 10) (v := .int xT) (C := RX10) (T := TX10) (N := 51) hx hb hts i_X10 hown hK hP 0 rfl rfl 37 (Nat.le_of_ble_eq_true rfl) (hts _ q_878) (fun _ h9 => h9) rfl eX10_both_54.2.2.2.2.2.2.2.1 ?_
        refine lv_aload_n hx hb eX10_both_54.2.2.2.2.2.2.2.2.1 rfl (lv_at hl 0 rfl) ?_
        refine va_get (D := (dC, dI)) (ci := 10) (v := .ref jZ) (C := RX10) (T := TX10) (N := 51) hx hb hts i_X10 hown hK hP 0 rfl rfl 36 (Nat.le_of_ble_eq_true rfl) (hts _ q_869) (fun _ h9 => h9) rfl eX10_both_54.2.2.2.2.2.2.2.2.2.1 ?_
        refine lv_iload_n hx hb eX10_both_54.2.2.2.2.2.2.2.2.2.2.1 rfl (lv_at hl 2 rfl) ?_
        have hin := hp.1
        have hp := hp.2
        refine va_iald hx hb hK hP 9 0 rfl rfl hin eX10_both_54.2.2.2.2.2.2.2.2.2.2.2.1 ?_
        refine lv_iand hx hb eX10_both_54.2.2.2.2.2.2.2.2.2.2.2.2.1 ?_
        refine lv_topi (fun v_10 ev_10 => ?_)
        have hp := hp v_10 ev_10
        refine lv_aload_n hx hb eX10_both_54.2.2.2.2.2.2.2.2.2.2.2.2.2.1 rfl (lv_at hl 0 rfl) ?_
        refine va_get (D := (dC, dI)) (ci := 10) (v := .ref jZ) (C := RX10) (T := TX10) (N := 51) hx hb hts i_X10 hown hK hP 0 rfl rfl 36 (Nat.le_of_ble_eq_true rfl) (hts _ q_869) (fun _ h9 => h9) rfl eX10_both_54.2.2.2.2.2.2.2.2.2.2.2.2.2.2.1 ?_
        refine lv_iload_n hx hb eX10_both_54.2.2.2.2.2.2.2.2.2.2.2.2.2.2.2 rfl (lv_at hl 1 rfl) ?_
        have hin := hp.1
        have hp := hp.2
        refine va_iald hx hb hK hP 9 0 rfl rfl hin eX10_both_78.1 ?_
        refine lv_topi (fun v_11 ev_11 => ?_)
        have hp := hp v_11 ev_11
        refine lv_iconst (v := (-1)) hx hb eX10_both_78.2.1 ic_m1 ?_
        refine lv_ixor hx hb eX10_both_78.2.2.1 ?_
        refine lv_iand hx hb eX10_both_78.2.2.2.1 ?_
        refine lv_topi (fun v_12 ev_12 => ?_)
        have hp := hp v_12 ev_12
        have hm := mgk (wc := (wd_X10_tell cI cC cZ cB cJ a_m oJ uD dY iJ lJ jQ jR jW jK pJ bM aY jO gR gY mK jZ iY bG mJ jB mQ lY eJ bY bW aG jG yY 0 jY m_length qG uW eY aJ aB bU dN aR aE bJ aW bT gJ xT bL bR bO mY pW aA1)) hP aAN 10 rfl rfl rfl
        refine g_callv hP hD hS hA (mixT aAN) (mixF aAN) hm.1 hm.2 (nd_F _) (dis_g _) (g_runV (As := [.int v_12]) (rest := []) C0 hP hD hS (mixT aAN) hm.1 (nd_T _) 0 10 rfl rfl (c_X10_tell l dC dI cI cC cZ cB cJ a_m oJ uD dY iJ lJ jQ jR jW jK pJ bM aY jO gR gY mK jZ iY bG mJ jB mQ lY eJ bY H.size v_12 bW aG jG yY 0 jY m_length qG uW eY aJ aB bU dN aR aE bJ aW bT gJ xT bL bR bO mY pW aA1 _ hp) q_849 q_852 q_850 q_851 q_642 h_X10_tell rfl rfl ⟨Nat.le_of_ble_eq_true rfl, Nat.le_of_ble_eq_true rfl⟩ rfl rfl hl.1 rfl (lv_room (Nat.le_of_ble_eq_true rfl)) eX10_both_78.2.2.2.2.1 ⟨Nat.zero_le _, Nat.zero_le _⟩) (fun u H locs hp hP hD hS => ?_)
        obtain ⟨aBe, aGq⟩ := u
        have hPD := PDm (ws' := (wd_X10_both cI cC cZ cB cJ a_m oJ uD dY iJ lJ jQ jR jW jK pJ bM aY jO gR gY mK jZ iY bG mJ jB mQ lY eJ bY bW aG jG aBe 0 jY m_length qG uW eY aJ aB bU dN aR aE bJ aW bT gJ xT bL bR bO mY pW rD m_x jA rW oY pR pX aGq yQ)) hP hD 10 rfl rfl rfl
        have hP := hPD.1
        have hD := hPD.2
        refine lv_aload_n hx hb eX10_both_78.2.2.2.2.2.1 rfl (lv_at hl 0 rfl) ?_
        refine va_get (D := (dC, dI)) (ci := 10) (v := .int xT) (C := RX10) (T := TX10) (N := 51) hx hb hts i_X10 hown hK hP 0 rfl rfl 37 (Nat.le_of_ble_eq_true rfl) (hts _ q_878) (fun _ h9 => h9) rfl eX10_both_78.2.2.2.2.2.2.1 ?_
        refine lv_aload_n hx hb eX10_both_78.2.2.2.2.2.2.2.1 rfl (lv_at hl 0 rfl) ?_
        refine va_get (D := (dC, dI)) (ci := 10) (v := .ref jZ) (C := RX10) (T := TX10) (N := 51) hx hb hts i_X10 hown hK hP 0 rfl rfl 36 (Nat.le_of_ble_eq_true rfl) (hts _ q_869) (fun _ h9 => h9) rfl eX10_both_78.2.2.2.2.2.2.2.2.1 ?_
        refine lv_iload_n hx hb eX10_both_78.2.2.2.2.2.2.2.2.2.1 rfl (lv_at hl 1 rfl) ?_
        have hin := hp.1
        have hp := hp.2
        refine va_iald hx hb hK hP 9 0 rfl rfl hin eX10_both_78.2.2.2.2.2.2.2.2.2.2.1 ?_
        refine lv_iand hx hb eX10_both_78.2.2.2.2.2.2.2.2.2.2.2.1 ?_
        refine lv_topi (fun v_15 ev_15 => ?_)
        have hp := hp v_15 ev_15
        refine lv_aload_n hx hb eX10_both_78.2.2.2.2.2.2.2.2.2.2.2.2.1 rfl (lv_at hl 0 rfl) ?_
        refine va_get (D := (dC, dI)) (ci := 10) (v := .ref jZ) (C := RX10) (T := TX10) (N := 51) hx hb hts i_X10 hown hK hP 0 rfl rfl 36 (Nat.le_of_ble_eq_true rfl) (hts _ q_869) (fun _ h9 => h9) rfl eX10_both_78.2.2.2.2.2.2.2.2.2.2.2.2.2.1 ?_
        refine lv_iload_n hx hb eX10_both_78.2.2.2.2.2.2.2.2.2.2.2.2.2.2.1 rfl (lv_at hl 2 rfl) ?_
        have hin := hp.1
        have hp := hp.2
        refine va_iald hx hb hK hP 9 0 rfl rfl hin eX10_both_78.2.2.2.2.2.2.2.2.2.2.2.2.2.2.2 ?_
        refine lv_iand hx hb eX10_both_102.1 ?_
        exact W.iret (v := v_15 &&& (yQ p1.toNatClampNeg)) hx hb hr (fun t ht hW => ⟨⟨v_15 &&& (yQ p1.toNatClampNeg), (aBe, 0, xT, aGq, yQ), rfl, hp, by rw [ht]; exact hP, va_K.moved hW.alike hK, hD⟩, hS.F ht⟩) hS.2.2 eX10_both_102.2
      · have hp := hp.2 hc
        refine lv_iconst (v := (-1)) hx hb eX10_both_0.2.2.2.2.2.2.2.2.2.2.2.2.2.2.1 ic_m1 ?_
        exact W.iret (v := (-1)) hx hb hr (fun t ht hW => ⟨⟨(-1), (bQ, 0, dU, uM, tD), rfl, hp, by rw [ht]; exact hP, va_K.moved hW.alike hK, hD⟩, hS.F ht⟩) hS.2.2 eX10_both_0.2.2.2.2.2.2.2.2.2.2.2.2.2.2.2
noncomputable abbrev wd_X10_leanOf (cI cC cZ cB cJ : ClassId) (a_m oJ uD dY iJ lJ jQ jR jW jK pJ bM aY jO gR gY mK jZ iY bG mJ jB mQ lY eJ bY : Nat) (bW aG jG bQ dG : Int32) (jY : Nat) (m_length qG uW eY aJ aB bU dN aR aE bJ aW bT gJ dU bL bR bO mY pW : Int32) (m_x jA oY pR pX : Nat → Int32) : va_W := [(a_m, .inr (10, [.ref oJ, .int bW, .ref uD, .ref dY, .ref iJ, .ref lJ, .int aG, .ref jQ, .ref jR, .ref jW, .ref jK, .int jG, .ref pJ, .int bQ, .int dG, rdv jK jO jY, .int m_length, .int qG, .int uW, .int eY, .ref bM, .ref aY, .int aJ, .int aB, .ref jO, .int bU, .int dN, .int aR, .int aE, .int bJ, .int aW, .ref gR, .int bT, .ref gY, .ref mK, .int gJ, .ref jZ, .int dU, .ref iY, .ref bG, .int bL, .int bR, .int bO, .ref mJ, .ref jB, .ref mQ, .int mY, .int pW, .ref lY, .ref eJ, .ref bY])), (uD, .inl (cI, 16, .inl m_x)), (dY, .inl (cI, 16, .inl jA)), (jQ, .inl (cI, 8, .inl oY)), (jR, .inl (cI, 8, .inl pR)), (jW, .inl (cI, 5, .inl pX))]
noncomputable abbrev q_X10_leanOf (dC : Nat → ClassId) (dI : Nat → Nat → Nat) (cI cC cZ cB cJ : ClassId) (A : Nat → Prop) (a_m oJ uD dY iJ lJ jQ jR jW jK pJ bM aY jO gR gY mK jZ iY bG mJ jB mQ lY eJ bY : Nat) (bW aG jG bQ dG : Int32) (jY : Nat) (m_length qG uW eY aJ aB bU dN aR aE bJ aW bT gJ dU bL bR bO mY pW : Int32) (m_x jA oY pR pX : Nat → Int32) (post : Int32 → Prop) : Array Value → State → Outcome → State → Prop := va_Qi (fun (r : Int32) (u : Unit) => post r) (fun u t => gB (dC, dI) (tyl cI cC cZ cB cJ) A (wd_X10_leanOf cI cC cZ cB cJ a_m oJ uD dY iJ lJ jQ jR jW jK pJ bM aY jO gR gY mK jZ iY bG mJ jB mQ lY eJ bY bW aG jG bQ dG jY m_length qG uW eY aJ aB bU dN aR aE bJ aW bT gJ dU bL bR bO mY pW m_x jA oY pR pX) t) A
noncomputable abbrev rm_X10_leanOf : Room := { frames := 3, cells := 0, slots := 0, locals := 66 }
section S_X10_leanOf
variable {p : Program} {l : Launch} {e : Env} {s : State} {m : MethodId} {args : Array Value} {below : List Frame} {meth : Method} {c : Code} {dC : Nat → ClassId} {dI : Nat → Nat → Nat} {cI cC cZ cB cJ : ClassId} {A : Nat → Prop} {a_m oJ uD dY iJ lJ jQ jR jW jK pJ bM aY jO gR gY mK jZ iY bG mJ jB mQ lY eJ bY : Nat} {bW aG jG bQ dG : Int32} {jY : Nat} {m_length qG uW eY aJ aB bU dN aR aE bJ aW bT gJ dU bL bR bO mY pW : Int32} {m_x jA oY pR pX : Nat → Int32} {post : Int32 → Prop}
noncomputable def ws_X10_leanOf_2 (post : Int32 → Prop) (next : Int32 → Int32 → Int32 → Prop) (m_x jA oY pR pX : Nat → Int32) (x1 x2 x3 : Int32) : Prop := (30 < x3 → post x3) ∧ (¬ 30 < x3 → ∀ v_1 : Int32, v_1 = pX (0 : Int32).toNatClampNeg → ∀ v_2 : Int32, v_2 = v_1 + x3 → wp_X10_isWithin (fun r_3 => (¬ r_3 = 0 → post x3) ∧ (r_3 = 0 → ∀ v_4 : Int32, v_4 = x3 + 1 → next x1 x2 v_4)) x1 x2 v_2 m_x jA oY pR)
noncomputable def wb_X10_leanOf_2 (post : Int32 → Prop) (m_x jA oY pR pX : Nat → Int32) : Nat → Int32 → Int32 → Int32 → Prop := fun n => Nat.rec (motive := fun _ => Int32 → Int32 → Int32 → Prop) (fun _ _ _ => False) (fun _ ih => ws_X10_leanOf_2 post ih m_x jA oY pR pX) n
set_option maxHeartbeats 4000000 in
set_option maxRecDepth 100000 in
theorem ks_X10_leanOf_2 (C0 : gc cX10_leanOf (some .int) 4 RX10 (dC, dI) (tyl cI cC cZ cB cJ) A p s m args meth c) {next : Int32 → Int32 → Int32 → Prop} (hKn : ∀ (x1 : Int32) (x2 : Int32) (x3 : Int32) (H : Heap) (locs : List Loc) (ls : Array Slot), next x1 x2 x3 → va_P (dC, dI) classes (wd_X10_leanOf cI cC cZ cB cJ a_m oJ uD dY iJ lJ jQ jR jW jK pJ bM aY jO gR gY mK jZ iY bG mJ jB mQ lY eJ bY bW aG jG bQ dG jY m_length qG uW eY aJ aB bU dN aR aE bJ aW bT gJ dU bL bR bO mY pW m_x jA oY pR pX) H → va_D A (wd_X10_leanOf cI cC cZ cB cJ a_m oJ uD dY iJ lJ jQ jR jW jK pJ bM aY jO gR gY mK jZ iY bG mJ jB mQ lY eJ bY bW aG jG bQ dG jY m_length qG uW eY aJ aB bU dN aR aE bJ aW bT gJ dU bL bR bO mY pW m_x jA oY pR pX) → va_S A s.heap H locs → lv_has ls 4 [(0, .ref a_m), (1, .int x1), (2, .int x2), (3, .int x3)] → W p l e rm_X10_leanOf s m args below meth c H locs 0 0 (MQ below (q_X10_leanOf dC dI cI cC cZ cB cJ A a_m oJ uD dY iJ lJ jQ jR jW jK pJ bM aY jO gR gY mK jZ iY bG mJ jB mQ lY eJ bY bW aG jG bQ dG jY m_length qG uW eY aJ aB bU dN aR aE bJ aW bT gJ dU bL bR bO mY pW m_x jA oY pR pX post) args s 0 0 A) (F0 m 2 ls [])) : ∀ (x1 x2 x3 : Int32) (H : Heap) (locs : List Loc) (ls : Array Slot), (ws_X10_leanOf_2 post next m_x jA oY pR pX) x1 x2 x3 → va_P (dC, dI) classes (wd_X10_leanOf cI cC cZ cB cJ a_m oJ uD dY iJ lJ jQ jR jW jK pJ bM aY jO gR gY mK jZ iY bG mJ jB mQ lY eJ bY bW aG jG bQ dG jY m_length qG uW eY aJ aB bU dN aR aE bJ aW bT gJ dU bL bR bO mY pW m_x jA oY pR pX) H → va_D A (wd_X10_leanOf cI cC cZ cB cJ a_m oJ uD dY iJ lJ jQ jR jW jK pJ bM aY jO gR gY mK jZ iY bG mJ jB mQ lY eJ bY bW aG jG bQ dG jY m_length qG uW eY aJ aB bU dN aR aE bJ aW bT gJ dU bL bR bO mY pW m_x jA oY pR pX) → va_S A s.heap H locs → lv_has ls 4 [(0, .ref a_m), (1, .int x1), (2, .int x2), (3, .int x3)] → W p l e rm_X10_leanOf s m args below meth c H locs 0 0 (MQ below (q_X10_leanOf dC dI cI cC cZ cB cJ A a_m oJ uD dY iJ lJ jQ jR jW jK pJ bM aY jO gR gY mK jZ iY bG mJ jB mQ lY eJ bY bW aG jG bQ dG jY m_length qG uW eY aJ aB bU dN aR aE bJ aW bT gJ dU bL bR bO mY pW m_x jA oY pR pX post) args s 0 0 A) (F0 m 2 ls []) := by
  obtain ⟨hx, hb, hr, hml, hown, hts, hlocks, hA, hK, hN, tL, tM, hZL, hTL, hZM, hTM, hZX⟩ := id C0
  intro x1 x2 x3 H locs ls hp hP hD hS hl
  unfold ws_X10_leanOf_2 at hp
  refine lv_iload_n hx hb eX10_leanOf_0.2.2.1 rfl (lv_at hl 3 rfl) ?_
  refine lv_bipush (v := 30) hx hb eX10_leanOf_0.2.2.2.1 bp_30 ?_
  refine lv_icmp_gt (tgt := 31) hx hb eX10_leanOf_0.2.2.2.2.1 (by decide) (fun hc => ?_) (fun hc => ?_)
  · have hp := hp.1 hc
    refine lv_iload_n hx hb eX10_leanOf_25.2.2.1 rfl (lv_at hl 3 rfl) ?_
    exact W.iret (v := x3) hx hb hr (fun t ht hW => ⟨⟨x3, (), rfl, hp, by rw [ht]; exact hP, va_K.moved hW.alike hK, hD⟩, hS.F ht⟩) hS.2.2 eX10_leanOf_25.2.2.2
  · have hp := hp.2 hc
    refine lv_aload_n hx hb eX10_leanOf_0.2.2.2.2.2.1 rfl (lv_at hl 0 rfl) ?_
    refine lv_iload_n hx hb eX10_leanOf_0.2.2.2.2.2.2.1 rfl (lv_at hl 1 rfl) ?_
    refine lv_iload_n hx hb eX10_leanOf_0.2.2.2.2.2.2.2.1 rfl (lv_at hl 2 rfl) ?_
    refine lv_aload_n hx hb eX10_leanOf_0.2.2.2.2.2.2.2.2.1 rfl (lv_at hl 0 rfl) ?_
    refine va_get (D := (dC, dI)) (ci := 10) (v := .ref jW) (C := RX10) (T := TX10) (N := 51) hx hb hts i_X10 hown hK hP 0 rfl rfl 9 (Nat.le_of_ble_eq_true rfl) (hts _ q_765) (fun _ h9 => h9) rfl eX10_leanOf_0.2.2.2.2.2.2.2.2.2.1 ?_
    refine lv_iconst (v := 0) hx hb eX10_leanOf_0.2.2.2.2.2.2.2.2.2.2.1 ic_0 ?_
    refine va_iald hx hb hK hP 5 0 rfl rfl (g_in rfl) eX10_leanOf_0.2.2.2.2.2.2.2.2.2.2.2.1 ?_
    refine lv_topi (fun v_1 ev_1 => ?_)
    have hp := hp v_1 ev_1
    refine lv_iload_n hx hb eX10_leanOf_0.2.2.2.2.2.2.2.2.2.2.2.2.1 rfl (lv_at hl 3 rfl) ?_
    refine lv_iadd hx hb eX10_leanOf_0.2.2.2.2.2.2.2.2.2.2.2.2.2.1 ?_
    refine lv_topi (fun v_2 ev_2 => ?_)
    have hp := hp v_2 ev_2
    have hm := mgk (wc := (wd_X10_isWithin cI cC cZ cB cJ a_m oJ uD dY iJ lJ jQ jR jW jK pJ bM aY jO gR gY mK jZ iY bG mJ jB mQ lY eJ bY bW aG jG bQ dG jY m_length qG uW eY aJ aB bU dN aR aE bJ aW bT gJ dU bL bR bO mY pW m_x jA oY pR)) hP mk_122 6 rfl rfl rfl
    refine g_calli hP hD hS hA (mixT mk_122) (mixF mk_122) hm.1 hm.2 (nd_F _) (dis_g _) (g_runV (As := [.int x1, .int x2, .int v_2]) (rest := []) C0 hP hD hS (mixT mk_122) hm.1 (nd_T _) 0 10 rfl rfl (c_X10_isWithin l dC dI cI cC cZ cB cJ a_m oJ uD dY iJ lJ jQ jR jW jK pJ bM aY jO gR gY mK jZ iY bG mJ jB mQ lY eJ bY H.size x1 x2 v_2 bW aG jG bQ dG jY m_length qG uW eY aJ aB bU dN aR aE bJ aW bT gJ dU bL bR bO mY pW m_x jA oY pR _ hp) q_799 q_802 q_800 q_801 q_642 h_X10_isWithin rfl rfl ⟨Nat.le_of_ble_eq_true rfl, Nat.le_of_ble_eq_true rfl⟩ rfl rfl hl.1 rfl (lv_room (Nat.le_of_ble_eq_true rfl)) eX10_leanOf_0.2.2.2.2.2.2.2.2.2.2.2.2.2.2.1 ⟨Nat.zero_le _, Nat.zero_le _⟩) (fun r_3 u H locs hp hP hD hS => ?_)
    have hPD := PDm (ws' := (wd_X10_leanOf cI cC cZ cB cJ a_m oJ uD dY iJ lJ jQ jR jW jK pJ bM aY jO gR gY mK jZ iY bG mJ jB mQ lY eJ bY bW aG jG bQ dG jY m_length qG uW eY aJ aB bU dN aR aE bJ aW bT gJ dU bL bR bO mY pW m_x jA oY pR pX)) hP hD 6 rfl rfl rfl
    have hP := hPD.1
    have hD := hPD.2
    refine lv_if_ne (tgt := 31) hx hb eX10_leanOf_0.2.2.2.2.2.2.2.2.2.2.2.2.2.2.2 (by decide) (fun hc => ?_) (fun hc => ?_)
    · have hp := hp.1 hc
      refine lv_iload_n hx hb eX10_leanOf_25.2.2.1 rfl (lv_at hl 3 rfl) ?_
      exact W.iret (v := x3) hx hb hr (fun t ht hW => ⟨⟨x3, (), rfl, hp, by rw [ht]; exact hP, va_K.moved hW.alike hK, hD⟩, hS.F ht⟩) hS.2.2 eX10_leanOf_25.2.2.2
    · have hp := hp.2 hc
      obtain ⟨v_4, ev_4⟩ : ∃ y : Int32, y = x3 + 1 := ⟨_, rfl⟩
      refine lv_iinc (v := v_4) (lv' := [(3, .int v_4), (0, .ref a_m), (1, .int x1), (2, .int x2)]) hx hb eX10_leanOf_25.1 hl (k := 3) rfl (by rw [ev_4]; rfl) (by decide) rfl (fun ls hl => ?_)
      have hp := hp v_4 ev_4
      refine lv_goto (tgt := 2) hx hb eX10_leanOf_25.2.1 (by decide) ?_
      exact hKn x1 x2 v_4 H locs ls hp hP hD hS (lv_sub hl [1, 2, 3, 0] rfl)
set_option maxHeartbeats 4000000 in
set_option maxRecDepth 100000 in
theorem kb_X10_leanOf_2 (C0 : gc cX10_leanOf (some .int) 4 RX10 (dC, dI) (tyl cI cC cZ cB cJ) A p s m args meth c) : ∀ (n : Nat), ∀ (x1 x2 x3 : Int32) (H : Heap) (locs : List Loc) (ls : Array Slot), (wb_X10_leanOf_2 post m_x jA oY pR pX n) x1 x2 x3 → va_P (dC, dI) classes (wd_X10_leanOf cI cC cZ cB cJ a_m oJ uD dY iJ lJ jQ jR jW jK pJ bM aY jO gR gY mK jZ iY bG mJ jB mQ lY eJ bY bW aG jG bQ dG jY m_length qG uW eY aJ aB bU dN aR aE bJ aW bT gJ dU bL bR bO mY pW m_x jA oY pR pX) H → va_D A (wd_X10_leanOf cI cC cZ cB cJ a_m oJ uD dY iJ lJ jQ jR jW jK pJ bM aY jO gR gY mK jZ iY bG mJ jB mQ lY eJ bY bW aG jG bQ dG jY m_length qG uW eY aJ aB bU dN aR aE bJ aW bT gJ dU bL bR bO mY pW m_x jA oY pR pX) → va_S A s.heap H locs → lv_has ls 4 [(0, .ref a_m), (1, .int x1), (2, .int x2), (3, .int x3)] → W p l e rm_X10_leanOf s m args below meth c H locs 0 0 (MQ below (q_X10_leanOf dC dI cI cC cZ cB cJ A a_m oJ uD dY iJ lJ jQ jR jW jK pJ bM aY jO gR gY mK jZ iY bG mJ jB mQ lY eJ bY bW aG jG bQ dG jY m_length qG uW eY aJ aB bU dN aR aE bJ aW bT gJ dU bL bR bO mY pW m_x jA oY pR pX post) args s 0 0 A) (F0 m 2 ls []) := by
  intro n
  induction n with
  | zero =>
    intro x1 x2 x3 H locs ls hp
    exact False.elim hp
  | succ n ih =>
    intro x1 x2 x3 H locs ls hp
    exact ks_X10_leanOf_2 C0 ih x1 x2 x3 H locs ls hp
end S_X10_leanOf
noncomputable def wp_X10_leanOf (post : Int32 → Prop) (p0 p1 : Int32) (m_x jA oY pR pX : Nat → Int32) : Prop := ∃ n : Nat, wb_X10_leanOf_2 post m_x jA oY pR pX n p0 p1 0
set_option maxHeartbeats 4000000 in
set_option maxRecDepth 100000 in
theorem c_X10_leanOf (l : Launch) (dC : Nat → ClassId) (dI : Nat → Nat → Nat) (cI cC cZ cB cJ : ClassId) (a_m oJ uD dY iJ lJ jQ jR jW jK pJ bM aY jO gR gY mK jZ iY bG mJ jB mQ lY eJ bY sz : Nat) (p0 p1 bW aG jG bQ dG : Int32) (jY : Nat) (m_length qG uW eY aJ aB bU dN aR aE bJ aW bT gJ dU bL bR bO mY pW : Int32) (m_x jA oY pR pX : Nat → Int32) (post : Int32 → Prop) (hw : wp_X10_leanOf post p0 p1 m_x jA oY pR pX) : Met l yX10_leanOf (gw yX10_leanOf cX10_leanOf 4 (some .int)) rm_X10_leanOf (va_Pc [.ref a_m, .int p0, .int p1] (gPre (dC, dI) (tyl cI cC cZ cB cJ) (wd_X10_leanOf cI cC cZ cB cJ a_m oJ uD dY iJ lJ jQ jR jW jK pJ bM aY jO gR gY mK jZ iY bG mJ jB mQ lY eJ bY bW aG jG bQ dG jY m_length qG uW eY aJ aB bU dN aR aE bJ aW bT gJ dU bL bR bO mY pW m_x jA oY pR pX) sz)) (q_X10_leanOf dC dI cI cC cZ cB cJ (va_A (wd_X10_leanOf cI cC cZ cB cJ a_m oJ uD dY iJ lJ jQ jR jW jK pJ bM aY jO gR gY mK jZ iY bG mJ jB mQ lY eJ bY bW aG jG bQ dG jY m_length qG uW eY aJ aB bU dN aR aE bJ aW bT gJ dU bL bR bO mY pW m_x jA oY pR pX) sz) a_m oJ uD dY iJ lJ jQ jR jW jK pJ bM aY jO gR gY mK jZ iY bG mJ jB mQ lY eJ bY bW aG jG bQ dG jY m_length qG uW eY aJ aB bU dN aR aE bJ aW bT gJ dU bL bR bO mY pW m_x jA oY pR pX post) 0 0 (va_A (wd_X10_leanOf cI cC cZ cB cJ a_m oJ uD dY iJ lJ jQ jR jW jK pJ bM aY jO gR gY mK jZ iY bG mJ jB mQ lY eJ bY bW aG jG bQ dG jY m_length qG uW eY aJ aB bU dN aR aE bJ aW bT gJ dU bL bR bO mY pW m_x jA oY pR pX) sz) := by
  refine g_enter (own := RX10) (dC, dI) (tyl cI cC cZ cB cJ) (wd_X10_leanOf cI cC cZ cB cJ a_m oJ uD dY iJ lJ jQ jR jW jK pJ bM aY jO gR gY mK jZ iY bG mJ jB mQ lY eJ bY bW aG jG bQ dG jY m_length qG uW eY aJ aB bU dN aR aE bJ aW bT gJ dU bL bR bO mY pW m_x jA oY pR pX) sz [.ref a_m, .int p0, .int p1] (fun A => q_X10_leanOf dC dI cI cC cZ cB cJ A a_m oJ uD dY iJ lJ jQ jR jW jK pJ bM aY jO gR gY mK jZ iY bG mJ jB mQ lY eJ bY bW aG jG bQ dG jY m_length qG uW eY aJ aB bU dN aR aE bJ aW bT gJ dU bL bR bO mY pW m_x jA oY pR pX post) pn_RX10 rfl (Nat.le_of_ble_eq_true rfl) ?_
  intro p e s m args below meth c A H locs ls C0 hP hD hS hl
  have hl : lv_has ls 4 [(0, .ref a_m), (1, .int p0), (2, .int p1)] := hl
  obtain ⟨hx, hb, hr, hml, hown, hts, hlocks, hA, hK, hN, tL, tM, hZL, hTL, hZM, hTM, hZX⟩ := id C0
  have hp := hw
  unfold wp_X10_leanOf at hp
  refine lv_iconst (v := 0) hx hb eX10_leanOf_0.1 ic_0 ?_
  refine lv_istore_n (lv' := [(3, .int 0), (0, .ref a_m), (1, .int p0), (2, .int p1)]) hx hb eX10_leanOf_0.2.1 rfl hl (by decide) rfl (fun ls hl => ?_)
  obtain ⟨n9, hp⟩ := hp
  exact kb_X10_leanOf_2 C0 n9 p0 p1 0 H locs ls hp hP hD hS (lv_sub hl [1, 2, 3, 0] rfl)
noncomputable abbrev wd_X10_nearest (cI cC cZ cB cJ : ClassId) (a_m oJ uD dY iJ lJ jQ jR jW jK pJ bM aY jO gR gY mK jZ iY bG mJ jB mQ lY eJ bY : Nat) (bW aG jG bQ dG : Int32) (jY : Nat) (m_length qG uW eY aJ aB bU dN aR aE bJ aW bT gJ dU bL bR bO mY pW : Int32) (m_x jA oY pR pX uM : Nat → Int32) : va_W := [(a_m, .inr (10, [.ref oJ, .int bW, .ref uD, .ref dY, .ref iJ, .ref lJ, .int aG, .ref jQ, .ref jR, .ref jW, .ref jK, .int jG, .ref pJ, .int bQ, .int dG, rdv jK jO jY, .int m_length, .int qG, .int uW, .int eY, .ref bM, .ref aY, .int aJ, .int aB, .ref jO, .int bU, .int dN, .int aR, .int aE, .int bJ, .int aW, .ref gR, .int bT, .ref gY, .ref mK, .int gJ, .ref jZ, .int dU, .ref iY, .ref bG, .int bL, .int bR, .int bO, .ref mJ, .ref jB, .ref mQ, .int mY, .int pW, .ref lY, .ref eJ, .ref bY])), (uD, .inl (cI, 16, .inl m_x)), (dY, .inl (cI, 16, .inl jA)), (jQ, .inl (cI, 8, .inl oY)), (jR, .inl (cI, 8, .inl pR)), (jW, .inl (cI, 5, .inl pX)), (pJ, .inl (cI, 32, .inl uM))]
noncomputable abbrev q_X10_nearest (dC : Nat → ClassId) (dI : Nat → Nat → Nat) (cI cC cZ cB cJ : ClassId) (A : Nat → Prop) (a_m oJ uD dY iJ lJ jQ jR jW jK pJ bM aY jO gR gY mK jZ iY bG mJ jB mQ lY eJ bY : Nat) (bW aG jG : Int32) (jY : Nat) (m_length qG uW eY aJ aB bU dN aR aE bJ aW bT gJ dU bL bR bO mY pW : Int32) (m_x jA oY pR pX : Nat → Int32) (post : Int32 → Int32 → Int32 → (Nat → Int32) → Prop) : Array Value → State → Outcome → State → Prop := va_Qi (fun (r : Int32) (u : Int32 × Int32 × (Nat → Int32)) => post r u.1 u.2.1 u.2.2) (fun u t => gB (dC, dI) (tyl cI cC cZ cB cJ) A (wd_X10_nearest cI cC cZ cB cJ a_m oJ uD dY iJ lJ jQ jR jW jK pJ bM aY jO gR gY mK jZ iY bG mJ jB mQ lY eJ bY bW aG jG u.1 u.2.1 jY m_length qG uW eY aJ aB bU dN aR aE bJ aW bT gJ dU bL bR bO mY pW m_x jA oY pR pX u.2.2) t) A
noncomputable abbrev rm_X10_nearest : Room := { frames := 4, cells := 0, slots := 0, locals := 89 }
section S_X10_nearest
variable {p : Program} {l : Launch} {e : Env} {s : State} {m : MethodId} {args : Array Value} {below : List Frame} {meth : Method} {c : Code} {dC : Nat → ClassId} {dI : Nat → Nat → Nat} {cI cC cZ cB cJ : ClassId} {A : Nat → Prop} {a_m oJ uD dY iJ lJ jQ jR jW jK pJ bM aY jO gR gY mK jZ iY bG mJ jB mQ lY eJ bY : Nat} {bW aG jG : Int32} {jY : Nat} {m_length qG uW eY aJ aB bU dN aR aE bJ aW bT gJ dU bL bR bO mY pW : Int32} {m_x jA oY pR pX : Nat → Int32} {post : Int32 → Int32 → Int32 → (Nat → Int32) → Prop}
noncomputable def ws_X10_nearest_60 (post : Int32 → Int32 → Int32 → (Nat → Int32) → Prop) (K20 : Int32 → Int32 → Int32 → Int32 → Int32 → (Nat → Int32) → Prop) (bW aG : Int32) (m_x jA oY pR pX : Nat → Int32) (x1 x2 x3 bQ dG : Int32) (uM : Nat → Int32) : Prop := ∀ v_6 : Int32, v_6 = x3 + 1 → K20 x1 x2 v_6 bQ dG uM
set_option maxHeartbeats 4000000 in
set_option maxRecDepth 100000 in
theorem ks_X10_nearest_60 (C0 : gc cX10_nearest (some .int) 4 RX10 (dC, dI) (tyl cI cC cZ cB cJ) A p s m args meth c) {K20 : Int32 → Int32 → Int32 → Int32 → Int32 → (Nat → Int32) → Prop} (hK20 : ∀ (x1 : Int32) (x2 : Int32) (x3 : Int32) (bQ : Int32) (dG : Int32) (uM : Nat → Int32) (H : Heap) (locs : List Loc) (ls : Array Slot), K20 x1 x2 x3 bQ dG uM → va_P (dC, dI) classes (wd_X10_nearest cI cC cZ cB cJ a_m oJ uD dY iJ lJ jQ jR jW jK pJ bM aY jO gR gY mK jZ iY bG mJ jB mQ lY eJ bY bW aG jG bQ dG jY m_length qG uW eY aJ aB bU dN aR aE bJ aW bT gJ dU bL bR bO mY pW m_x jA oY pR pX uM) H → va_D A (wd_X10_nearest cI cC cZ cB cJ a_m oJ uD dY iJ lJ jQ jR jW jK pJ bM aY jO gR gY mK jZ iY bG mJ jB mQ lY eJ bY bW aG jG bQ dG jY m_length qG uW eY aJ aB bU dN aR aE bJ aW bT gJ dU bL bR bO mY pW m_x jA oY pR pX uM) → va_S A s.heap H locs → lv_has ls 4 [(0, .ref a_m), (1, .int x1), (2, .int x2), (3, .int x3)] → W p l e rm_X10_nearest s m args below meth c H locs 0 0 (MQ below (q_X10_nearest dC dI cI cC cZ cB cJ A a_m oJ uD dY iJ lJ jQ jR jW jK pJ bM aY jO gR gY mK jZ iY bG mJ jB mQ lY eJ bY bW aG jG jY m_length qG uW eY aJ aB bU dN aR aE bJ aW bT gJ dU bL bR bO mY pW m_x jA oY pR pX post) args s 0 0 A) (F0 m 20 ls [])) : ∀ (x1 x2 x3 bQ dG : Int32) (uM : Nat → Int32) (H : Heap) (locs : List Loc) (ls : Array Slot), (ws_X10_nearest_60 post K20 bW aG m_x jA oY pR pX) x1 x2 x3 bQ dG uM → va_P (dC, dI) classes (wd_X10_nearest cI cC cZ cB cJ a_m oJ uD dY iJ lJ jQ jR jW jK pJ bM aY jO gR gY mK jZ iY bG mJ jB mQ lY eJ bY bW aG jG bQ dG jY m_length qG uW eY aJ aB bU dN aR aE bJ aW bT gJ dU bL bR bO mY pW m_x jA oY pR pX uM) H → va_D A (wd_X10_nearest cI cC cZ cB cJ a_m oJ uD dY iJ lJ jQ jR jW jK pJ bM aY jO gR gY mK jZ iY bG mJ jB mQ lY eJ bY bW aG jG bQ dG jY m_length qG uW eY aJ aB bU dN aR aE bJ aW bT gJ dU bL bR bO mY pW m_x jA oY pR pX uM) → va_S A s.heap H locs → lv_has ls 4 [(0, .ref a_m), (1, .int x1), (2, .int x2), (3, .int x3)] → W p l e rm_X10_nearest s m args below meth c H locs 0 0 (MQ below (q_X10_nearest dC dI cI cC cZ cB cJ A a_m oJ uD dY iJ lJ jQ jR jW jK pJ bM aY jO gR gY mK jZ iY bG mJ jB mQ lY eJ bY bW aG jG jY m_length qG uW eY aJ aB bU dN aR aE bJ aW bT gJ dU bL bR bO mY pW m_x jA oY pR pX post) args s 0 0 A) (F0 m 60 ls []) := by
  obtain ⟨hx, hb, hr, hml, hown, hts, hlocks, hA, hK, hN, tL, tM, hZL, hTL, hZM, hTM, hZX⟩ := id C0
  intro x1 x2 x3 bQ dG uM H locs ls hp hP hD hS hl
  unfold ws_X10_nearest_60 at hp
  obtain ⟨v_6, ev_6⟩ : ∃ y : Int32, y = x3 + 1 := ⟨_, rfl⟩
  refine lv_iinc (v := v_6) (lv' := [(3, .int v_6), (0, .ref a_m), (1, .int x1), (2, .int x2)]) hx hb eX10_nearest_52.2.2.2.2.1 hl (k := 3) rfl (by rw [ev_6]; rfl) (by decide) rfl (fun ls hl => ?_)
  have hp := hp v_6 ev_6
  refine lv_goto (tgt := 20) hx hb eX10_nearest_52.2.2.2.2.2.1 (by decide) ?_
  exact hK20 x1 x2 v_6 bQ dG uM H locs ls hp hP hD hS (lv_sub hl [1, 2, 3, 0] rfl)
noncomputable def ws_X10_nearest_58 (post : Int32 → Int32 → Int32 → (Nat → Int32) → Prop) (K20 : Int32 → Int32 → Int32 → Int32 → Int32 → (Nat → Int32) → Prop) (bW aG : Int32) (m_x jA oY pR pX : Nat → Int32) (x1 x3 bQ dG : Int32) (uM : Nat → Int32) : Prop := ws_X10_nearest_60 post K20 bW aG m_x jA oY pR pX x1 x3 x3 bQ dG uM
set_option maxHeartbeats 4000000 in
set_option maxRecDepth 100000 in
theorem ks_X10_nearest_58 (C0 : gc cX10_nearest (some .int) 4 RX10 (dC, dI) (tyl cI cC cZ cB cJ) A p s m args meth c) {K20 : Int32 → Int32 → Int32 → Int32 → Int32 → (Nat → Int32) → Prop} (hK20 : ∀ (x1 : Int32) (x2 : Int32) (x3 : Int32) (bQ : Int32) (dG : Int32) (uM : Nat → Int32) (H : Heap) (locs : List Loc) (ls : Array Slot), K20 x1 x2 x3 bQ dG uM → va_P (dC, dI) classes (wd_X10_nearest cI cC cZ cB cJ a_m oJ uD dY iJ lJ jQ jR jW jK pJ bM aY jO gR gY mK jZ iY bG mJ jB mQ lY eJ bY bW aG jG bQ dG jY m_length qG uW eY aJ aB bU dN aR aE bJ aW bT gJ dU bL bR bO mY pW m_x jA oY pR pX uM) H → va_D A (wd_X10_nearest cI cC cZ cB cJ a_m oJ uD dY iJ lJ jQ jR jW jK pJ bM aY jO gR gY mK jZ iY bG mJ jB mQ lY eJ bY bW aG jG bQ dG jY m_length qG uW eY aJ aB bU dN aR aE bJ aW bT gJ dU bL bR bO mY pW m_x jA oY pR pX uM) → va_S A s.heap H locs → lv_has ls 4 [(0, .ref a_m), (1, .int x1), (2, .int x2), (3, .int x3)] → W p l e rm_X10_nearest s m args below meth c H locs 0 0 (MQ below (q_X10_nearest dC dI cI cC cZ cB cJ A a_m oJ uD dY iJ lJ jQ jR jW jK pJ bM aY jO gR gY mK jZ iY bG mJ jB mQ lY eJ bY bW aG jG jY m_length qG uW eY aJ aB bU dN aR aE bJ aW bT gJ dU bL bR bO mY pW m_x jA oY pR pX post) args s 0 0 A) (F0 m 20 ls [])) : ∀ (x1 x3 bQ dG : Int32) (uM : Nat → Int32) (H : Heap) (locs : List Loc) (ls : Array Slot), (ws_X10_nearest_58 post K20 bW aG m_x jA oY pR pX) x1 x3 bQ dG uM → va_P (dC, dI) classes (wd_X10_nearest cI cC cZ cB cJ a_m oJ uD dY iJ lJ jQ jR jW jK pJ bM aY jO gR gY mK jZ iY bG mJ jB mQ lY eJ bY bW aG jG bQ dG jY m_length qG uW eY aJ aB bU dN aR aE bJ aW bT gJ dU bL bR bO mY pW m_x jA oY pR pX uM) H → va_D A (wd_X10_nearest cI cC cZ cB cJ a_m oJ uD dY iJ lJ jQ jR jW jK pJ bM aY jO gR gY mK jZ iY bG mJ jB mQ lY eJ bY bW aG jG bQ dG jY m_length qG uW eY aJ aB bU dN aR aE bJ aW bT gJ dU bL bR bO mY pW m_x jA oY pR pX uM) → va_S A s.heap H locs → lv_has ls 4 [(0, .ref a_m), (1, .int x1), (3, .int x3)] → W p l e rm_X10_nearest s m args below meth c H locs 0 0 (MQ below (q_X10_nearest dC dI cI cC cZ cB cJ A a_m oJ uD dY iJ lJ jQ jR jW jK pJ bM aY jO gR gY mK jZ iY bG mJ jB mQ lY eJ bY bW aG jG jY m_length qG uW eY aJ aB bU dN aR aE bJ aW bT gJ dU bL bR bO mY pW m_x jA oY pR pX post) args s 0 0 A) (F0 m 58 ls []) := by
  obtain ⟨hx, hb, hr, hml, hown, hts, hlocks, hA, hK, hN, tL, tM, hZL, hTL, hZM, hTM, hZX⟩ := id C0
  intro x1 x3 bQ dG uM H locs ls hp hP hD hS hl
  unfold ws_X10_nearest_58 at hp
  refine lv_iload_n hx hb eX10_nearest_52.2.2.1 rfl (lv_at hl 2 rfl) ?_
  refine lv_istore_n (lv' := [(2, .int x3), (0, .ref a_m), (1, .int x1), (3, .int x3)]) hx hb eX10_nearest_52.2.2.2.1 rfl hl (by decide) rfl (fun ls hl => ?_)
  exact ks_X10_nearest_60 C0 hK20 x1 x3 x3 bQ dG uM H locs ls hp hP hD hS (lv_sub hl [1, 2, 0, 3] rfl)
noncomputable def ws_X10_nearest_20 (post : Int32 → Int32 → Int32 → (Nat → Int32) → Prop) (next : Int32 → Int32 → Int32 → Int32 → Int32 → (Nat → Int32) → Prop) (bW aG : Int32) (m_x jA oY pR pX : Nat → Int32) (x1 x2 x3 bQ dG : Int32) (uM : Nat → Int32) : Prop := (aG ≤ x3 → (0 ≤ x2 → wp_X10_leanOf (fun r_2 => wp_X10_tell (fun aAs aEF => post x2 aAs dG aEF) r_2 0 uM) x1 x2 m_x jA oY pR pX) ∧ (¬ 0 ≤ x2 → post (-2) bQ dG uM)) ∧ (¬ aG ≤ x3 → wp_X10_leanOf (fun r_5 => (30 < r_5 → ws_X10_nearest_60 post next bW aG m_x jA oY pR pX x1 x2 x3 bQ dG uM) ∧ (¬ 30 < r_5 → (x2 < 0 → ws_X10_nearest_58 post next bW aG m_x jA oY pR pX x1 x3 bQ dG uM) ∧ (¬ x2 < 0 → wp_X10_leanOf (fun r_7 => wp_X10_leanOf (fun r_8 => (r_8 ≤ r_7 → ws_X10_nearest_60 post next bW aG m_x jA oY pR pX x1 x2 x3 bQ dG uM) ∧ (¬ r_8 ≤ r_7 → ws_X10_nearest_58 post next bW aG m_x jA oY pR pX x1 x3 bQ dG uM)) x1 x2 m_x jA oY pR pX) x1 x3 m_x jA oY pR pX))) x1 x3 m_x jA oY pR pX)
noncomputable def wb_X10_nearest_20 (post : Int32 → Int32 → Int32 → (Nat → Int32) → Prop) (bW aG : Int32) (m_x jA oY pR pX : Nat → Int32) : Nat → Int32 → Int32 → Int32 → Int32 → Int32 → (Nat → Int32) → Prop := fun n => Nat.rec (motive := fun _ => Int32 → Int32 → Int32 → Int32 → Int32 → (Nat → Int32) → Prop) (fun _ _ _ _ _ _ => False) (fun _ ih => ws_X10_nearest_20 post ih bW aG m_x jA oY pR pX) n
set_option maxHeartbeats 4000000 in
set_option maxRecDepth 100000 in
theorem ks_X10_nearest_20 (C0 : gc cX10_nearest (some .int) 4 RX10 (dC, dI) (tyl cI cC cZ cB cJ) A p s m args meth c) {next : Int32 → Int32 → Int32 → Int32 → Int32 → (Nat → Int32) → Prop} (hKn : ∀ (x1 : Int32) (x2 : Int32) (x3 : Int32) (bQ : Int32) (dG : Int32) (uM : Nat → Int32) (H : Heap) (locs : List Loc) (ls : Array Slot), next x1 x2 x3 bQ dG uM → va_P (dC, dI) classes (wd_X10_nearest cI cC cZ cB cJ a_m oJ uD dY iJ lJ jQ jR jW jK pJ bM aY jO gR gY mK jZ iY bG mJ jB mQ lY eJ bY bW aG jG bQ dG jY m_length qG uW eY aJ aB bU dN aR aE bJ aW bT gJ dU bL bR bO mY pW m_x jA oY pR pX uM) H → va_D A (wd_X10_nearest cI cC cZ cB cJ a_m oJ uD dY iJ lJ jQ jR jW jK pJ bM aY jO gR gY mK jZ iY bG mJ jB mQ lY eJ bY bW aG jG bQ dG jY m_length qG uW eY aJ aB bU dN aR aE bJ aW bT gJ dU bL bR bO mY pW m_x jA oY pR pX uM) → va_S A s.heap H locs → lv_has ls 4 [(0, .ref a_m), (1, .int x1), (2, .int x2), (3, .int x3)] → W p l e rm_X10_nearest s m args below meth c H locs 0 0 (MQ below (q_X10_nearest dC dI cI cC cZ cB cJ A a_m oJ uD dY iJ lJ jQ jR jW jK pJ bM aY jO gR gY mK jZ iY bG mJ jB mQ lY eJ bY bW aG jG jY m_length qG uW eY aJ aB bU dN aR aE bJ aW bT gJ dU bL bR bO mY pW m_x jA oY pR pX post) args s 0 0 A) (F0 m 20 ls [])) : ∀ (x1 x2 x3 bQ dG : Int32) (uM : Nat → Int32) (H : Heap) (locs : List Loc) (ls : Array Slot), (ws_X10_nearest_20 post next bW aG m_x jA oY pR pX) x1 x2 x3 bQ dG uM → va_P (dC, dI) classes (wd_X10_nearest cI cC cZ cB cJ a_m oJ uD dY iJ lJ jQ jR jW jK pJ bM aY jO gR gY mK jZ iY bG mJ jB mQ lY eJ bY bW aG jG bQ dG jY m_length qG uW eY aJ aB bU dN aR aE bJ aW bT gJ dU bL bR bO mY pW m_x jA oY pR pX uM) H → va_D A (wd_X10_nearest cI cC cZ cB cJ a_m oJ uD dY iJ lJ jQ jR jW jK pJ bM aY jO gR gY mK jZ iY bG mJ jB mQ lY eJ bY bW aG jG bQ dG jY m_length qG uW eY aJ aB bU dN aR aE bJ aW bT gJ dU bL bR bO mY pW m_x jA oY pR pX uM) → va_S A s.heap H locs → lv_has ls 4 [(0, .ref a_m), (1, .int x1), (2, .int x2), (3, .int x3)] → W p l e rm_X10_nearest s m args below meth c H locs 0 0 (MQ below (q_X10_nearest dC dI cI cC cZ cB cJ A a_m oJ uD dY iJ lJ jQ jR jW jK pJ bM aY jO gR gY mK jZ iY bG mJ jB mQ lY eJ bY bW aG jG jY m_length qG uW eY aJ aB bU dN aR aE bJ aW bT gJ dU bL bR bO mY pW m_x jA oY pR pX post) args s 0 0 A) (F0 m 20 ls []) := by
  obtain ⟨hx, hb, hr, hml, hown, hts, hlocks, hA, hK, hN, tL, tM, hZL, hTL, hZM, hTM, hZX⟩ := id C0
  intro x1 x2 x3 bQ dG uM H locs ls hp hP hD hS hl
  unfold ws_X10_nearest_20 at hp
  refine lv_iload_n hx hb eX10_nearest_0.2.2.2.2.2.2.2.2.2.2.2.2.2.1 rfl (lv_at hl 3 rfl) ?_
  refine lv_aload_n hx hb eX10_nearest_0.2.2.2.2.2.2.2.2.2.2.2.2.2.2.1 rfl (lv_at hl 0 rfl) ?_
  refine va_get (D := (dC, dI)) (ci := 10) (v := .int aG) (C := RX10) (T := TX10) (N := 51) hx hb hts i_X10 hown hK hP 0 rfl rfl 6 (Nat.le_of_ble_eq_true rfl) (hts _ q_666) (fun _ h9 => h9) rfl eX10_nearest_0.2.2.2.2.2.2.2.2.2.2.2.2.2.2.2 ?_
  refine lv_icmp_ge (tgt := 66) hx hb eX10_nearest_25.1 (by decide) (fun hc => ?_) (fun hc => ?_)
  · have hp := hp.1 hc
    refine lv_iload_n hx hb eX10_nearest_52.2.2.2.2.2.2.1 rfl (lv_at hl 2 rfl) ?_
    refine lv_if_ge (tgt := 73) hx hb eX10_nearest_52.2.2.2.2.2.2.2.1 (by decide) (fun hc => ?_) (fun hc => ?_)
    · have hp := hp.1 hc
      refine lv_aload_n hx hb eX10_nearest_52.2.2.2.2.2.2.2.2.2.2.1 rfl (lv_at hl 0 rfl) ?_
      refine lv_iconst (v := 0) hx hb eX10_nearest_52.2.2.2.2.2.2.2.2.2.2.2.1 ic_0 ?_
      refine va_put (D := (dC, dI)) (ci := 10) (v := .int 0) (ty := .int) (C := RX10) (T := TX10) (N := 51) hx hb hts i_X10 tyX10 tyX10_ok nmX10 hown hK hP hD hS 0 rfl rfl 13 (Nat.le_of_ble_eq_true rfl) (hts _ q_847) (fun _ h9 => h9) rfl (tyX10_ok 13 (Nat.le_of_ble_eq_true rfl)) rfl rfl (Nat.le_of_ble_eq_true rfl) eX10_nearest_52.2.2.2.2.2.2.2.2.2.2.2.2.1 (fun H locs hP hD hS => ?_)
      have hP : va_P (dC, dI) classes (wd_X10_nearest cI cC cZ cB cJ a_m oJ uD dY iJ lJ jQ jR jW jK pJ bM aY jO gR gY mK jZ iY bG mJ jB mQ lY eJ bY bW aG jG 0 dG jY m_length qG uW eY aJ aB bU dN aR aE bJ aW bT gJ dU bL bR bO mY pW m_x jA oY pR pX uM) H := hP
      have hD : va_D A (wd_X10_nearest cI cC cZ cB cJ a_m oJ uD dY iJ lJ jQ jR jW jK pJ bM aY jO gR gY mK jZ iY bG mJ jB mQ lY eJ bY bW aG jG 0 dG jY m_length qG uW eY aJ aB bU dN aR aE bJ aW bT gJ dU bL bR bO mY pW m_x jA oY pR pX uM) := hD
      refine lv_aload_n hx hb eX10_nearest_52.2.2.2.2.2.2.2.2.2.2.2.2.2.1 rfl (lv_at hl 0 rfl) ?_
      refine lv_aload_n hx hb eX10_nearest_52.2.2.2.2.2.2.2.2.2.2.2.2.2.2.1 rfl (lv_at hl 0 rfl) ?_
      refine lv_iload_n hx hb eX10_nearest_52.2.2.2.2.2.2.2.2.2.2.2.2.2.2.2 rfl (lv_at hl 1 rfl) ?_
      refine lv_iload_n hx hb eX10_nearest_81.1 rfl (lv_at hl 2 rfl) ?_
      have hm := mgk (wc := (wd_X10_leanOf cI cC cZ cB cJ a_m oJ uD dY iJ lJ jQ jR jW jK pJ bM aY jO gR gY mK jZ iY bG mJ jB mQ lY eJ bY bW aG jG 0 dG jY m_length qG uW eY aJ aB bU dN aR aE bJ aW bT gJ dU bL bR bO mY pW m_x jA oY pR pX)) hP aEm 7 rfl rfl rfl
      refine g_calli hP hD hS hA (mixT aEm) (mixF aEm) hm.1 hm.2 (nd_F _) (dis_g _) (g_runV (As := [.int x1, .int x2]) (rest := [.ref a_m]) C0 hP hD hS (mixT aEm) hm.1 (nd_T _) 0 10 rfl rfl (c_X10_leanOf l dC dI cI cC cZ cB cJ a_m oJ uD dY iJ lJ jQ jR jW jK pJ bM aY jO gR gY mK jZ iY bG mJ jB mQ lY eJ bY H.size x1 x2 bW aG jG 0 dG jY m_length qG uW eY aJ aB bU dN aR aE bJ aW bT gJ dU bL bR bO mY pW m_x jA oY pR pX _ hp) q_887 q_890 q_888 q_889 q_642 h_X10_leanOf rfl rfl ⟨Nat.le_of_ble_eq_true rfl, Nat.le_of_ble_eq_true rfl⟩ rfl rfl hl.1 rfl (lv_room (Nat.le_of_ble_eq_true rfl)) eX10_nearest_81.2.1 ⟨Nat.zero_le _, Nat.zero_le _⟩) (fun r_2 u H locs hp hP hD hS => ?_)
      have hPD := PDm (ws' := (wd_X10_nearest cI cC cZ cB cJ a_m oJ uD dY iJ lJ jQ jR jW jK pJ bM aY jO gR gY mK jZ iY bG mJ jB mQ lY eJ bY bW aG jG 0 dG jY m_length qG uW eY aJ aB bU dN aR aE bJ aW bT gJ dU bL bR bO mY pW m_x jA oY pR pX uM)) hP hD 7 rfl rfl rfl
      have hP := hPD.1
      have hD := hPD.2
      have hm := mgk (wc := (wd_X10_tell cI cC cZ cB cJ a_m oJ uD dY iJ lJ jQ jR jW jK pJ bM aY jO gR gY mK jZ iY bG mJ jB mQ lY eJ bY bW aG jG 0 dG jY m_length qG uW eY aJ aB bU dN aR aE bJ aW bT gJ dU bL bR bO mY pW uM)) hP mk_242 7 rfl rfl rfl
      refine g_callv hP hD hS hA (mixT mk_242) (mixF mk_242) hm.1 hm.2 (nd_F _) (dis_g _) (g_runV (As := [.int r_2]) (rest := []) C0 hP hD hS (mixT mk_242) hm.1 (nd_T _) 0 10 rfl rfl (c_X10_tell l dC dI cI cC cZ cB cJ a_m oJ uD dY iJ lJ jQ jR jW jK pJ bM aY jO gR gY mK jZ iY bG mJ jB mQ lY eJ bY H.size r_2 bW aG jG 0 dG jY m_length qG uW eY aJ aB bU dN aR aE bJ aW bT gJ dU bL bR bO mY pW uM _ hp) q_849 q_852 q_850 q_851 q_642 h_X10_tell rfl rfl ⟨Nat.le_of_ble_eq_true rfl, Nat.le_of_ble_eq_true rfl⟩ rfl rfl hl.1 rfl (lv_room (Nat.le_of_ble_eq_true rfl)) eX10_nearest_81.2.2.1 ⟨Nat.zero_le _, Nat.zero_le _⟩) (fun u H locs hp hP hD hS => ?_)
      obtain ⟨aAs, aEF⟩ := u
      have hPD := PDm (ws' := (wd_X10_nearest cI cC cZ cB cJ a_m oJ uD dY iJ lJ jQ jR jW jK pJ bM aY jO gR gY mK jZ iY bG mJ jB mQ lY eJ bY bW aG jG aAs dG jY m_length qG uW eY aJ aB bU dN aR aE bJ aW bT gJ dU bL bR bO mY pW m_x jA oY pR pX aEF)) hP hD 7 rfl rfl rfl
      have hP := hPD.1
      have hD := hPD.2
      refine lv_iload_n hx hb eX10_nearest_81.2.2.2.1 rfl (lv_at hl 2 rfl) ?_
      exact W.iret (v := x2) hx hb hr (fun t ht hW => ⟨⟨x2, (aAs, dG, aEF), rfl, hp, by rw [ht]; exact hP, va_K.moved hW.alike hK, hD⟩, hS.F ht⟩) hS.2.2 eX10_nearest_81.2.2.2.2
    · have hp := hp.2 hc
      refine lv_bipush (v := (-2)) hx hb eX10_nearest_52.2.2.2.2.2.2.2.2.1 bp_m2 ?_
      exact W.iret (v := (-2)) hx hb hr (fun t ht hW => ⟨⟨(-2), (bQ, dG, uM), rfl, hp, by rw [ht]; exact hP, va_K.moved hW.alike hK, hD⟩, hS.F ht⟩) hS.2.2 eX10_nearest_52.2.2.2.2.2.2.2.2.2.1
  · have hp := hp.2 hc
    refine lv_aload_n hx hb eX10_nearest_25.2.1 rfl (lv_at hl 0 rfl) ?_
    refine lv_iload_n hx hb eX10_nearest_25.2.2.1 rfl (lv_at hl 1 rfl) ?_
    refine lv_iload_n hx hb eX10_nearest_25.2.2.2.1 rfl (lv_at hl 3 rfl) ?_
    have hm := mgk (wc := (wd_X10_leanOf cI cC cZ cB cJ a_m oJ uD dY iJ lJ jQ jR jW jK pJ bM aY jO gR gY mK jZ iY bG mJ jB mQ lY eJ bY bW aG jG bQ dG jY m_length qG uW eY aJ aB bU dN aR aE bJ aW bT gJ dU bL bR bO mY pW m_x jA oY pR pX)) hP aEm 7 rfl rfl rfl
    refine g_calli hP hD hS hA (mixT aEm) (mixF aEm) hm.1 hm.2 (nd_F _) (dis_g _) (g_runV (As := [.int x1, .int x3]) (rest := []) C0 hP hD hS (mixT aEm) hm.1 (nd_T _) 0 10 rfl rfl (c_X10_leanOf l dC dI cI cC cZ cB cJ a_m oJ uD dY iJ lJ jQ jR jW jK pJ bM aY jO gR gY mK jZ iY bG mJ jB mQ lY eJ bY H.size x1 x3 bW aG jG bQ dG jY m_length qG uW eY aJ aB bU dN aR aE bJ aW bT gJ dU bL bR bO mY pW m_x jA oY pR pX _ hp) q_887 q_890 q_888 q_889 q_642 h_X10_leanOf rfl rfl ⟨Nat.le_of_ble_eq_true rfl, Nat.le_of_ble_eq_true rfl⟩ rfl rfl hl.1 rfl (lv_room (Nat.le_of_ble_eq_true rfl)) eX10_nearest_25.2.2.2.2.1 ⟨Nat.zero_le _, Nat.zero_le _⟩) (fun r_5 u H locs hp hP hD hS => ?_)
    have hPD := PDm (ws' := (wd_X10_nearest cI cC cZ cB cJ a_m oJ uD dY iJ lJ jQ jR jW jK pJ bM aY jO gR gY mK jZ iY bG mJ jB mQ lY eJ bY bW aG jG bQ dG jY m_length qG uW eY aJ aB bU dN aR aE bJ aW bT gJ dU bL bR bO mY pW m_x jA oY pR pX uM)) hP hD 7 rfl rfl rfl
    have hP := hPD.1
    have hD := hPD.2
    refine lv_bipush (v := 30) hx hb eX10_nearest_25.2.2.2.2.2.1 bp_30 ?_
    refine lv_icmp_gt (tgt := 60) hx hb eX10_nearest_25.2.2.2.2.2.2.1 (by decide) (fun hc => ?_) (fun hc => ?_)
    · have hp := hp.1 hc
      exact ks_X10_nearest_60 C0 hKn x1 x2 x3 bQ dG uM H locs ls hp hP hD hS (lv_sub hl [0, 1, 2, 3] rfl)
    · have hp := hp.2 hc
      refine lv_iload_n hx hb eX10_nearest_25.2.2.2.2.2.2.2.1 rfl (lv_at hl 2 rfl) ?_
      refine lv_if_lt (tgt := 58) hx hb eX10_nearest_25.2.2.2.2.2.2.2.2.1 (by decide) (fun hc => ?_) (fun hc => ?_)
      · have hp := hp.1 hc
        exact ks_X10_nearest_58 C0 hKn x1 x3 bQ dG uM H locs ls hp hP hD hS (lv_sub hl [0, 1, 3] rfl)
      · have hp := hp.2 hc
        refine lv_aload_n hx hb eX10_nearest_25.2.2.2.2.2.2.2.2.2.1 rfl (lv_at hl 0 rfl) ?_
        refine lv_iload_n hx hb eX10_nearest_25.2.2.2.2.2.2.2.2.2.2.1 rfl (lv_at hl 1 rfl) ?_
        refine lv_iload_n hx hb eX10_nearest_25.2.2.2.2.2.2.2.2.2.2.2.1 rfl (lv_at hl 3 rfl) ?_
        have hm := mgk (wc := (wd_X10_leanOf cI cC cZ cB cJ a_m oJ uD dY iJ lJ jQ jR jW jK pJ bM aY jO gR gY mK jZ iY bG mJ jB mQ lY eJ bY bW aG jG bQ dG jY m_length qG uW eY aJ aB bU dN aR aE bJ aW bT gJ dU bL bR bO mY pW m_x jA oY pR pX)) hP aEm 7 rfl rfl rfl
        refine g_calli hP hD hS hA (mixT aEm) (mixF aEm) hm.1 hm.2 (nd_F _) (dis_g _) (g_runV (As := [.int x1, .int x3]) (rest := []) C0 hP hD hS (mixT aEm) hm.1 (nd_T _) 0 10 rfl rfl (c_X10_leanOf l dC dI cI cC cZ cB cJ a_m oJ uD dY iJ lJ jQ jR jW jK pJ bM aY jO gR gY mK jZ iY bG mJ jB mQ lY eJ bY H.size x1 x3 bW aG jG bQ dG jY m_length qG uW eY aJ aB bU dN aR aE bJ aW bT gJ dU bL bR bO mY pW m_x jA oY pR pX _ hp) q_887 q_890 q_888 q_889 q_642 h_X10_leanOf rfl rfl ⟨Nat.le_of_ble_eq_true rfl, Nat.le_of_ble_eq_true rfl⟩ rfl rfl hl.1 rfl (lv_room (Nat.le_of_ble_eq_true rfl)) eX10_nearest_25.2.2.2.2.2.2.2.2.2.2.2.2.1 ⟨Nat.zero_le _, Nat.zero_le _⟩) (fun r_7 u H locs hp hP hD hS => ?_)
        have hPD := PDm (ws' := (wd_X10_nearest cI cC cZ cB cJ a_m oJ uD dY iJ lJ jQ jR jW jK pJ bM aY jO gR gY mK jZ iY bG mJ jB mQ lY eJ bY bW aG jG bQ dG jY m_length qG uW eY aJ aB bU dN aR aE bJ aW bT gJ dU bL bR bO mY pW m_x jA oY pR pX uM)) hP hD 7 rfl rfl rfl
        have hP := hPD.1
        have hD := hPD.2
        refine lv_aload_n hx hb eX10_nearest_25.2.2.2.2.2.2.2.2.2.2.2.2.2.1 rfl (lv_at hl 0 rfl) ?_
        refine lv_iload_n hx hb eX10_nearest_25.2.2.2.2.2.2.2.2.2.2.2.2.2.2.1 rfl (lv_at hl 1 rfl) ?_
        refine lv_iload_n hx hb eX10_nearest_25.2.2.2.2.2.2.2.2.2.2.2.2.2.2.2 rfl (lv_at hl 2 rfl) ?_
        have hm := mgk (wc := (wd_X10_leanOf cI cC cZ cB cJ a_m oJ uD dY iJ lJ jQ jR jW jK pJ bM aY jO gR gY mK jZ iY bG mJ jB mQ lY eJ bY bW aG jG bQ dG jY m_length qG uW eY aJ aB bU dN aR aE bJ aW bT gJ dU bL bR bO mY pW m_x jA oY pR pX)) hP aEm 7 rfl rfl rfl
        refine g_calli hP hD hS hA (mixT aEm) (mixF aEm) hm.1 hm.2 (nd_F _) (dis_g _) (g_runV (As := [.int x1, .int x2]) (rest := [.int r_7]) C0 hP hD hS (mixT aEm) hm.1 (nd_T _) 0 10 rfl rfl (c_X10_leanOf l dC dI cI cC cZ cB cJ a_m oJ uD dY iJ lJ jQ jR jW jK pJ bM aY jO gR gY mK jZ iY bG mJ jB mQ lY eJ bY H.size x1 x2 bW aG jG bQ dG jY m_length qG uW eY aJ aB bU dN aR aE bJ aW bT gJ dU bL bR bO mY pW m_x jA oY pR pX _ hp) q_887 q_890 q_888 q_889 q_642 h_X10_leanOf rfl rfl ⟨Nat.le_of_ble_eq_true rfl, Nat.le_of_ble_eq_true rfl⟩ rfl rfl hl.1 rfl (lv_room (Nat.le_of_ble_eq_true rfl)) eX10_nearest_52.1 ⟨Nat.zero_le _, Nat.zero_le _⟩) (fun r_8 u H locs hp hP hD hS => ?_)
        have hPD := PDm (ws' := (wd_X10_nearest cI cC cZ cB cJ a_m oJ uD dY iJ lJ jQ jR jW jK pJ bM aY jO gR gY mK jZ iY bG mJ jB mQ lY eJ bY bW aG jG bQ dG jY m_length qG uW eY aJ aB bU dN aR aE bJ aW bT gJ dU bL bR bO mY pW m_x jA oY pR pX uM)) hP hD 7 rfl rfl rfl
        have hP := hPD.1
        have hD := hPD.2
        refine lv_icmp_ge (tgt := 60) hx hb eX10_nearest_52.2.1 (by decide) (fun hc => ?_) (fun hc => ?_)
        · have hp := hp.1 hc
          exact ks_X10_nearest_60 C0 hKn x1 x2 x3 bQ dG uM H locs ls hp hP hD hS (lv_sub hl [0, 1, 2, 3] rfl)
        · have hp := hp.2 hc
          exact ks_X10_nearest_58 C0 hKn x1 x3 bQ dG uM H locs ls hp hP hD hS (lv_sub hl [0, 1, 3] rfl)
set_option maxHeartbeats 4000000 in
set_option maxRecDepth 100000 in
theorem kb_X10_nearest_20 (C0 : gc cX10_nearest (some .int) 4 RX10 (dC, dI) (tyl cI cC cZ cB cJ) A p s m args meth c) : ∀ (n : Nat), ∀ (x1 x2 x3 bQ dG : Int32) (uM : Nat → Int32) (H : Heap) (locs : List Loc) (ls : Array Slot), (wb_X10_nearest_20 post bW aG m_x jA oY pR pX n) x1 x2 x3 bQ dG uM → va_P (dC, dI) classes (wd_X10_nearest cI cC cZ cB cJ a_m oJ uD dY iJ lJ jQ jR jW jK pJ bM aY jO gR gY mK jZ iY bG mJ jB mQ lY eJ bY bW aG jG bQ dG jY m_length qG uW eY aJ aB bU dN aR aE bJ aW bT gJ dU bL bR bO mY pW m_x jA oY pR pX uM) H → va_D A (wd_X10_nearest cI cC cZ cB cJ a_m oJ uD dY iJ lJ jQ jR jW jK pJ bM aY jO gR gY mK jZ iY bG mJ jB mQ lY eJ bY bW aG jG bQ dG jY m_length qG uW eY aJ aB bU dN aR aE bJ aW bT gJ dU bL bR bO mY pW m_x jA oY pR pX uM) → va_S A s.heap H locs → lv_has ls 4 [(0, .ref a_m), (1, .int x1), (2, .int x2), (3, .int x3)] → W p l e rm_X10_nearest s m args below meth c H locs 0 0 (MQ below (q_X10_nearest dC dI cI cC cZ cB cJ A a_m oJ uD dY iJ lJ jQ jR jW jK pJ bM aY jO gR gY mK jZ iY bG mJ jB mQ lY eJ bY bW aG jG jY m_length qG uW eY aJ aB bU dN aR aE bJ aW bT gJ dU bL bR bO mY pW m_x jA oY pR pX post) args s 0 0 A) (F0 m 20 ls []) := by
  intro n
  induction n with
  | zero =>
    intro x1 x2 x3 bQ dG uM H locs ls hp
    exact False.elim hp
  | succ n ih =>
    intro x1 x2 x3 bQ dG uM H locs ls hp
    exact ks_X10_nearest_20 C0 ih x1 x2 x3 bQ dG uM H locs ls hp
end S_X10_nearest
noncomputable def wp_X10_nearest (post : Int32 → Int32 → Int32 → (Nat → Int32) → Prop) (p0 bW aG bQ dG : Int32) (m_x jA oY pR pX uM : Nat → Int32) : Prop := wp_X10_isFruit (fun r_1 => (¬ r_1 = 0 → ∃ n : Nat, wb_X10_nearest_20 post bW aG m_x jA oY pR pX n p0 (-2) 0 bQ 0 uM) ∧ (r_1 = 0 → post (-1) bQ 0 uM)) p0 bW
set_option maxHeartbeats 4000000 in
set_option maxRecDepth 100000 in
theorem c_X10_nearest (l : Launch) (dC : Nat → ClassId) (dI : Nat → Nat → Nat) (cI cC cZ cB cJ : ClassId) (a_m oJ uD dY iJ lJ jQ jR jW jK pJ bM aY jO gR gY mK jZ iY bG mJ jB mQ lY eJ bY sz : Nat) (p0 bW aG jG bQ dG : Int32) (jY : Nat) (m_length qG uW eY aJ aB bU dN aR aE bJ aW bT gJ dU bL bR bO mY pW : Int32) (m_x jA oY pR pX uM : Nat → Int32) (post : Int32 → Int32 → Int32 → (Nat → Int32) → Prop) (hw : wp_X10_nearest post p0 bW aG bQ dG m_x jA oY pR pX uM) : Met l yX10_nearest (gw yX10_nearest cX10_nearest 4 (some .int)) rm_X10_nearest (va_Pc [.ref a_m, .int p0] (gPre (dC, dI) (tyl cI cC cZ cB cJ) (wd_X10_nearest cI cC cZ cB cJ a_m oJ uD dY iJ lJ jQ jR jW jK pJ bM aY jO gR gY mK jZ iY bG mJ jB mQ lY eJ bY bW aG jG bQ dG jY m_length qG uW eY aJ aB bU dN aR aE bJ aW bT gJ dU bL bR bO mY pW m_x jA oY pR pX uM) sz)) (q_X10_nearest dC dI cI cC cZ cB cJ (va_A (wd_X10_nearest cI cC cZ cB cJ a_m oJ uD dY iJ lJ jQ jR jW jK pJ bM aY jO gR gY mK jZ iY bG mJ jB mQ lY eJ bY bW aG jG bQ dG jY m_length qG uW eY aJ aB bU dN aR aE bJ aW bT gJ dU bL bR bO mY pW m_x jA oY pR pX uM) sz) a_m oJ uD dY iJ lJ jQ jR jW jK pJ bM aY jO gR gY mK jZ iY bG mJ jB mQ lY eJ bY bW aG jG jY m_length qG uW eY aJ aB bU dN aR aE bJ aW bT gJ dU bL bR bO mY pW m_x jA oY pR pX post) 0 0 (va_A (wd_X10_nearest cI cC cZ cB cJ a_m oJ uD dY iJ lJ jQ jR jW jK pJ bM aY jO gR gY mK jZ iY bG mJ jB mQ lY eJ bY bW aG jG bQ dG jY m_length qG uW eY aJ aB bU dN aR aE bJ aW bT gJ dU bL bR bO mY pW m_x jA oY pR pX uM) sz) := by
  refine g_enter (own := RX10) (dC, dI) (tyl cI cC cZ cB cJ) (wd_X10_nearest cI cC cZ cB cJ a_m oJ uD dY iJ lJ jQ jR jW jK pJ bM aY jO gR gY mK jZ iY bG mJ jB mQ lY eJ bY bW aG jG bQ dG jY m_length qG uW eY aJ aB bU dN aR aE bJ aW bT gJ dU bL bR bO mY pW m_x jA oY pR pX uM) sz [.ref a_m, .int p0] (fun A => q_X10_nearest dC dI cI cC cZ cB cJ A a_m oJ uD dY iJ lJ jQ jR jW jK pJ bM aY jO gR gY mK jZ iY bG mJ jB mQ lY eJ bY bW aG jG jY m_length qG uW eY aJ aB bU dN aR aE bJ aW bT gJ dU bL bR bO mY pW m_x jA oY pR pX post) pn_RX10 rfl (Nat.le_of_ble_eq_true rfl) ?_
  intro p e s m args below meth c A H locs ls C0 hP hD hS hl
  have hl : lv_has ls 4 [(0, .ref a_m), (1, .int p0)] := hl
  obtain ⟨hx, hb, hr, hml, hown, hts, hlocks, hA, hK, hN, tL, tM, hZL, hTL, hZM, hTM, hZX⟩ := id C0
  have hp := hw
  unfold wp_X10_nearest at hp
  refine lv_aload_n hx hb eX10_nearest_0.1 rfl (lv_at hl 0 rfl) ?_
  refine lv_iconst (v := 0) hx hb eX10_nearest_0.2.1 ic_0 ?_
  refine va_put (D := (dC, dI)) (ci := 10) (v := .int 0) (ty := .int) (C := RX10) (T := TX10) (N := 51) hx hb hts i_X10 tyX10 tyX10_ok nmX10 hown hK hP hD hS 0 rfl rfl 14 (Nat.le_of_ble_eq_true rfl) (hts _ q_638) (fun _ h9 => h9) rfl (tyX10_ok 14 (Nat.le_of_ble_eq_true rfl)) rfl rfl (Nat.le_of_ble_eq_true rfl) eX10_nearest_0.2.2.1 (fun H locs hP hD hS => ?_)
  have hP : va_P (dC, dI) classes (wd_X10_nearest cI cC cZ cB cJ a_m oJ uD dY iJ lJ jQ jR jW jK pJ bM aY jO gR gY mK jZ iY bG mJ jB mQ lY eJ bY bW aG jG bQ 0 jY m_length qG uW eY aJ aB bU dN aR aE bJ aW bT gJ dU bL bR bO mY pW m_x jA oY pR pX uM) H := hP
  have hD : va_D A (wd_X10_nearest cI cC cZ cB cJ a_m oJ uD dY iJ lJ jQ jR jW jK pJ bM aY jO gR gY mK jZ iY bG mJ jB mQ lY eJ bY bW aG jG bQ 0 jY m_length qG uW eY aJ aB bU dN aR aE bJ aW bT gJ dU bL bR bO mY pW m_x jA oY pR pX uM) := hD
  refine lv_aload_n hx hb eX10_nearest_0.2.2.2.1 rfl (lv_at hl 0 rfl) ?_
  refine lv_iload_n hx hb eX10_nearest_0.2.2.2.2.1 rfl (lv_at hl 1 rfl) ?_
  have hm := mgk (wc := (wd_X10_isFruit cI cC cZ cB cJ a_m oJ uD dY iJ lJ jQ jR jW jK pJ bM aY jO gR gY mK jZ iY bG mJ jB mQ lY eJ bY bW aG jG bQ 0 jY m_length qG uW eY aJ aB bU dN aR aE bJ aW bT gJ dU bL bR bO mY pW)) hP aCk 7 rfl rfl rfl
  refine g_calli hP hD hS hA (mixT aCk) (mixF aCk) hm.1 hm.2 (nd_F _) (dis_g _) (g_runV (As := [.int p0]) (rest := []) C0 hP hD hS (mixT aCk) hm.1 (nd_T _) 0 10 rfl rfl (c_X10_isFruit l dC dI cI cC cZ cB cJ a_m oJ uD dY iJ lJ jQ jR jW jK pJ bM aY jO gR gY mK jZ iY bG mJ jB mQ lY eJ bY H.size p0 bW aG jG bQ 0 jY m_length qG uW eY aJ aB bU dN aR aE bJ aW bT gJ dU bL bR bO mY pW _ hp) q_741 q_744 q_742 q_743 q_642 h_X10_isFruit rfl rfl ⟨Nat.le_of_ble_eq_true rfl, Nat.le_of_ble_eq_true rfl⟩ rfl rfl hl.1 rfl (lv_room (Nat.le_of_ble_eq_true rfl)) eX10_nearest_0.2.2.2.2.2.1 ⟨Nat.zero_le _, Nat.zero_le _⟩) (fun r_1 u H locs hp hP hD hS => ?_)
  have hPD := PDm (ws' := (wd_X10_nearest cI cC cZ cB cJ a_m oJ uD dY iJ lJ jQ jR jW jK pJ bM aY jO gR gY mK jZ iY bG mJ jB mQ lY eJ bY bW aG jG bQ 0 jY m_length qG uW eY aJ aB bU dN aR aE bJ aW bT gJ dU bL bR bO mY pW m_x jA oY pR pX uM)) hP hD 7 rfl rfl rfl
  have hP := hPD.1
  have hD := hPD.2
  refine lv_if_ne (tgt := 15) hx hb eX10_nearest_0.2.2.2.2.2.2.1 (by decide) (fun hc => ?_) (fun hc => ?_)
  · have hp := hp.1 hc
    refine lv_bipush (v := (-2)) hx hb eX10_nearest_0.2.2.2.2.2.2.2.2.2.1 bp_m2 ?_
    refine lv_istore_n (lv' := [(2, .int (-2)), (0, .ref a_m), (1, .int p0)]) hx hb eX10_nearest_0.2.2.2.2.2.2.2.2.2.2.1 rfl hl (by decide) rfl (fun ls hl => ?_)
    refine lv_iconst (v := 0) hx hb eX10_nearest_0.2.2.2.2.2.2.2.2.2.2.2.1 ic_0 ?_
    refine lv_istore_n (lv' := [(3, .int 0), (2, .int (-2)), (0, .ref a_m), (1, .int p0)]) hx hb eX10_nearest_0.2.2.2.2.2.2.2.2.2.2.2.2.1 rfl hl (by decide) rfl (fun ls hl => ?_)
    obtain ⟨n9, hp⟩ := hp
    exact kb_X10_nearest_20 C0 n9 p0 (-2) 0 bQ 0 uM H locs ls hp hP hD hS (lv_sub hl [2, 3, 1, 0] rfl)
  · have hp := hp.2 hc
    refine lv_iconst (v := (-1)) hx hb eX10_nearest_0.2.2.2.2.2.2.2.1 ic_m1 ?_
    exact W.iret (v := (-1)) hx hb hr (fun t ht hW => ⟨⟨(-1), (bQ, 0, uM), rfl, hp, by rw [ht]; exact hP, va_K.moved hW.alike hK, hD⟩, hS.F ht⟩) hS.2.2 eX10_nearest_0.2.2.2.2.2.2.2.2.1
noncomputable abbrev wd_J6_numberOfTrailingZeros_0f7a4 (cI cC cZ cB cJ : ClassId) : va_W := []
noncomputable abbrev q_J6_numberOfTrailingZeros_0f7a4 (dC : Nat → ClassId) (dI : Nat → Nat → Nat) (cI cC cZ cB cJ : ClassId) (A : Nat → Prop) (post : Int32 → Prop) : Array Value → State → Outcome → State → Prop := va_Qi (fun (r : Int32) (u : Unit) => post r) (fun u t => gB (dC, dI) (tyl cI cC cZ cB cJ) A (wd_J6_numberOfTrailingZeros_0f7a4 cI cC cZ cB cJ) t) A
noncomputable abbrev rm_J6_numberOfTrailingZeros_0f7a4 : Room := { frames := 0, cells := 0, slots := 0, locals := 0 }
section S_J6_numberOfTrailingZeros_0f7a4
variable {p : Program} {l : Launch} {e : Env} {s : State} {m : MethodId} {args : Array Value} {below : List Frame} {meth : Method} {c : Code} {dC : Nat → ClassId} {dI : Nat → Nat → Nat} {cI cC cZ cB cJ : ClassId} {A : Nat → Prop} {post : Int32 → Prop}
noncomputable def ws_J6_numberOfTrailingZeros_0f7a4_74 (post : Int32 → Prop) (x0 x1 : Int32) : Prop := post (x1 + ((x0.toUInt32 >>> ((1 : Int32).toUInt32 &&& Int32.toUInt32 31)).toInt32))
set_option maxHeartbeats 4000000 in
set_option maxRecDepth 100000 in
theorem ks_J6_numberOfTrailingZeros_0f7a4_74 (C0 : gc cJ6_numberOfTrailingZeros_0f7a4 (some .int) 2 RJ6 (dC, dI) (tyl cI cC cZ cB cJ) A p s m args meth c) : ∀ (x0 x1 : Int32) (H : Heap) (locs : List Loc) (ls : Array Slot), (ws_J6_numberOfTrailingZeros_0f7a4_74 post) x0 x1 → va_P (dC, dI) classes (wd_J6_numberOfTrailingZeros_0f7a4 cI cC cZ cB cJ) H → va_D A (wd_J6_numberOfTrailingZeros_0f7a4 cI cC cZ cB cJ) → va_S A s.heap H locs → lv_has ls 2 [(0, .int x0), (1, .int x1)] → W p l e rm_J6_numberOfTrailingZeros_0f7a4 s m args below meth c H locs 0 0 (MQ below (q_J6_numberOfTrailingZeros_0f7a4 dC dI cI cC cZ cB cJ A post) args s 0 0 A) (F0 m 74 ls []) := by
  obtain ⟨hx, hb, hr, hml, hown, hts, hlocks, hA, hK, hN, tL, tM, hZL, hTL, hZM, hTM, hZX⟩ := id C0
  intro x0 x1 H locs ls hp hP hD hS hl
  unfold ws_J6_numberOfTrailingZeros_0f7a4_74 at hp
  refine lv_iload_n hx hb eJ6_numberOfTrailingZeros_0f7a4_74.1 rfl (lv_at hl 1 rfl) ?_
  refine lv_iload_n hx hb eJ6_numberOfTrailingZeros_0f7a4_74.2 rfl (lv_at hl 0 rfl) ?_
  refine lv_iconst (v := 1) hx hb eJ6_numberOfTrailingZeros_0f7a4_76.1 ic_1 ?_
  refine lv_iushr hx hb eJ6_numberOfTrailingZeros_0f7a4_76.2.1 rfl ?_
  refine lv_iadd hx hb eJ6_numberOfTrailingZeros_0f7a4_76.2.2.1 ?_
  exact W.iret (v := x1 + ((x0.toUInt32 >>> ((1 : Int32).toUInt32 &&& Int32.toUInt32 31)).toInt32)) hx hb hr (fun t ht hW => ⟨⟨x1 + ((x0.toUInt32 >>> ((1 : Int32).toUInt32 &&& Int32.toUInt32 31)).toInt32), (), rfl, hp, by rw [ht]; exact hP, va_K.moved hW.alike hK, hD⟩, hS.F ht⟩) hS.2.2 eJ6_numberOfTrailingZeros_0f7a4_76.2.2.2
noncomputable def ws_J6_numberOfTrailingZeros_0f7a4_62 (post : Int32 → Prop) (x0 x1 : Int32) : Prop := (x0 ≤ 4 → ws_J6_numberOfTrailingZeros_0f7a4_74 post x0 x1) ∧ (¬ x0 ≤ 4 → ∀ v_3 : Int32, v_3 = x1 + 2 → ∀ v_4 : Int32, v_4 = (x0.toUInt32 >>> ((2 : Int32).toUInt32 &&& Int32.toUInt32 31)).toInt32 → ws_J6_numberOfTrailingZeros_0f7a4_74 post v_4 v_3)
set_option maxHeartbeats 4000000 in
set_option maxRecDepth 100000 in
theorem ks_J6_numberOfTrailingZeros_0f7a4_62 (C0 : gc cJ6_numberOfTrailingZeros_0f7a4 (some .int) 2 RJ6 (dC, dI) (tyl cI cC cZ cB cJ) A p s m args meth c) : ∀ (x0 x1 : Int32) (H : Heap) (locs : List Loc) (ls : Array Slot), (ws_J6_numberOfTrailingZeros_0f7a4_62 post) x0 x1 → va_P (dC, dI) classes (wd_J6_numberOfTrailingZeros_0f7a4 cI cC cZ cB cJ) H → va_D A (wd_J6_numberOfTrailingZeros_0f7a4 cI cC cZ cB cJ) → va_S A s.heap H locs → lv_has ls 2 [(0, .int x0), (1, .int x1)] → W p l e rm_J6_numberOfTrailingZeros_0f7a4 s m args below meth c H locs 0 0 (MQ below (q_J6_numberOfTrailingZeros_0f7a4 dC dI cI cC cZ cB cJ A post) args s 0 0 A) (F0 m 62 ls []) := by
  obtain ⟨hx, hb, hr, hml, hown, hts, hlocks, hA, hK, hN, tL, tM, hZL, hTL, hZM, hTM, hZX⟩ := id C0
  intro x0 x1 H locs ls hp hP hD hS hl
  unfold ws_J6_numberOfTrailingZeros_0f7a4_62 at hp
  refine lv_iload_n hx hb eJ6_numberOfTrailingZeros_0f7a4_49.2.2.2.2.2.2.2.2.1 rfl (lv_at hl 0 rfl) ?_
  refine lv_iconst (v := 4) hx hb eJ6_numberOfTrailingZeros_0f7a4_49.2.2.2.2.2.2.2.2.2.1 ic_4 ?_
  refine lv_icmp_le (tgt := 74) hx hb eJ6_numberOfTrailingZeros_0f7a4_49.2.2.2.2.2.2.2.2.2.2.1 (by decide) (fun hc => ?_) (fun hc => ?_)
  · have hp := hp.1 hc
    exact ks_J6_numberOfTrailingZeros_0f7a4_74 C0 x0 x1 H locs ls hp hP hD hS (lv_sub hl [0, 1] rfl)
  · have hp := hp.2 hc
    obtain ⟨v_3, ev_3⟩ : ∃ y : Int32, y = x1 + 2 := ⟨_, rfl⟩
    refine lv_iinc (v := v_3) (lv' := [(1, .int v_3), (0, .int x0)]) hx hb eJ6_numberOfTrailingZeros_0f7a4_49.2.2.2.2.2.2.2.2.2.2.2.1 hl (k := 1) rfl (by rw [ev_3]; rfl) (by decide) rfl (fun ls hl => ?_)
    have hp := hp v_3 ev_3
    refine lv_iload_n hx hb eJ6_numberOfTrailingZeros_0f7a4_49.2.2.2.2.2.2.2.2.2.2.2.2.1 rfl (lv_at hl 1 rfl) ?_
    refine lv_iconst (v := 2) hx hb eJ6_numberOfTrailingZeros_0f7a4_49.2.2.2.2.2.2.2.2.2.2.2.2.2.1 ic_2 ?_
    refine lv_iushr hx hb eJ6_numberOfTrailingZeros_0f7a4_49.2.2.2.2.2.2.2.2.2.2.2.2.2.2.1 rfl ?_
    refine lv_topi (fun v_4 ev_4 => ?_)
    have hp := hp v_4 ev_4
    refine lv_istore_n (lv' := [(0, .int v_4), (1, .int v_3)]) hx hb eJ6_numberOfTrailingZeros_0f7a4_49.2.2.2.2.2.2.2.2.2.2.2.2.2.2.2 rfl hl (by decide) rfl (fun ls hl => ?_)
    exact ks_J6_numberOfTrailingZeros_0f7a4_74 C0 v_4 v_3 H locs ls hp hP hD hS (lv_sub hl [0, 1] rfl)
noncomputable def ws_J6_numberOfTrailingZeros_0f7a4_49 (post : Int32 → Prop) (x0 x1 : Int32) : Prop := (x0 ≤ 16 → ws_J6_numberOfTrailingZeros_0f7a4_62 post x0 x1) ∧ (¬ x0 ≤ 16 → ∀ v_5 : Int32, v_5 = x1 + 4 → ∀ v_6 : Int32, v_6 = (x0.toUInt32 >>> ((4 : Int32).toUInt32 &&& Int32.toUInt32 31)).toInt32 → ws_J6_numberOfTrailingZeros_0f7a4_62 post v_6 v_5)
set_option maxHeartbeats 4000000 in
set_option maxRecDepth 100000 in
theorem ks_J6_numberOfTrailingZeros_0f7a4_49 (C0 : gc cJ6_numberOfTrailingZeros_0f7a4 (some .int) 2 RJ6 (dC, dI) (tyl cI cC cZ cB cJ) A p s m args meth c) : ∀ (x0 x1 : Int32) (H : Heap) (locs : List Loc) (ls : Array Slot), (ws_J6_numberOfTrailingZeros_0f7a4_49 post) x0 x1 → va_P (dC, dI) classes (wd_J6_numberOfTrailingZeros_0f7a4 cI cC cZ cB cJ) H → va_D A (wd_J6_numberOfTrailingZeros_0f7a4 cI cC cZ cB cJ) → va_S A s.heap H locs → lv_has ls 2 [(0, .int x0), (1, .int x1)] → W p l e rm_J6_numberOfTrailingZeros_0f7a4 s m args below meth c H locs 0 0 (MQ below (q_J6_numberOfTrailingZeros_0f7a4 dC dI cI cC cZ cB cJ A post) args s 0 0 A) (F0 m 49 ls []) := by
  obtain ⟨hx, hb, hr, hml, hown, hts, hlocks, hA, hK, hN, tL, tM, hZL, hTL, hZM, hTM, hZX⟩ := id C0
  intro x0 x1 H locs ls hp hP hD hS hl
  unfold ws_J6_numberOfTrailingZeros_0f7a4_49 at hp
  refine lv_iload_n hx hb eJ6_numberOfTrailingZeros_0f7a4_49.1 rfl (lv_at hl 0 rfl) ?_
  refine lv_bipush (v := 16) hx hb eJ6_numberOfTrailingZeros_0f7a4_49.2.1 bp_16 ?_
  refine lv_icmp_le (tgt := 62) hx hb eJ6_numberOfTrailingZeros_0f7a4_49.2.2.1 (by decide) (fun hc => ?_) (fun hc => ?_)
  · have hp := hp.1 hc
    exact ks_J6_numberOfTrailingZeros_0f7a4_62 C0 x0 x1 H locs ls hp hP hD hS (lv_sub hl [0, 1] rfl)
  · have hp := hp.2 hc
    obtain ⟨v_5, ev_5⟩ : ∃ y : Int32, y = x1 + 4 := ⟨_, rfl⟩
    refine lv_iinc (v := v_5) (lv' := [(1, .int v_5), (0, .int x0)]) hx hb eJ6_numberOfTrailingZeros_0f7a4_49.2.2.2.1 hl (k := 1) rfl (by rw [ev_5]; rfl) (by decide) rfl (fun ls hl => ?_)
    have hp := hp v_5 ev_5
    refine lv_iload_n hx hb eJ6_numberOfTrailingZeros_0f7a4_49.2.2.2.2.1 rfl (lv_at hl 1 rfl) ?_
    refine lv_iconst (v := 4) hx hb eJ6_numberOfTrailingZeros_0f7a4_49.2.2.2.2.2.1 ic_4 ?_
    refine lv_iushr hx hb eJ6_numberOfTrailingZeros_0f7a4_49.2.2.2.2.2.2.1 rfl ?_
    refine lv_topi (fun v_6 ev_6 => ?_)
    have hp := hp v_6 ev_6
    refine lv_istore_n (lv' := [(0, .int v_6), (1, .int v_5)]) hx hb eJ6_numberOfTrailingZeros_0f7a4_49.2.2.2.2.2.2.2.1 rfl hl (by decide) rfl (fun ls hl => ?_)
    exact ks_J6_numberOfTrailingZeros_0f7a4_62 C0 v_6 v_5 H locs ls hp hP hD hS (lv_sub hl [0, 1] rfl)
noncomputable def ws_J6_numberOfTrailingZeros_0f7a4_34 (post : Int32 → Prop) (x0 x1 : Int32) : Prop := (x0 ≤ 256 → ws_J6_numberOfTrailingZeros_0f7a4_49 post x0 x1) ∧ (¬ x0 ≤ 256 → ∀ v_7 : Int32, v_7 = x1 + 8 → ∀ v_8 : Int32, v_8 = (x0.toUInt32 >>> ((8 : Int32).toUInt32 &&& Int32.toUInt32 31)).toInt32 → ws_J6_numberOfTrailingZeros_0f7a4_49 post v_8 v_7)
set_option maxHeartbeats 4000000 in
set_option maxRecDepth 100000 in
theorem ks_J6_numberOfTrailingZeros_0f7a4_34 (C0 : gc cJ6_numberOfTrailingZeros_0f7a4 (some .int) 2 RJ6 (dC, dI) (tyl cI cC cZ cB cJ) A p s m args meth c) : ∀ (x0 x1 : Int32) (H : Heap) (locs : List Loc) (ls : Array Slot), (ws_J6_numberOfTrailingZeros_0f7a4_34 post) x0 x1 → va_P (dC, dI) classes (wd_J6_numberOfTrailingZeros_0f7a4 cI cC cZ cB cJ) H → va_D A (wd_J6_numberOfTrailingZeros_0f7a4 cI cC cZ cB cJ) → va_S A s.heap H locs → lv_has ls 2 [(0, .int x0), (1, .int x1)] → W p l e rm_J6_numberOfTrailingZeros_0f7a4 s m args below meth c H locs 0 0 (MQ below (q_J6_numberOfTrailingZeros_0f7a4 dC dI cI cC cZ cB cJ A post) args s 0 0 A) (F0 m 34 ls []) := by
  obtain ⟨hx, hb, hr, hml, hown, hts, hlocks, hA, hK, hN, tL, tM, hZL, hTL, hZM, hTM, hZX⟩ := id C0
  intro x0 x1 H locs ls hp hP hD hS hl
  unfold ws_J6_numberOfTrailingZeros_0f7a4_34 at hp
  refine lv_iload_n hx hb eJ6_numberOfTrailingZeros_0f7a4_19.2.2.2.2.2.2.2.2.1 rfl (lv_at hl 0 rfl) ?_
  refine lv_sipush (v := 256) hx hb eJ6_numberOfTrailingZeros_0f7a4_19.2.2.2.2.2.2.2.2.2.1 sp_256 ?_
  refine lv_icmp_le (tgt := 49) hx hb eJ6_numberOfTrailingZeros_0f7a4_19.2.2.2.2.2.2.2.2.2.2.1 (by decide) (fun hc => ?_) (fun hc => ?_)
  · have hp := hp.1 hc
    exact ks_J6_numberOfTrailingZeros_0f7a4_49 C0 x0 x1 H locs ls hp hP hD hS (lv_sub hl [0, 1] rfl)
  · have hp := hp.2 hc
    obtain ⟨v_7, ev_7⟩ : ∃ y : Int32, y = x1 + 8 := ⟨_, rfl⟩
    refine lv_iinc (v := v_7) (lv' := [(1, .int v_7), (0, .int x0)]) hx hb eJ6_numberOfTrailingZeros_0f7a4_19.2.2.2.2.2.2.2.2.2.2.2.1 hl (k := 1) rfl (by rw [ev_7]; rfl) (by decide) rfl (fun ls hl => ?_)
    have hp := hp v_7 ev_7
    refine lv_iload_n hx hb eJ6_numberOfTrailingZeros_0f7a4_19.2.2.2.2.2.2.2.2.2.2.2.2.1 rfl (lv_at hl 1 rfl) ?_
    refine lv_bipush (v := 8) hx hb eJ6_numberOfTrailingZeros_0f7a4_19.2.2.2.2.2.2.2.2.2.2.2.2.2.1 bp_8 ?_
    refine lv_iushr hx hb eJ6_numberOfTrailingZeros_0f7a4_19.2.2.2.2.2.2.2.2.2.2.2.2.2.2.1 rfl ?_
    refine lv_topi (fun v_8 ev_8 => ?_)
    have hp := hp v_8 ev_8
    refine lv_istore_n (lv' := [(0, .int v_8), (1, .int v_7)]) hx hb eJ6_numberOfTrailingZeros_0f7a4_19.2.2.2.2.2.2.2.2.2.2.2.2.2.2.2 rfl hl (by decide) rfl (fun ls hl => ?_)
    exact ks_J6_numberOfTrailingZeros_0f7a4_49 C0 v_8 v_7 H locs ls hp hP hD hS (lv_sub hl [0, 1] rfl)
end S_J6_numberOfTrailingZeros_0f7a4
noncomputable def wp_J6_numberOfTrailingZeros_0f7a4 (post : Int32 → Prop) (p0 : Int32) : Prop := ∀ v_1 : Int32, v_1 = p0 ^^^ (-1) → ∀ v_2 : Int32, v_2 = v_1 &&& (p0 - 1) → (0 < v_2 → (v_2 ≤ 65536 → ws_J6_numberOfTrailingZeros_0f7a4_34 post v_2 1) ∧ (¬ v_2 ≤ 65536 → ∀ v_9 : Int32, v_9 = 1 + 16 → ∀ v_10 : Int32, v_10 = (v_2.toUInt32 >>> ((16 : Int32).toUInt32 &&& Int32.toUInt32 31)).toInt32 → ws_J6_numberOfTrailingZeros_0f7a4_34 post v_10 v_9)) ∧ (¬ 0 < v_2 → post (v_2 &&& 32))
set_option maxHeartbeats 4000000 in
set_option maxRecDepth 100000 in
theorem c_J6_numberOfTrailingZeros_0f7a4 (l : Launch) (dC : Nat → ClassId) (dI : Nat → Nat → Nat) (cI cC cZ cB cJ : ClassId) (sz : Nat) (p0 : Int32) (post : Int32 → Prop) (hw : wp_J6_numberOfTrailingZeros_0f7a4 post p0) : Met l yJ6_numberOfTrailingZeros_0f7a4 (gw yJ6_numberOfTrailingZeros_0f7a4 cJ6_numberOfTrailingZeros_0f7a4 2 (some .int)) rm_J6_numberOfTrailingZeros_0f7a4 (va_Pc [.int p0] (gPre (dC, dI) (tyl cI cC cZ cB cJ) (wd_J6_numberOfTrailingZeros_0f7a4 cI cC cZ cB cJ) sz)) (q_J6_numberOfTrailingZeros_0f7a4 dC dI cI cC cZ cB cJ (va_A (wd_J6_numberOfTrailingZeros_0f7a4 cI cC cZ cB cJ) sz) post) 0 0 (va_A (wd_J6_numberOfTrailingZeros_0f7a4 cI cC cZ cB cJ) sz) := by
  refine g_enter (own := RJ6) (dC, dI) (tyl cI cC cZ cB cJ) (wd_J6_numberOfTrailingZeros_0f7a4 cI cC cZ cB cJ) sz [.int p0] (fun A => q_J6_numberOfTrailingZeros_0f7a4 dC dI cI cC cZ cB cJ A post) (by decide) rfl (Nat.le_of_ble_eq_true rfl) ?_
  intro p e s m args below meth c A H locs ls C0 hP hD hS hl
  have hl : lv_has ls 2 [(0, .int p0)] := hl
  obtain ⟨hx, hb, hr, hml, hown, hts, hlocks, hA, hK, hN, tL, tM, hZL, hTL, hZM, hTM, hZX⟩ := id C0
  have hp := hw
  unfold wp_J6_numberOfTrailingZeros_0f7a4 at hp
  refine lv_iload_n hx hb eJ6_numberOfTrailingZeros_0f7a4_0.1 rfl (lv_at hl 0 rfl) ?_
  refine lv_iconst (v := (-1)) hx hb eJ6_numberOfTrailingZeros_0f7a4_0.2.1 ic_m1 ?_
  refine lv_ixor hx hb eJ6_numberOfTrailingZeros_0f7a4_0.2.2.1 ?_
  refine lv_topi (fun v_1 ev_1 => ?_)
  have hp := hp v_1 ev_1
  refine lv_iload_n hx hb eJ6_numberOfTrailingZeros_0f7a4_0.2.2.2.1 rfl (lv_at hl 0 rfl) ?_
  refine lv_iconst (v := 1) hx hb eJ6_numberOfTrailingZeros_0f7a4_0.2.2.2.2.1 ic_1 ?_
  refine lv_isub hx hb eJ6_numberOfTrailingZeros_0f7a4_0.2.2.2.2.2.1 ?_
  refine lv_iand hx hb eJ6_numberOfTrailingZeros_0f7a4_0.2.2.2.2.2.2.1 ?_
  refine lv_topi (fun v_2 ev_2 => ?_)
  have hp := hp v_2 ev_2
  refine lv_istore_n (lv' := [(0, .int v_2)]) hx hb eJ6_numberOfTrailingZeros_0f7a4_0.2.2.2.2.2.2.2.1 rfl hl (by decide) rfl (fun ls hl => ?_)
  refine lv_iload_n hx hb eJ6_numberOfTrailingZeros_0f7a4_0.2.2.2.2.2.2.2.2.1 rfl (lv_at hl 0 rfl) ?_
  refine lv_if_gt (tgt := 17) hx hb eJ6_numberOfTrailingZeros_0f7a4_0.2.2.2.2.2.2.2.2.2.1 (by decide) (fun hc => ?_) (fun hc => ?_)
  · have hp := hp.1 hc
    refine lv_iconst (v := 1) hx hb eJ6_numberOfTrailingZeros_0f7a4_0.2.2.2.2.2.2.2.2.2.2.2.2.2.2.1 ic_1 ?_
    refine lv_istore_n (lv' := [(1, .int 1), (0, .int v_2)]) hx hb eJ6_numberOfTrailingZeros_0f7a4_0.2.2.2.2.2.2.2.2.2.2.2.2.2.2.2 rfl hl (by decide) rfl (fun ls hl => ?_)
    refine lv_iload_n hx hb eJ6_numberOfTrailingZeros_0f7a4_19.1 rfl (lv_at hl 1 rfl) ?_
    refine lv_ldcw (v := 65536) hx hb hown (hts _ q_891) eJ6_numberOfTrailingZeros_0f7a4_19.2.1 ?_
    refine lv_icmp_le (tgt := 34) hx hb eJ6_numberOfTrailingZeros_0f7a4_19.2.2.1 (by decide) (fun hc => ?_) (fun hc => ?_)
    · have hp := hp.1 hc
      exact ks_J6_numberOfTrailingZeros_0f7a4_34 C0 v_2 1 H locs ls hp hP hD hS (lv_sub hl [1, 0] rfl)
    · have hp := hp.2 hc
      obtain ⟨v_9, ev_9⟩ : ∃ y : Int32, y = 1 + 16 := ⟨_, rfl⟩
      refine lv_iinc (v := v_9) (lv' := [(1, .int v_9), (0, .int v_2)]) hx hb eJ6_numberOfTrailingZeros_0f7a4_19.2.2.2.1 hl (k := 0) rfl (by rw [ev_9]; rfl) (by decide) rfl (fun ls hl => ?_)
      have hp := hp v_9 ev_9
      refine lv_iload_n hx hb eJ6_numberOfTrailingZeros_0f7a4_19.2.2.2.2.1 rfl (lv_at hl 1 rfl) ?_
      refine lv_bipush (v := 16) hx hb eJ6_numberOfTrailingZeros_0f7a4_19.2.2.2.2.2.1 bp_16 ?_
      refine lv_iushr hx hb eJ6_numberOfTrailingZeros_0f7a4_19.2.2.2.2.2.2.1 rfl ?_
      refine lv_topi (fun v_10 ev_10 => ?_)
      have hp := hp v_10 ev_10
      refine lv_istore_n (lv' := [(0, .int v_10), (1, .int v_9)]) hx hb eJ6_numberOfTrailingZeros_0f7a4_19.2.2.2.2.2.2.2.1 rfl hl (by decide) rfl (fun ls hl => ?_)
      exact ks_J6_numberOfTrailingZeros_0f7a4_34 C0 v_10 v_9 H locs ls hp hP hD hS (lv_sub hl [0, 1] rfl)
  · have hp := hp.2 hc
    refine lv_iload_n hx hb eJ6_numberOfTrailingZeros_0f7a4_0.2.2.2.2.2.2.2.2.2.2.1 rfl (lv_at hl 0 rfl) ?_
    refine lv_bipush (v := 32) hx hb eJ6_numberOfTrailingZeros_0f7a4_0.2.2.2.2.2.2.2.2.2.2.2.1 bp_32 ?_
    refine lv_iand hx hb eJ6_numberOfTrailingZeros_0f7a4_0.2.2.2.2.2.2.2.2.2.2.2.2.1 ?_
    exact W.iret (v := v_2 &&& 32) hx hb hr (fun t ht hW => ⟨⟨v_2 &&& 32, (), rfl, hp, by rw [ht]; exact hP, va_K.moved hW.alike hK, hD⟩, hS.F ht⟩) hS.2.2 eJ6_numberOfTrailingZeros_0f7a4_0.2.2.2.2.2.2.2.2.2.2.2.2.2.1
noncomputable abbrev wd_X10_isRowAhead (cI cC cZ cB cJ : ClassId) : va_W := []
noncomputable abbrev q_X10_isRowAhead (dC : Nat → ClassId) (dI : Nat → Nat → Nat) (cI cC cZ cB cJ : ClassId) (A : Nat → Prop) (post : Int32 → Prop) : Array Value → State → Outcome → State → Prop := va_Qi (fun (r : Int32) (u : Unit) => post r) (fun u t => gB (dC, dI) (tyl cI cC cZ cB cJ) A (wd_X10_isRowAhead cI cC cZ cB cJ) t) A
noncomputable abbrev rm_X10_isRowAhead : Room := { frames := 1, cells := 0, slots := 0, locals := 21 }
noncomputable def wp_X10_isRowAhead (post : Int32 → Prop) (p0 p1 : Int32) : Prop := ∀ v_1 : Int32, v_1 = p0 ^^^ p1 → wp_J6_numberOfTrailingZeros_0f7a4 (fun r_2 => wp_X10_has (fun r_3 => narrow .boolean (.int r_3) = .int r_3 ∧ post r_3) p0 r_2) v_1
set_option maxHeartbeats 4000000 in
set_option maxRecDepth 100000 in
theorem c_X10_isRowAhead (l : Launch) (dC : Nat → ClassId) (dI : Nat → Nat → Nat) (cI cC cZ cB cJ : ClassId) (sz : Nat) (p0 p1 : Int32) (post : Int32 → Prop) (hw : wp_X10_isRowAhead post p0 p1) : Met l yX10_isRowAhead (gw yX10_isRowAhead cX10_isRowAhead 3 (some .boolean)) rm_X10_isRowAhead (va_Pc [.int p0, .int p1] (gPre (dC, dI) (tyl cI cC cZ cB cJ) (wd_X10_isRowAhead cI cC cZ cB cJ) sz)) (q_X10_isRowAhead dC dI cI cC cZ cB cJ (va_A (wd_X10_isRowAhead cI cC cZ cB cJ) sz) post) 0 0 (va_A (wd_X10_isRowAhead cI cC cZ cB cJ) sz) := by
  refine g_enter (own := RX10) (dC, dI) (tyl cI cC cZ cB cJ) (wd_X10_isRowAhead cI cC cZ cB cJ) sz [.int p0, .int p1] (fun A => q_X10_isRowAhead dC dI cI cC cZ cB cJ A post) pn_RX10 rfl (Nat.le_of_ble_eq_true rfl) ?_
  intro p e s m args below meth c A H locs ls C0 hP hD hS hl
  have hl : lv_has ls 3 [(0, .int p0), (1, .int p1)] := hl
  obtain ⟨hx, hb, hr, hml, hown, hts, hlocks, hA, hK, hN, tL, tM, hZL, hTL, hZM, hTM, hZX⟩ := id C0
  have hp := hw
  unfold wp_X10_isRowAhead at hp
  refine lv_iload_n hx hb eX10_isRowAhead_0.1 rfl (lv_at hl 0 rfl) ?_
  refine lv_iload_n hx hb eX10_isRowAhead_0.2.1 rfl (lv_at hl 1 rfl) ?_
  refine lv_ixor hx hb eX10_isRowAhead_0.2.2.1 ?_
  refine lv_topi (fun v_1 ev_1 => ?_)
  have hp := hp v_1 ev_1
  refine lv_istore_n (lv' := [(2, .int v_1), (0, .int p0), (1, .int p1)]) hx hb eX10_isRowAhead_0.2.2.2.1 rfl hl (by decide) rfl (fun ls hl => ?_)
  refine lv_iload_n hx hb eX10_isRowAhead_0.2.2.2.2.1 rfl (lv_at hl 1 rfl) ?_
  refine lv_iload_n hx hb eX10_isRowAhead_0.2.2.2.2.2.1 rfl (lv_at hl 0 rfl) ?_
  refine g_calli (wc := (wd_J6_numberOfTrailingZeros_0f7a4 cI cC cZ cB cJ)) hP hD hS hA [] [] rfl rfl rfl rfl (g_runS (As := [.int v_1]) (rest := [.int p0]) C0 hP hD hS [] rfl rfl (c_J6_numberOfTrailingZeros_0f7a4 l dC dI cI cC cZ cB cJ H.size v_1 _ hp) q_892 q_894 q_893 q_321 h_J6_numberOfTrailingZeros_0f7a4 rfl rfl ⟨Nat.le_of_ble_eq_true rfl, Nat.le_of_ble_eq_true rfl⟩ rfl rfl hl.1 rfl (lv_room (Nat.le_of_ble_eq_true rfl)) eX10_isRowAhead_0.2.2.2.2.2.2.1 ⟨Nat.zero_le _, Nat.zero_le _⟩) (fun r_2 u H locs hp hP hD hS => ?_)
  refine g_calli (wc := (wd_X10_has cI cC cZ cB cJ)) hP hD hS hA [] [] rfl rfl rfl rfl (g_runS (As := [.int p0, .int r_2]) (rest := []) C0 hP hD hS [] rfl rfl (c_X10_has l dC dI cI cC cZ cB cJ H.size p0 r_2 _ hp) q_734 q_736 q_735 q_642 h_X10_has rfl rfl ⟨Nat.le_of_ble_eq_true rfl, Nat.le_of_ble_eq_true rfl⟩ rfl rfl hl.1 rfl (lv_room (Nat.le_of_ble_eq_true rfl)) eX10_isRowAhead_0.2.2.2.2.2.2.2.1 ⟨Nat.zero_le _, Nat.zero_le _⟩) (fun r_3 u H locs hp hP hD hS => ?_)
  have hnz := hp.1
  have hp := hp.2
  exact W.zret (v := r_3) hx hb hr hnz (fun t ht hW => ⟨⟨r_3, (), rfl, hp, by rw [ht]; exact hP, va_K.moved hW.alike hK, hD⟩, hS.F ht⟩) hS.2.2 eX10_isRowAhead_0.2.2.2.2.2.2.2.2
noncomputable abbrev wd_X10_cover (cI cC cZ cB cJ : ClassId) (a_m oJ uD dY iJ lJ jQ jR jW jK pJ bM aY jO gR gY mK jZ iY bG mJ jB mQ lY eJ bY : Nat) (bW aG jG bQ dG : Int32) (jY : Nat) (m_length qG uW eY aJ aB bU dN aR aE bJ aW bT gJ dU bL bR bO mY pW : Int32) (tD : Nat → Int32) : va_W := [(a_m, .inr (10, [.ref oJ, .int bW, .ref uD, .ref dY, .ref iJ, .ref lJ, .int aG, .ref jQ, .ref jR, .ref jW, .ref jK, .int jG, .ref pJ, .int bQ, .int dG, rdv jK jO jY, .int m_length, .int qG, .int uW, .int eY, .ref bM, .ref aY, .int aJ, .int aB, .ref jO, .int bU, .int dN, .int aR, .int aE, .int bJ, .int aW, .ref gR, .int bT, .ref gY, .ref mK, .int gJ, .ref jZ, .int dU, .ref iY, .ref bG, .int bL, .int bR, .int bO, .ref mJ, .ref jB, .ref mQ, .int mY, .int pW, .ref lY, .ref eJ, .ref bY])), (jZ, .inl (cI, 8, .inl tD))]
noncomputable abbrev q_X10_cover (dC : Nat → ClassId) (dI : Nat → Nat → Nat) (cI cC cZ cB cJ : ClassId) (A : Nat → Prop) (a_m oJ uD dY iJ lJ jQ jR jW jK pJ bM aY jO gR gY mK jZ iY bG mJ jB mQ lY eJ bY : Nat) (bW aG jG bQ dG : Int32) (jY : Nat) (m_length qG uW eY aJ aB bU dN aR aE bJ aW bT gJ dU bL bR bO mY pW : Int32) (tD : Nat → Int32) (post : Int32 → Prop) : Array Value → State → Outcome → State → Prop := va_Qi (fun (r : Int32) (u : Unit) => post r) (fun u t => gB (dC, dI) (tyl cI cC cZ cB cJ) A (wd_X10_cover cI cC cZ cB cJ a_m oJ uD dY iJ lJ jQ jR jW jK pJ bM aY jO gR gY mK jZ iY bG mJ jB mQ lY eJ bY bW aG jG bQ dG jY m_length qG uW eY aJ aB bU dN aR aE bJ aW bT gJ dU bL bR bO mY pW tD) t) A
noncomputable abbrev rm_X10_cover : Room := { frames := 2, cells := 0, slots := 0, locals := 44 }
section S_X10_cover
variable {p : Program} {l : Launch} {e : Env} {s : State} {m : MethodId} {args : Array Value} {below : List Frame} {meth : Method} {c : Code} {dC : Nat → ClassId} {dI : Nat → Nat → Nat} {cI cC cZ cB cJ : ClassId} {A : Nat → Prop} {a_m oJ uD dY iJ lJ jQ jR jW jK pJ bM aY jO gR gY mK jZ iY bG mJ jB mQ lY eJ bY : Nat} {bW aG jG bQ dG : Int32} {jY : Nat} {m_length qG uW eY aJ aB bU dN aR aE bJ aW bT gJ dU bL bR bO mY pW : Int32} {tD : Nat → Int32} {post : Int32 → Prop}
noncomputable def ws_X10_cover_67 (post : Int32 → Prop) (K4 : Int32 → Int32 → Int32 → Prop) (aG : Int32) (tD : Nat → Int32) (x1 x2 x3 : Int32) : Prop := ∀ v_6 : Int32, v_6 = x3 + 1 → K4 x1 x2 v_6
set_option maxHeartbeats 4000000 in
set_option maxRecDepth 100000 in
theorem ks_X10_cover_67 (C0 : gc cX10_cover (some .int) 5 RX10 (dC, dI) (tyl cI cC cZ cB cJ) A p s m args meth c) {K4 : Int32 → Int32 → Int32 → Prop} (hK4 : ∀ (x1 : Int32) (x2 : Int32) (x3 : Int32) (H : Heap) (locs : List Loc) (ls : Array Slot), K4 x1 x2 x3 → va_P (dC, dI) classes (wd_X10_cover cI cC cZ cB cJ a_m oJ uD dY iJ lJ jQ jR jW jK pJ bM aY jO gR gY mK jZ iY bG mJ jB mQ lY eJ bY bW aG jG bQ dG jY m_length qG uW eY aJ aB bU dN aR aE bJ aW bT gJ dU bL bR bO mY pW tD) H → va_D A (wd_X10_cover cI cC cZ cB cJ a_m oJ uD dY iJ lJ jQ jR jW jK pJ bM aY jO gR gY mK jZ iY bG mJ jB mQ lY eJ bY bW aG jG bQ dG jY m_length qG uW eY aJ aB bU dN aR aE bJ aW bT gJ dU bL bR bO mY pW tD) → va_S A s.heap H locs → lv_has ls 5 [(0, .ref a_m), (1, .int x1), (2, .int x2), (3, .int x3)] → W p l e rm_X10_cover s m args below meth c H locs 0 0 (MQ below (q_X10_cover dC dI cI cC cZ cB cJ A a_m oJ uD dY iJ lJ jQ jR jW jK pJ bM aY jO gR gY mK jZ iY bG mJ jB mQ lY eJ bY bW aG jG bQ dG jY m_length qG uW eY aJ aB bU dN aR aE bJ aW bT gJ dU bL bR bO mY pW tD post) args s 0 0 A) (F0 m 4 ls [])) : ∀ (x1 x2 x3 : Int32) (H : Heap) (locs : List Loc) (ls : Array Slot), (ws_X10_cover_67 post K4 aG tD) x1 x2 x3 → va_P (dC, dI) classes (wd_X10_cover cI cC cZ cB cJ a_m oJ uD dY iJ lJ jQ jR jW jK pJ bM aY jO gR gY mK jZ iY bG mJ jB mQ lY eJ bY bW aG jG bQ dG jY m_length qG uW eY aJ aB bU dN aR aE bJ aW bT gJ dU bL bR bO mY pW tD) H → va_D A (wd_X10_cover cI cC cZ cB cJ a_m oJ uD dY iJ lJ jQ jR jW jK pJ bM aY jO gR gY mK jZ iY bG mJ jB mQ lY eJ bY bW aG jG bQ dG jY m_length qG uW eY aJ aB bU dN aR aE bJ aW bT gJ dU bL bR bO mY pW tD) → va_S A s.heap H locs → lv_has ls 5 [(0, .ref a_m), (1, .int x1), (2, .int x2), (3, .int x3)] → W p l e rm_X10_cover s m args below meth c H locs 0 0 (MQ below (q_X10_cover dC dI cI cC cZ cB cJ A a_m oJ uD dY iJ lJ jQ jR jW jK pJ bM aY jO gR gY mK jZ iY bG mJ jB mQ lY eJ bY bW aG jG bQ dG jY m_length qG uW eY aJ aB bU dN aR aE bJ aW bT gJ dU bL bR bO mY pW tD post) args s 0 0 A) (F0 m 67 ls []) := by
  obtain ⟨hx, hb, hr, hml, hown, hts, hlocks, hA, hK, hN, tL, tM, hZL, hTL, hZM, hTM, hZX⟩ := id C0
  intro x1 x2 x3 H locs ls hp hP hD hS hl
  unfold ws_X10_cover_67 at hp
  obtain ⟨v_6, ev_6⟩ : ∃ y : Int32, y = x3 + 1 := ⟨_, rfl⟩
  refine lv_iinc (v := v_6) (lv' := [(3, .int v_6), (0, .ref a_m), (1, .int x1), (2, .int x2)]) hx hb eX10_cover_57.2.2.2.2.2.2.1 hl (k := 3) rfl (by rw [ev_6]; rfl) (by decide) rfl (fun ls hl => ?_)
  have hp := hp v_6 ev_6
  refine lv_goto (tgt := 4) hx hb eX10_cover_57.2.2.2.2.2.2.2.1 (by decide) ?_
  exact hK4 x1 x2 v_6 H locs ls hp hP hD hS (lv_sub hl [1, 2, 3, 0] rfl)
noncomputable def ws_X10_cover_65 (post : Int32 → Prop) (K4 : Int32 → Int32 → Int32 → Prop) (aG : Int32) (tD : Nat → Int32) (x1 x3 : Int32) : Prop := ws_X10_cover_67 post K4 aG tD x1 x3 x3
set_option maxHeartbeats 4000000 in
set_option maxRecDepth 100000 in
theorem ks_X10_cover_65 (C0 : gc cX10_cover (some .int) 5 RX10 (dC, dI) (tyl cI cC cZ cB cJ) A p s m args meth c) {K4 : Int32 → Int32 → Int32 → Prop} (hK4 : ∀ (x1 : Int32) (x2 : Int32) (x3 : Int32) (H : Heap) (locs : List Loc) (ls : Array Slot), K4 x1 x2 x3 → va_P (dC, dI) classes (wd_X10_cover cI cC cZ cB cJ a_m oJ uD dY iJ lJ jQ jR jW jK pJ bM aY jO gR gY mK jZ iY bG mJ jB mQ lY eJ bY bW aG jG bQ dG jY m_length qG uW eY aJ aB bU dN aR aE bJ aW bT gJ dU bL bR bO mY pW tD) H → va_D A (wd_X10_cover cI cC cZ cB cJ a_m oJ uD dY iJ lJ jQ jR jW jK pJ bM aY jO gR gY mK jZ iY bG mJ jB mQ lY eJ bY bW aG jG bQ dG jY m_length qG uW eY aJ aB bU dN aR aE bJ aW bT gJ dU bL bR bO mY pW tD) → va_S A s.heap H locs → lv_has ls 5 [(0, .ref a_m), (1, .int x1), (2, .int x2), (3, .int x3)] → W p l e rm_X10_cover s m args below meth c H locs 0 0 (MQ below (q_X10_cover dC dI cI cC cZ cB cJ A a_m oJ uD dY iJ lJ jQ jR jW jK pJ bM aY jO gR gY mK jZ iY bG mJ jB mQ lY eJ bY bW aG jG bQ dG jY m_length qG uW eY aJ aB bU dN aR aE bJ aW bT gJ dU bL bR bO mY pW tD post) args s 0 0 A) (F0 m 4 ls [])) : ∀ (x1 x3 : Int32) (H : Heap) (locs : List Loc) (ls : Array Slot), (ws_X10_cover_65 post K4 aG tD) x1 x3 → va_P (dC, dI) classes (wd_X10_cover cI cC cZ cB cJ a_m oJ uD dY iJ lJ jQ jR jW jK pJ bM aY jO gR gY mK jZ iY bG mJ jB mQ lY eJ bY bW aG jG bQ dG jY m_length qG uW eY aJ aB bU dN aR aE bJ aW bT gJ dU bL bR bO mY pW tD) H → va_D A (wd_X10_cover cI cC cZ cB cJ a_m oJ uD dY iJ lJ jQ jR jW jK pJ bM aY jO gR gY mK jZ iY bG mJ jB mQ lY eJ bY bW aG jG bQ dG jY m_length qG uW eY aJ aB bU dN aR aE bJ aW bT gJ dU bL bR bO mY pW tD) → va_S A s.heap H locs → lv_has ls 5 [(0, .ref a_m), (1, .int x1), (3, .int x3)] → W p l e rm_X10_cover s m args below meth c H locs 0 0 (MQ below (q_X10_cover dC dI cI cC cZ cB cJ A a_m oJ uD dY iJ lJ jQ jR jW jK pJ bM aY jO gR gY mK jZ iY bG mJ jB mQ lY eJ bY bW aG jG bQ dG jY m_length qG uW eY aJ aB bU dN aR aE bJ aW bT gJ dU bL bR bO mY pW tD post) args s 0 0 A) (F0 m 65 ls []) := by
  obtain ⟨hx, hb, hr, hml, hown, hts, hlocks, hA, hK, hN, tL, tM, hZL, hTL, hZM, hTM, hZX⟩ := id C0
  intro x1 x3 H locs ls hp hP hD hS hl
  unfold ws_X10_cover_65 at hp
  refine lv_iload_n hx hb eX10_cover_57.2.2.2.2.1 rfl (lv_at hl 2 rfl) ?_
  refine lv_istore_n (lv' := [(2, .int x3), (0, .ref a_m), (1, .int x1), (3, .int x3)]) hx hb eX10_cover_57.2.2.2.2.2.1 rfl hl (by decide) rfl (fun ls hl => ?_)
  exact ks_X10_cover_67 C0 hK4 x1 x3 x3 H locs ls hp hP hD hS (lv_sub hl [1, 2, 0, 3] rfl)
noncomputable def ws_X10_cover_45 (post : Int32 → Prop) (K4 : Int32 → Int32 → Int32 → Prop) (aG : Int32) (tD : Nat → Int32) (x1 x2 x3 k0 : Int32) : Prop := (k0 < 0 → ws_X10_cover_65 post K4 aG tD x1 x3) ∧ (¬ k0 < 0 → (¬ k0 = 0 → ws_X10_cover_67 post K4 aG tD x1 x2 x3) ∧ (k0 = 0 → wp_X10_isRowAhead (fun r_7 => (r_7 = 0 → ws_X10_cover_67 post K4 aG tD x1 x2 x3) ∧ (¬ r_7 = 0 → ws_X10_cover_65 post K4 aG tD x1 x3)) x3 x2))
set_option maxHeartbeats 4000000 in
set_option maxRecDepth 100000 in
theorem ks_X10_cover_45 (C0 : gc cX10_cover (some .int) 5 RX10 (dC, dI) (tyl cI cC cZ cB cJ) A p s m args meth c) {K4 : Int32 → Int32 → Int32 → Prop} (hK4 : ∀ (x1 : Int32) (x2 : Int32) (x3 : Int32) (H : Heap) (locs : List Loc) (ls : Array Slot), K4 x1 x2 x3 → va_P (dC, dI) classes (wd_X10_cover cI cC cZ cB cJ a_m oJ uD dY iJ lJ jQ jR jW jK pJ bM aY jO gR gY mK jZ iY bG mJ jB mQ lY eJ bY bW aG jG bQ dG jY m_length qG uW eY aJ aB bU dN aR aE bJ aW bT gJ dU bL bR bO mY pW tD) H → va_D A (wd_X10_cover cI cC cZ cB cJ a_m oJ uD dY iJ lJ jQ jR jW jK pJ bM aY jO gR gY mK jZ iY bG mJ jB mQ lY eJ bY bW aG jG bQ dG jY m_length qG uW eY aJ aB bU dN aR aE bJ aW bT gJ dU bL bR bO mY pW tD) → va_S A s.heap H locs → lv_has ls 5 [(0, .ref a_m), (1, .int x1), (2, .int x2), (3, .int x3)] → W p l e rm_X10_cover s m args below meth c H locs 0 0 (MQ below (q_X10_cover dC dI cI cC cZ cB cJ A a_m oJ uD dY iJ lJ jQ jR jW jK pJ bM aY jO gR gY mK jZ iY bG mJ jB mQ lY eJ bY bW aG jG bQ dG jY m_length qG uW eY aJ aB bU dN aR aE bJ aW bT gJ dU bL bR bO mY pW tD post) args s 0 0 A) (F0 m 4 ls [])) : ∀ (x1 x2 x3 k0 : Int32) (H : Heap) (locs : List Loc) (ls : Array Slot), (ws_X10_cover_45 post K4 aG tD) x1 x2 x3 k0 → va_P (dC, dI) classes (wd_X10_cover cI cC cZ cB cJ a_m oJ uD dY iJ lJ jQ jR jW jK pJ bM aY jO gR gY mK jZ iY bG mJ jB mQ lY eJ bY bW aG jG bQ dG jY m_length qG uW eY aJ aB bU dN aR aE bJ aW bT gJ dU bL bR bO mY pW tD) H → va_D A (wd_X10_cover cI cC cZ cB cJ a_m oJ uD dY iJ lJ jQ jR jW jK pJ bM aY jO gR gY mK jZ iY bG mJ jB mQ lY eJ bY bW aG jG bQ dG jY m_length qG uW eY aJ aB bU dN aR aE bJ aW bT gJ dU bL bR bO mY pW tD) → va_S A s.heap H locs → lv_has ls 5 [(0, .ref a_m), (1, .int x1), (2, .int x2), (3, .int x3)] → W p l e rm_X10_cover s m args below meth c H locs 0 0 (MQ below (q_X10_cover dC dI cI cC cZ cB cJ A a_m oJ uD dY iJ lJ jQ jR jW jK pJ bM aY jO gR gY mK jZ iY bG mJ jB mQ lY eJ bY bW aG jG bQ dG jY m_length qG uW eY aJ aB bU dN aR aE bJ aW bT gJ dU bL bR bO mY pW tD post) args s 0 0 A) (F0 m 45 ls [.int k0]) := by
  obtain ⟨hx, hb, hr, hml, hown, hts, hlocks, hA, hK, hN, tL, tM, hZL, hTL, hZM, hTM, hZX⟩ := id C0
  intro x1 x2 x3 k0 H locs ls hp hP hD hS hl
  unfold ws_X10_cover_45 at hp
  refine lv_istore (lv' := [(4, .int k0), (0, .ref a_m), (1, .int x1), (2, .int x2), (3, .int x3)]) hx hb eX10_cover_24.2.2.2.2.2.2.2.2.2.2.2.1 hl (by decide) rfl (fun ls hl => ?_)
  refine lv_iload hx hb eX10_cover_24.2.2.2.2.2.2.2.2.2.2.2.2.1 (lv_at hl 0 rfl) ?_
  refine lv_if_lt (tgt := 65) hx hb eX10_cover_24.2.2.2.2.2.2.2.2.2.2.2.2.2.1 (by decide) (fun hc => ?_) (fun hc => ?_)
  · have hp := hp.1 hc
    exact ks_X10_cover_65 C0 hK4 x1 x3 H locs ls hp hP hD hS (lv_sub hl [1, 2, 4] rfl)
  · have hp := hp.2 hc
    refine lv_iload hx hb eX10_cover_24.2.2.2.2.2.2.2.2.2.2.2.2.2.2.1 (lv_at hl 0 rfl) ?_
    refine lv_if_ne (tgt := 67) hx hb eX10_cover_24.2.2.2.2.2.2.2.2.2.2.2.2.2.2.2 (by decide) (fun hc => ?_) (fun hc => ?_)
    · have hp := hp.1 hc
      exact ks_X10_cover_67 C0 hK4 x1 x2 x3 H locs ls hp hP hD hS (lv_sub hl [1, 2, 3, 4] rfl)
    · have hp := hp.2 hc
      refine lv_iload_n hx hb eX10_cover_57.1 rfl (lv_at hl 4 rfl) ?_
      refine lv_iload_n hx hb eX10_cover_57.2.1 rfl (lv_at hl 3 rfl) ?_
      refine g_calli (wc := (wd_X10_isRowAhead cI cC cZ cB cJ)) hP hD hS hA [] [0, 1] rfl rfl rfl rfl (g_runS (As := [.int x3, .int x2]) (rest := []) C0 hP hD hS [] rfl rfl (c_X10_isRowAhead l dC dI cI cC cZ cB cJ H.size x3 x2 _ hp) q_895 q_897 q_896 q_642 h_X10_isRowAhead rfl rfl ⟨Nat.le_of_ble_eq_true rfl, Nat.le_of_ble_eq_true rfl⟩ rfl rfl hl.1 rfl (lv_room (Nat.le_of_ble_eq_true rfl)) eX10_cover_57.2.2.1 ⟨Nat.zero_le _, Nat.zero_le _⟩) (fun r_7 u H locs hp hP hD hS => ?_)
      have hPD := PDs (ws' := (wd_X10_cover cI cC cZ cB cJ a_m oJ uD dY iJ lJ jQ jR jW jK pJ bM aY jO gR gY mK jZ iY bG mJ jB mQ lY eJ bY bW aG jG bQ dG jY m_length qG uW eY aJ aB bU dN aR aE bJ aW bT gJ dU bL bR bO mY pW tD)) hP hD [0, 1] (by decide) rfl
      have hP := hPD.1
      have hD := hPD.2
      refine lv_if_eq (tgt := 67) hx hb eX10_cover_57.2.2.2.1 (by decide) (fun hc => ?_) (fun hc => ?_)
      · have hp := hp.1 hc
        exact ks_X10_cover_67 C0 hK4 x1 x2 x3 H locs ls hp hP hD hS (lv_sub hl [1, 2, 3, 4] rfl)
      · have hp := hp.2 hc
        exact ks_X10_cover_65 C0 hK4 x1 x3 H locs ls hp hP hD hS (lv_sub hl [1, 2, 4] rfl)
noncomputable def ws_X10_cover_4 (post : Int32 → Prop) (next : Int32 → Int32 → Int32 → Prop) (aG : Int32) (tD : Nat → Int32) (x1 x2 x3 : Int32) : Prop := wp_X10_allStandings (fun r_1 => (r_1 < x3 → post x2) ∧ (¬ r_1 < x3 → wp_X10_handOf (fun r_2 => ((x1 &&& (r_2 ^^^ (-1))) = 0 → (¬ x2 = (-1) → wp_J6_bitCount_0f7a4 (fun r_3 => wp_J6_bitCount_0f7a4 (fun r_4 => ∀ v_5 : Int32, v_5 = r_3 - r_4 → ws_X10_cover_45 post next aG tD x1 x2 x3 v_5) x2) x3) ∧ (x2 = (-1) → ws_X10_cover_45 post next aG tD x1 x2 x3 (-1))) ∧ (¬ (x1 &&& (r_2 ^^^ (-1))) = 0 → ws_X10_cover_67 post next aG tD x1 x2 x3)) x3 aG tD)) aG
noncomputable def wb_X10_cover_4 (post : Int32 → Prop) (aG : Int32) (tD : Nat → Int32) : Nat → Int32 → Int32 → Int32 → Prop := fun n => Nat.rec (motive := fun _ => Int32 → Int32 → Int32 → Prop) (fun _ _ _ => False) (fun _ ih => ws_X10_cover_4 post ih aG tD) n
set_option maxHeartbeats 4000000 in
set_option maxRecDepth 100000 in
theorem ks_X10_cover_4 (C0 : gc cX10_cover (some .int) 5 RX10 (dC, dI) (tyl cI cC cZ cB cJ) A p s m args meth c) {next : Int32 → Int32 → Int32 → Prop} (hKn : ∀ (x1 : Int32) (x2 : Int32) (x3 : Int32) (H : Heap) (locs : List Loc) (ls : Array Slot), next x1 x2 x3 → va_P (dC, dI) classes (wd_X10_cover cI cC cZ cB cJ a_m oJ uD dY iJ lJ jQ jR jW jK pJ bM aY jO gR gY mK jZ iY bG mJ jB mQ lY eJ bY bW aG jG bQ dG jY m_length qG uW eY aJ aB bU dN aR aE bJ aW bT gJ dU bL bR bO mY pW tD) H → va_D A (wd_X10_cover cI cC cZ cB cJ a_m oJ uD dY iJ lJ jQ jR jW jK pJ bM aY jO gR gY mK jZ iY bG mJ jB mQ lY eJ bY bW aG jG bQ dG jY m_length qG uW eY aJ aB bU dN aR aE bJ aW bT gJ dU bL bR bO mY pW tD) → va_S A s.heap H locs → lv_has ls 5 [(0, .ref a_m), (1, .int x1), (2, .int x2), (3, .int x3)] → W p l e rm_X10_cover s m args below meth c H locs 0 0 (MQ below (q_X10_cover dC dI cI cC cZ cB cJ A a_m oJ uD dY iJ lJ jQ jR jW jK pJ bM aY jO gR gY mK jZ iY bG mJ jB mQ lY eJ bY bW aG jG bQ dG jY m_length qG uW eY aJ aB bU dN aR aE bJ aW bT gJ dU bL bR bO mY pW tD post) args s 0 0 A) (F0 m 4 ls [])) : ∀ (x1 x2 x3 : Int32) (H : Heap) (locs : List Loc) (ls : Array Slot), (ws_X10_cover_4 post next aG tD) x1 x2 x3 → va_P (dC, dI) classes (wd_X10_cover cI cC cZ cB cJ a_m oJ uD dY iJ lJ jQ jR jW jK pJ bM aY jO gR gY mK jZ iY bG mJ jB mQ lY eJ bY bW aG jG bQ dG jY m_length qG uW eY aJ aB bU dN aR aE bJ aW bT gJ dU bL bR bO mY pW tD) H → va_D A (wd_X10_cover cI cC cZ cB cJ a_m oJ uD dY iJ lJ jQ jR jW jK pJ bM aY jO gR gY mK jZ iY bG mJ jB mQ lY eJ bY bW aG jG bQ dG jY m_length qG uW eY aJ aB bU dN aR aE bJ aW bT gJ dU bL bR bO mY pW tD) → va_S A s.heap H locs → lv_has ls 5 [(0, .ref a_m), (1, .int x1), (2, .int x2), (3, .int x3)] → W p l e rm_X10_cover s m args below meth c H locs 0 0 (MQ below (q_X10_cover dC dI cI cC cZ cB cJ A a_m oJ uD dY iJ lJ jQ jR jW jK pJ bM aY jO gR gY mK jZ iY bG mJ jB mQ lY eJ bY bW aG jG bQ dG jY m_length qG uW eY aJ aB bU dN aR aE bJ aW bT gJ dU bL bR bO mY pW tD post) args s 0 0 A) (F0 m 4 ls []) := by
  obtain ⟨hx, hb, hr, hml, hown, hts, hlocks, hA, hK, hN, tL, tM, hZL, hTL, hZM, hTM, hZX⟩ := id C0
  intro x1 x2 x3 H locs ls hp hP hD hS hl
  unfold ws_X10_cover_4 at hp
  refine lv_iload_n hx hb eX10_cover_0.2.2.2.2.1 rfl (lv_at hl 3 rfl) ?_
  refine lv_aload_n hx hb eX10_cover_0.2.2.2.2.2.1 rfl (lv_at hl 0 rfl) ?_
  refine g_calli (wc := (wd_X10_allStandings cI cC cZ cB cJ a_m oJ uD dY iJ lJ jQ jR jW jK pJ bM aY jO gR gY mK jZ iY bG mJ jB mQ lY eJ bY bW aG jG bQ dG jY m_length qG uW eY aJ aB bU dN aR aE bJ aW bT gJ dU bL bR bO mY pW)) hP hD hS hA [0] [1] rfl rfl rfl rfl (g_runV (As := []) (rest := [.int x3]) C0 hP hD hS [0] rfl rfl 0 10 rfl rfl (c_X10_allStandings l dC dI cI cC cZ cB cJ a_m oJ uD dY iJ lJ jQ jR jW jK pJ bM aY jO gR gY mK jZ iY bG mJ jB mQ lY eJ bY H.size bW aG jG bQ dG jY m_length qG uW eY aJ aB bU dN aR aE bJ aW bT gJ dU bL bR bO mY pW _ hp) q_870 q_873 q_871 q_872 q_642 h_X10_allStandings rfl rfl ⟨Nat.le_of_ble_eq_true rfl, Nat.le_of_ble_eq_true rfl⟩ rfl rfl hl.1 rfl (lv_room (Nat.le_of_ble_eq_true rfl)) eX10_cover_0.2.2.2.2.2.2.1 ⟨Nat.zero_le _, Nat.zero_le _⟩) (fun r_1 u H locs hp hP hD hS => ?_)
  have hPD := PDs (ws' := (wd_X10_cover cI cC cZ cB cJ a_m oJ uD dY iJ lJ jQ jR jW jK pJ bM aY jO gR gY mK jZ iY bG mJ jB mQ lY eJ bY bW aG jG bQ dG jY m_length qG uW eY aJ aB bU dN aR aE bJ aW bT gJ dU bL bR bO mY pW tD)) hP hD [1, 0] (by decide) rfl
  have hP := hPD.1
  have hD := hPD.2
  refine lv_icmp_gt (tgt := 73) hx hb eX10_cover_0.2.2.2.2.2.2.2.1 (by decide) (fun hc => ?_) (fun hc => ?_)
  · have hp := hp.1 hc
    refine lv_iload_n hx hb eX10_cover_57.2.2.2.2.2.2.2.2.1 rfl (lv_at hl 2 rfl) ?_
    exact W.iret (v := x2) hx hb hr (fun t ht hW => ⟨⟨x2, (), rfl, hp, by rw [ht]; exact hP, va_K.moved hW.alike hK, hD⟩, hS.F ht⟩) hS.2.2 eX10_cover_57.2.2.2.2.2.2.2.2.2
  · have hp := hp.2 hc
    refine lv_iload_n hx hb eX10_cover_0.2.2.2.2.2.2.2.2.1 rfl (lv_at hl 1 rfl) ?_
    refine lv_aload_n hx hb eX10_cover_0.2.2.2.2.2.2.2.2.2.1 rfl (lv_at hl 0 rfl) ?_
    refine lv_iload_n hx hb eX10_cover_0.2.2.2.2.2.2.2.2.2.2.1 rfl (lv_at hl 3 rfl) ?_
    refine g_calli (wc := (wd_X10_handOf cI cC cZ cB cJ a_m oJ uD dY iJ lJ jQ jR jW jK pJ bM aY jO gR gY mK jZ iY bG mJ jB mQ lY eJ bY bW aG jG bQ dG jY m_length qG uW eY aJ aB bU dN aR aE bJ aW bT gJ dU bL bR bO mY pW tD)) hP hD hS hA [0, 1] [] rfl rfl rfl rfl (g_runV (As := [.int x3]) (rest := [.int x1]) C0 hP hD hS [0, 1] rfl rfl 0 10 rfl rfl (c_X10_handOf l dC dI cI cC cZ cB cJ a_m oJ uD dY iJ lJ jQ jR jW jK pJ bM aY jO gR gY mK jZ iY bG mJ jB mQ lY eJ bY H.size x3 bW aG jG bQ dG jY m_length qG uW eY aJ aB bU dN aR aE bJ aW bT gJ dU bL bR bO mY pW tD _ hp) q_874 q_877 q_875 q_876 q_642 h_X10_handOf rfl rfl ⟨Nat.le_of_ble_eq_true rfl, Nat.le_of_ble_eq_true rfl⟩ rfl rfl hl.1 rfl (lv_room (Nat.le_of_ble_eq_true rfl)) eX10_cover_0.2.2.2.2.2.2.2.2.2.2.2.1 ⟨Nat.zero_le _, Nat.zero_le _⟩) (fun r_2 u H locs hp hP hD hS => ?_)
    have hPD := PDs (ws' := (wd_X10_cover cI cC cZ cB cJ a_m oJ uD dY iJ lJ jQ jR jW jK pJ bM aY jO gR gY mK jZ iY bG mJ jB mQ lY eJ bY bW aG jG bQ dG jY m_length qG uW eY aJ aB bU dN aR aE bJ aW bT gJ dU bL bR bO mY pW tD)) hP hD [0, 1] (by decide) rfl
    have hP := hPD.1
    have hD := hPD.2
    refine lv_iconst (v := (-1)) hx hb eX10_cover_0.2.2.2.2.2.2.2.2.2.2.2.2.1 ic_m1 ?_
    refine lv_ixor hx hb eX10_cover_0.2.2.2.2.2.2.2.2.2.2.2.2.2.1 ?_
    refine lv_iand hx hb eX10_cover_0.2.2.2.2.2.2.2.2.2.2.2.2.2.2.1 ?_
    refine lv_if_eq (tgt := 27) hx hb eX10_cover_0.2.2.2.2.2.2.2.2.2.2.2.2.2.2.2 (by decide) (fun hc => ?_) (fun hc => ?_)
    · have hp := hp.1 hc
      refine lv_iload_n hx hb eX10_cover_24.2.1 rfl (lv_at hl 2 rfl) ?_
      refine lv_iconst (v := (-1)) hx hb eX10_cover_24.2.2.1 ic_m1 ?_
      refine lv_icmp_ne (tgt := 36) hx hb eX10_cover_24.2.2.2.1 (by decide) (fun hc => ?_) (fun hc => ?_)
      · have hp := hp.1 hc
        refine lv_iload_n hx hb eX10_cover_24.2.2.2.2.2.2.1 rfl (lv_at hl 3 rfl) ?_
        refine g_calli (wc := (wd_J6_bitCount_0f7a4 cI cC cZ cB cJ)) hP hD hS hA [] [0, 1] rfl rfl rfl rfl (g_runS (As := [.int x3]) (rest := []) C0 hP hD hS [] rfl rfl (c_J6_bitCount_0f7a4 l dC dI cI cC cZ cB cJ H.size x3 _ hp) q_320 q_803 q_322 q_321 h_J6_bitCount_0f7a4 rfl rfl ⟨Nat.le_of_ble_eq_true rfl, Nat.le_of_ble_eq_true rfl⟩ rfl rfl hl.1 rfl (lv_room (Nat.le_of_ble_eq_true rfl)) eX10_cover_24.2.2.2.2.2.2.2.1 ⟨Nat.zero_le _, Nat.zero_le _⟩) (fun r_3 u H locs hp hP hD hS => ?_)
        have hPD := PDs (ws' := (wd_X10_cover cI cC cZ cB cJ a_m oJ uD dY iJ lJ jQ jR jW jK pJ bM aY jO gR gY mK jZ iY bG mJ jB mQ lY eJ bY bW aG jG bQ dG jY m_length qG uW eY aJ aB bU dN aR aE bJ aW bT gJ dU bL bR bO mY pW tD)) hP hD [0, 1] (by decide) rfl
        have hP := hPD.1
        have hD := hPD.2
        refine lv_iload_n hx hb eX10_cover_24.2.2.2.2.2.2.2.2.1 rfl (lv_at hl 2 rfl) ?_
        refine g_calli (wc := (wd_J6_bitCount_0f7a4 cI cC cZ cB cJ)) hP hD hS hA [] [0, 1] rfl rfl rfl rfl (g_runS (As := [.int x2]) (rest := [.int r_3]) C0 hP hD hS [] rfl rfl (c_J6_bitCount_0f7a4 l dC dI cI cC cZ cB cJ H.size x2 _ hp) q_320 q_803 q_322 q_321 h_J6_bitCount_0f7a4 rfl rfl ⟨Nat.le_of_ble_eq_true rfl, Nat.le_of_ble_eq_true rfl⟩ rfl rfl hl.1 rfl (lv_room (Nat.le_of_ble_eq_true rfl)) eX10_cover_24.2.2.2.2.2.2.2.2.2.1 ⟨Nat.zero_le _, Nat.zero_le _⟩) (fun r_4 u H locs hp hP hD hS => ?_)
        have hPD := PDs (ws' := (wd_X10_cover cI cC cZ cB cJ a_m oJ uD dY iJ lJ jQ jR jW jK pJ bM aY jO gR gY mK jZ iY bG mJ jB mQ lY eJ bY bW aG jG bQ dG jY m_length qG uW eY aJ aB bU dN aR aE bJ aW bT gJ dU bL bR bO mY pW tD)) hP hD [0, 1] (by decide) rfl
        have hP := hPD.1
        have hD := hPD.2
        refine lv_isub hx hb eX10_cover_24.2.2.2.2.2.2.2.2.2.2.1 ?_
        refine lv_topi (fun v_5 ev_5 => ?_)
        have hp := hp v_5 ev_5
        exact ks_X10_cover_45 C0 hKn x1 x2 x3 v_5 H locs ls hp hP hD hS (lv_sub hl [0, 1, 2, 3] rfl)
      · have hp := hp.2 hc
        refine lv_iconst (v := (-1)) hx hb eX10_cover_24.2.2.2.2.1 ic_m1 ?_
        refine lv_goto (tgt := 45) hx hb eX10_cover_24.2.2.2.2.2.1 (by decide) ?_
        exact ks_X10_cover_45 C0 hKn x1 x2 x3 (-1) H locs ls hp hP hD hS (lv_sub hl [0, 1, 2, 3] rfl)
    · have hp := hp.2 hc
      refine lv_goto (tgt := 67) hx hb eX10_cover_24.1 (by decide) ?_
      exact ks_X10_cover_67 C0 hKn x1 x2 x3 H locs ls hp hP hD hS (lv_sub hl [0, 1, 2, 3] rfl)
set_option maxHeartbeats 4000000 in
set_option maxRecDepth 100000 in
theorem kb_X10_cover_4 (C0 : gc cX10_cover (some .int) 5 RX10 (dC, dI) (tyl cI cC cZ cB cJ) A p s m args meth c) : ∀ (n : Nat), ∀ (x1 x2 x3 : Int32) (H : Heap) (locs : List Loc) (ls : Array Slot), (wb_X10_cover_4 post aG tD n) x1 x2 x3 → va_P (dC, dI) classes (wd_X10_cover cI cC cZ cB cJ a_m oJ uD dY iJ lJ jQ jR jW jK pJ bM aY jO gR gY mK jZ iY bG mJ jB mQ lY eJ bY bW aG jG bQ dG jY m_length qG uW eY aJ aB bU dN aR aE bJ aW bT gJ dU bL bR bO mY pW tD) H → va_D A (wd_X10_cover cI cC cZ cB cJ a_m oJ uD dY iJ lJ jQ jR jW jK pJ bM aY jO gR gY mK jZ iY bG mJ jB mQ lY eJ bY bW aG jG bQ dG jY m_length qG uW eY aJ aB bU dN aR aE bJ aW bT gJ dU bL bR bO mY pW tD) → va_S A s.heap H locs → lv_has ls 5 [(0, .ref a_m), (1, .int x1), (2, .int x2), (3, .int x3)] → W p l e rm_X10_cover s m args below meth c H locs 0 0 (MQ below (q_X10_cover dC dI cI cC cZ cB cJ A a_m oJ uD dY iJ lJ jQ jR jW jK pJ bM aY jO gR gY mK jZ iY bG mJ jB mQ lY eJ bY bW aG jG bQ dG jY m_length qG uW eY aJ aB bU dN aR aE bJ aW bT gJ dU bL bR bO mY pW tD post) args s 0 0 A) (F0 m 4 ls []) := by
  intro n
  induction n with
  | zero =>
    intro x1 x2 x3 H locs ls hp
    exact False.elim hp
  | succ n ih =>
    intro x1 x2 x3 H locs ls hp
    exact ks_X10_cover_4 C0 ih x1 x2 x3 H locs ls hp
end S_X10_cover
noncomputable def wp_X10_cover (post : Int32 → Prop) (p0 aG : Int32) (tD : Nat → Int32) : Prop := ∃ n : Nat, wb_X10_cover_4 post aG tD n p0 (-1) 0
set_option maxHeartbeats 4000000 in
set_option maxRecDepth 100000 in
theorem c_X10_cover (l : Launch) (dC : Nat → ClassId) (dI : Nat → Nat → Nat) (cI cC cZ cB cJ : ClassId) (a_m oJ uD dY iJ lJ jQ jR jW jK pJ bM aY jO gR gY mK jZ iY bG mJ jB mQ lY eJ bY sz : Nat) (p0 bW aG jG bQ dG : Int32) (jY : Nat) (m_length qG uW eY aJ aB bU dN aR aE bJ aW bT gJ dU bL bR bO mY pW : Int32) (tD : Nat → Int32) (post : Int32 → Prop) (hw : wp_X10_cover post p0 aG tD) : Met l yX10_cover (gw yX10_cover cX10_cover 5 (some .int)) rm_X10_cover (va_Pc [.ref a_m, .int p0] (gPre (dC, dI) (tyl cI cC cZ cB cJ) (wd_X10_cover cI cC cZ cB cJ a_m oJ uD dY iJ lJ jQ jR jW jK pJ bM aY jO gR gY mK jZ iY bG mJ jB mQ lY eJ bY bW aG jG bQ dG jY m_length qG uW eY aJ aB bU dN aR aE bJ aW bT gJ dU bL bR bO mY pW tD) sz)) (q_X10_cover dC dI cI cC cZ cB cJ (va_A (wd_X10_cover cI cC cZ cB cJ a_m oJ uD dY iJ lJ jQ jR jW jK pJ bM aY jO gR gY mK jZ iY bG mJ jB mQ lY eJ bY bW aG jG bQ dG jY m_length qG uW eY aJ aB bU dN aR aE bJ aW bT gJ dU bL bR bO mY pW tD) sz) a_m oJ uD dY iJ lJ jQ jR jW jK pJ bM aY jO gR gY mK jZ iY bG mJ jB mQ lY eJ bY bW aG jG bQ dG jY m_length qG uW eY aJ aB bU dN aR aE bJ aW bT gJ dU bL bR bO mY pW tD post) 0 0 (va_A (wd_X10_cover cI cC cZ cB cJ a_m oJ uD dY iJ lJ jQ jR jW jK pJ bM aY jO gR gY mK jZ iY bG mJ jB mQ lY eJ bY bW aG jG bQ dG jY m_length qG uW eY aJ aB bU dN aR aE bJ aW bT gJ dU bL bR bO mY pW tD) sz) := by
  refine g_enter (own := RX10) (dC, dI) (tyl cI cC cZ cB cJ) (wd_X10_cover cI cC cZ cB cJ a_m oJ uD dY iJ lJ jQ jR jW jK pJ bM aY jO gR gY mK jZ iY bG mJ jB mQ lY eJ bY bW aG jG bQ dG jY m_length qG uW eY aJ aB bU dN aR aE bJ aW bT gJ dU bL bR bO mY pW tD) sz [.ref a_m, .int p0] (fun A => q_X10_cover dC dI cI cC cZ cB cJ A a_m oJ uD dY iJ lJ jQ jR jW jK pJ bM aY jO gR gY mK jZ iY bG mJ jB mQ lY eJ bY bW aG jG bQ dG jY m_length qG uW eY aJ aB bU dN aR aE bJ aW bT gJ dU bL bR bO mY pW tD post) pn_RX10 rfl (Nat.le_of_ble_eq_true rfl) ?_
  intro p e s m args below meth c A H locs ls C0 hP hD hS hl
  have hl : lv_has ls 5 [(0, .ref a_m), (1, .int p0)] := hl
  obtain ⟨hx, hb, hr, hml, hown, hts, hlocks, hA, hK, hN, tL, tM, hZL, hTL, hZM, hTM, hZX⟩ := id C0
  have hp := hw
  unfold wp_X10_cover at hp
  refine lv_iconst (v := (-1)) hx hb eX10_cover_0.1 ic_m1 ?_
  refine lv_istore_n (lv' := [(2, .int (-1)), (0, .ref a_m), (1, .int p0)]) hx hb eX10_cover_0.2.1 rfl hl (by decide) rfl (fun ls hl => ?_)
  refine lv_iconst (v := 0) hx hb eX10_cover_0.2.2.1 ic_0 ?_
  refine lv_istore_n (lv' := [(3, .int 0), (2, .int (-1)), (0, .ref a_m), (1, .int p0)]) hx hb eX10_cover_0.2.2.2.1 rfl hl (by decide) rfl (fun ls hl => ?_)
  obtain ⟨n9, hp⟩ := hp
  exact kb_X10_cover_4 C0 n9 p0 (-1) 0 H locs ls hp hP hD hS (lv_sub hl [2, 3, 1, 0] rfl)
noncomputable abbrev wd_X10_tellCover (cI cC cZ cB cJ : ClassId) (a_m oJ uD dY iJ lJ jQ jR jW jK pJ bM aY jO gR gY mK jZ iY bG mJ jB mQ lY eJ bY : Nat) (bW aG jG bQ dG : Int32) (jY : Nat) (m_length qG uW eY aJ aB bU dN aR aE bJ aW bT gJ dU bL bR bO mY pW : Int32) (uM tD : Nat → Int32) : va_W := [(a_m, .inr (10, [.ref oJ, .int bW, .ref uD, .ref dY, .ref iJ, .ref lJ, .int aG, .ref jQ, .ref jR, .ref jW, .ref jK, .int jG, .ref pJ, .int bQ, .int dG, rdv jK jO jY, .int m_length, .int qG, .int uW, .int eY, .ref bM, .ref aY, .int aJ, .int aB, .ref jO, .int bU, .int dN, .int aR, .int aE, .int bJ, .int aW, .ref gR, .int bT, .ref gY, .ref mK, .int gJ, .ref jZ, .int dU, .ref iY, .ref bG, .int bL, .int bR, .int bO, .ref mJ, .ref jB, .ref mQ, .int mY, .int pW, .ref lY, .ref eJ, .ref bY])), (pJ, .inl (cI, 32, .inl uM)), (jZ, .inl (cI, 8, .inl tD))]
noncomputable abbrev q_X10_tellCover (dC : Nat → ClassId) (dI : Nat → Nat → Nat) (cI cC cZ cB cJ : ClassId) (A : Nat → Prop) (a_m oJ uD dY iJ lJ jQ jR jW jK pJ bM aY jO gR gY mK jZ iY bG mJ jB mQ lY eJ bY : Nat) (bW aG jG dG : Int32) (jY : Nat) (m_length qG uW eY aJ aB bU dN aR aE bJ aW bT gJ dU bL bR bO mY pW : Int32) (tD : Nat → Int32) (post : Int32 → Int32 → (Nat → Int32) → Prop) : Array Value → State → Outcome → State → Prop := va_Qi (fun (r : Int32) (u : Int32 × (Nat → Int32)) => post r u.1 u.2) (fun u t => gB (dC, dI) (tyl cI cC cZ cB cJ) A (wd_X10_tellCover cI cC cZ cB cJ a_m oJ uD dY iJ lJ jQ jR jW jK pJ bM aY jO gR gY mK jZ iY bG mJ jB mQ lY eJ bY bW aG jG u.1 dG jY m_length qG uW eY aJ aB bU dN aR aE bJ aW bT gJ dU bL bR bO mY pW u.2 tD) t) A
noncomputable abbrev rm_X10_tellCover : Room := { frames := 3, cells := 0, slots := 0, locals := 68 }
section S_X10_tellCover
variable {p : Program} {l : Launch} {e : Env} {s : State} {m : MethodId} {args : Array Value} {below : List Frame} {meth : Method} {c : Code} {dC : Nat → ClassId} {dI : Nat → Nat → Nat} {cI cC cZ cB cJ : ClassId} {A : Nat → Prop} {a_m oJ uD dY iJ lJ jQ jR jW jK pJ bM aY jO gR gY mK jZ iY bG mJ jB mQ lY eJ bY : Nat} {bW aG jG dG : Int32} {jY : Nat} {m_length qG uW eY aJ aB bU dN aR aE bJ aW bT gJ dU bL bR bO mY pW : Int32} {tD : Nat → Int32} {post : Int32 → Int32 → (Nat → Int32) → Prop}
noncomputable def ws_X10_tellCover_34 (post : Int32 → Int32 → (Nat → Int32) → Prop) (K13 : Int32 → Int32 → Int32 → (Nat → Int32) → Prop) (aG : Int32) (tD : Nat → Int32) (x2 x3 bQ : Int32) (uM : Nat → Int32) : Prop := ∀ v_4 : Int32, v_4 = x3 + 1 → K13 x2 v_4 bQ uM
set_option maxHeartbeats 4000000 in
set_option maxRecDepth 100000 in
theorem ks_X10_tellCover_34 (C0 : gc cX10_tellCover (some .int) 4 RX10 (dC, dI) (tyl cI cC cZ cB cJ) A p s m args meth c) {K13 : Int32 → Int32 → Int32 → (Nat → Int32) → Prop} (hK13 : ∀ (x2 : Int32) (x3 : Int32) (bQ : Int32) (uM : Nat → Int32) (H : Heap) (locs : List Loc) (ls : Array Slot), K13 x2 x3 bQ uM → va_P (dC, dI) classes (wd_X10_tellCover cI cC cZ cB cJ a_m oJ uD dY iJ lJ jQ jR jW jK pJ bM aY jO gR gY mK jZ iY bG mJ jB mQ lY eJ bY bW aG jG bQ dG jY m_length qG uW eY aJ aB bU dN aR aE bJ aW bT gJ dU bL bR bO mY pW uM tD) H → va_D A (wd_X10_tellCover cI cC cZ cB cJ a_m oJ uD dY iJ lJ jQ jR jW jK pJ bM aY jO gR gY mK jZ iY bG mJ jB mQ lY eJ bY bW aG jG bQ dG jY m_length qG uW eY aJ aB bU dN aR aE bJ aW bT gJ dU bL bR bO mY pW uM tD) → va_S A s.heap H locs → lv_has ls 4 [(0, .ref a_m), (2, .int x2), (3, .int x3)] → W p l e rm_X10_tellCover s m args below meth c H locs 0 0 (MQ below (q_X10_tellCover dC dI cI cC cZ cB cJ A a_m oJ uD dY iJ lJ jQ jR jW jK pJ bM aY jO gR gY mK jZ iY bG mJ jB mQ lY eJ bY bW aG jG dG jY m_length qG uW eY aJ aB bU dN aR aE bJ aW bT gJ dU bL bR bO mY pW tD post) args s 0 0 A) (F0 m 13 ls [])) : ∀ (x2 x3 bQ : Int32) (uM : Nat → Int32) (H : Heap) (locs : List Loc) (ls : Array Slot), (ws_X10_tellCover_34 post K13 aG tD) x2 x3 bQ uM → va_P (dC, dI) classes (wd_X10_tellCover cI cC cZ cB cJ a_m oJ uD dY iJ lJ jQ jR jW jK pJ bM aY jO gR gY mK jZ iY bG mJ jB mQ lY eJ bY bW aG jG bQ dG jY m_length qG uW eY aJ aB bU dN aR aE bJ aW bT gJ dU bL bR bO mY pW uM tD) H → va_D A (wd_X10_tellCover cI cC cZ cB cJ a_m oJ uD dY iJ lJ jQ jR jW jK pJ bM aY jO gR gY mK jZ iY bG mJ jB mQ lY eJ bY bW aG jG bQ dG jY m_length qG uW eY aJ aB bU dN aR aE bJ aW bT gJ dU bL bR bO mY pW uM tD) → va_S A s.heap H locs → lv_has ls 4 [(0, .ref a_m), (2, .int x2), (3, .int x3)] → W p l e rm_X10_tellCover s m args below meth c H locs 0 0 (MQ below (q_X10_tellCover dC dI cI cC cZ cB cJ A a_m oJ uD dY iJ lJ jQ jR jW jK pJ bM aY jO gR gY mK jZ iY bG mJ jB mQ lY eJ bY bW aG jG dG jY m_length qG uW eY aJ aB bU dN aR aE bJ aW bT gJ dU bL bR bO mY pW tD post) args s 0 0 A) (F0 m 34 ls []) := by
  obtain ⟨hx, hb, hr, hml, hown, hts, hlocks, hA, hK, hN, tL, tM, hZL, hTL, hZM, hTM, hZX⟩ := id C0
  intro x2 x3 bQ uM H locs ls hp hP hD hS hl
  unfold ws_X10_tellCover_34 at hp
  obtain ⟨v_4, ev_4⟩ : ∃ y : Int32, y = x3 + 1 := ⟨_, rfl⟩
  refine lv_iinc (v := v_4) (lv' := [(3, .int v_4), (0, .ref a_m), (2, .int x2)]) hx hb eX10_tellCover_26.2.2.2.2.1 hl (k := 2) rfl (by rw [ev_4]; rfl) (by decide) rfl (fun ls hl => ?_)
  have hp := hp v_4 ev_4
  refine lv_goto (tgt := 13) hx hb eX10_tellCover_26.2.2.2.2.2.1 (by decide) ?_
  exact hK13 x2 v_4 bQ uM H locs ls hp hP hD hS (lv_sub hl [1, 2, 0] rfl)
noncomputable def ws_X10_tellCover_13 (post : Int32 → Int32 → (Nat → Int32) → Prop) (next : Int32 → Int32 → Int32 → (Nat → Int32) → Prop) (aG : Int32) (tD : Nat → Int32) (x2 x3 bQ : Int32) (uM : Nat → Int32) : Prop := (aG ≤ x3 → wp_J6_bitCount_0f7a4 (fun r_2 => post r_2 bQ uM) x2) ∧ (¬ aG ≤ x3 → wp_X10_has (fun r_3 => (r_3 = 0 → ws_X10_tellCover_34 post next aG tD x2 x3 bQ uM) ∧ (¬ r_3 = 0 → wp_X10_tell (fun aAI aGl => ws_X10_tellCover_34 post next aG tD x2 x3 aAI aGl) x3 bQ uM)) x2 x3)
noncomputable def wb_X10_tellCover_13 (post : Int32 → Int32 → (Nat → Int32) → Prop) (aG : Int32) (tD : Nat → Int32) : Nat → Int32 → Int32 → Int32 → (Nat → Int32) → Prop := fun n => Nat.rec (motive := fun _ => Int32 → Int32 → Int32 → (Nat → Int32) → Prop) (fun _ _ _ _ => False) (fun _ ih => ws_X10_tellCover_13 post ih aG tD) n
set_option maxHeartbeats 4000000 in
set_option maxRecDepth 100000 in
theorem ks_X10_tellCover_13 (C0 : gc cX10_tellCover (some .int) 4 RX10 (dC, dI) (tyl cI cC cZ cB cJ) A p s m args meth c) {next : Int32 → Int32 → Int32 → (Nat → Int32) → Prop} (hKn : ∀ (x2 : Int32) (x3 : Int32) (bQ : Int32) (uM : Nat → Int32) (H : Heap) (locs : List Loc) (ls : Array Slot), next x2 x3 bQ uM → va_P (dC, dI) classes (wd_X10_tellCover cI cC cZ cB cJ a_m oJ uD dY iJ lJ jQ jR jW jK pJ bM aY jO gR gY mK jZ iY bG mJ jB mQ lY eJ bY bW aG jG bQ dG jY m_length qG uW eY aJ aB bU dN aR aE bJ aW bT gJ dU bL bR bO mY pW uM tD) H → va_D A (wd_X10_tellCover cI cC cZ cB cJ a_m oJ uD dY iJ lJ jQ jR jW jK pJ bM aY jO gR gY mK jZ iY bG mJ jB mQ lY eJ bY bW aG jG bQ dG jY m_length qG uW eY aJ aB bU dN aR aE bJ aW bT gJ dU bL bR bO mY pW uM tD) → va_S A s.heap H locs → lv_has ls 4 [(0, .ref a_m), (2, .int x2), (3, .int x3)] → W p l e rm_X10_tellCover s m args below meth c H locs 0 0 (MQ below (q_X10_tellCover dC dI cI cC cZ cB cJ A a_m oJ uD dY iJ lJ jQ jR jW jK pJ bM aY jO gR gY mK jZ iY bG mJ jB mQ lY eJ bY bW aG jG dG jY m_length qG uW eY aJ aB bU dN aR aE bJ aW bT gJ dU bL bR bO mY pW tD post) args s 0 0 A) (F0 m 13 ls [])) : ∀ (x2 x3 bQ : Int32) (uM : Nat → Int32) (H : Heap) (locs : List Loc) (ls : Array Slot), (ws_X10_tellCover_13 post next aG tD) x2 x3 bQ uM → va_P (dC, dI) classes (wd_X10_tellCover cI cC cZ cB cJ a_m oJ uD dY iJ lJ jQ jR jW jK pJ bM aY jO gR gY mK jZ iY bG mJ jB mQ lY eJ bY bW aG jG bQ dG jY m_length qG uW eY aJ aB bU dN aR aE bJ aW bT gJ dU bL bR bO mY pW uM tD) H → va_D A (wd_X10_tellCover cI cC cZ cB cJ a_m oJ uD dY iJ lJ jQ jR jW jK pJ bM aY jO gR gY mK jZ iY bG mJ jB mQ lY eJ bY bW aG jG bQ dG jY m_length qG uW eY aJ aB bU dN aR aE bJ aW bT gJ dU bL bR bO mY pW uM tD) → va_S A s.heap H locs → lv_has ls 4 [(0, .ref a_m), (2, .int x2), (3, .int x3)] → W p l e rm_X10_tellCover s m args below meth c H locs 0 0 (MQ below (q_X10_tellCover dC dI cI cC cZ cB cJ A a_m oJ uD dY iJ lJ jQ jR jW jK pJ bM aY jO gR gY mK jZ iY bG mJ jB mQ lY eJ bY bW aG jG dG jY m_length qG uW eY aJ aB bU dN aR aE bJ aW bT gJ dU bL bR bO mY pW tD post) args s 0 0 A) (F0 m 13 ls []) := by
  obtain ⟨hx, hb, hr, hml, hown, hts, hlocks, hA, hK, hN, tL, tM, hZL, hTL, hZM, hTM, hZX⟩ := id C0
  intro x2 x3 bQ uM H locs ls hp hP hD hS hl
  unfold ws_X10_tellCover_13 at hp
  refine lv_iload_n hx hb eX10_tellCover_0.2.2.2.2.2.2.2.2.2.1 rfl (lv_at hl 2 rfl) ?_
  refine lv_aload_n hx hb eX10_tellCover_0.2.2.2.2.2.2.2.2.2.2.1 rfl (lv_at hl 0 rfl) ?_
  refine va_get (D := (dC, dI)) (ci := 10) (v := .int aG) (C := RX10) (T := TX10) (N := 51) hx hb hts i_X10 hown hK hP 0 rfl rfl 6 (Nat.le_of_ble_eq_true rfl) (hts _ q_666) (fun _ h9 => h9) rfl eX10_tellCover_0.2.2.2.2.2.2.2.2.2.2.2.1 ?_
  refine lv_icmp_ge (tgt := 40) hx hb eX10_tellCover_0.2.2.2.2.2.2.2.2.2.2.2.2.1 (by decide) (fun hc => ?_) (fun hc => ?_)
  · have hp := hp.1 hc
    refine lv_iload_n hx hb eX10_tellCover_26.2.2.2.2.2.2.1 rfl (lv_at hl 1 rfl) ?_
    have hm := mgk (wc := (wd_J6_bitCount_0f7a4 cI cC cZ cB cJ)) hP aGv 3 rfl rfl rfl
    refine g_calli hP hD hS hA (mixT aGv) (mixF aGv) hm.1 hm.2 (nd_F _) (dis_g _) (g_runS (As := [.int x2]) (rest := []) C0 hP hD hS (mixT aGv) hm.1 (nd_T _) (c_J6_bitCount_0f7a4 l dC dI cI cC cZ cB cJ H.size x2 _ hp) q_320 q_803 q_322 q_321 h_J6_bitCount_0f7a4 rfl rfl ⟨Nat.le_of_ble_eq_true rfl, Nat.le_of_ble_eq_true rfl⟩ rfl rfl hl.1 rfl (lv_room (Nat.le_of_ble_eq_true rfl)) eX10_tellCover_26.2.2.2.2.2.2.2.1 ⟨Nat.zero_le _, Nat.zero_le _⟩) (fun r_2 u H locs hp hP hD hS => ?_)
    have hPD := PDm (ws' := (wd_X10_tellCover cI cC cZ cB cJ a_m oJ uD dY iJ lJ jQ jR jW jK pJ bM aY jO gR gY mK jZ iY bG mJ jB mQ lY eJ bY bW aG jG bQ dG jY m_length qG uW eY aJ aB bU dN aR aE bJ aW bT gJ dU bL bR bO mY pW uM tD)) hP hD 3 rfl rfl rfl
    have hP := hPD.1
    have hD := hPD.2
    exact W.iret (v := r_2) hx hb hr (fun t ht hW => ⟨⟨r_2, (bQ, uM), rfl, hp, by rw [ht]; exact hP, va_K.moved hW.alike hK, hD⟩, hS.F ht⟩) hS.2.2 eX10_tellCover_26.2.2.2.2.2.2.2.2
  · have hp := hp.2 hc
    refine lv_iload_n hx hb eX10_tellCover_0.2.2.2.2.2.2.2.2.2.2.2.2.2.1 rfl (lv_at hl 1 rfl) ?_
    refine lv_iload_n hx hb eX10_tellCover_0.2.2.2.2.2.2.2.2.2.2.2.2.2.2.1 rfl (lv_at hl 2 rfl) ?_
    have hm := mgk (wc := (wd_X10_has cI cC cZ cB cJ)) hP aGv 3 rfl rfl rfl
    refine g_calli hP hD hS hA (mixT aGv) (mixF aGv) hm.1 hm.2 (nd_F _) (dis_g _) (g_runS (As := [.int x2, .int x3]) (rest := []) C0 hP hD hS (mixT aGv) hm.1 (nd_T _) (c_X10_has l dC dI cI cC cZ cB cJ H.size x2 x3 _ hp) q_734 q_736 q_735 q_642 h_X10_has rfl rfl ⟨Nat.le_of_ble_eq_true rfl, Nat.le_of_ble_eq_true rfl⟩ rfl rfl hl.1 rfl (lv_room (Nat.le_of_ble_eq_true rfl)) eX10_tellCover_0.2.2.2.2.2.2.2.2.2.2.2.2.2.2.2 ⟨Nat.zero_le _, Nat.zero_le _⟩) (fun r_3 u H locs hp hP hD hS => ?_)
    have hPD := PDm (ws' := (wd_X10_tellCover cI cC cZ cB cJ a_m oJ uD dY iJ lJ jQ jR jW jK pJ bM aY jO gR gY mK jZ iY bG mJ jB mQ lY eJ bY bW aG jG bQ dG jY m_length qG uW eY aJ aB bU dN aR aE bJ aW bT gJ dU bL bR bO mY pW uM tD)) hP hD 3 rfl rfl rfl
    have hP := hPD.1
    have hD := hPD.2
    refine lv_if_eq (tgt := 34) hx hb eX10_tellCover_26.1 (by decide) (fun hc => ?_) (fun hc => ?_)
    · have hp := hp.1 hc
      exact ks_X10_tellCover_34 C0 hKn x2 x3 bQ uM H locs ls hp hP hD hS (lv_sub hl [0, 1, 2] rfl)
    · have hp := hp.2 hc
      refine lv_aload_n hx hb eX10_tellCover_26.2.1 rfl (lv_at hl 0 rfl) ?_
      refine lv_iload_n hx hb eX10_tellCover_26.2.2.1 rfl (lv_at hl 2 rfl) ?_
      have hm := mgk (wc := (wd_X10_tell cI cC cZ cB cJ a_m oJ uD dY iJ lJ jQ jR jW jK pJ bM aY jO gR gY mK jZ iY bG mJ jB mQ lY eJ bY bW aG jG bQ dG jY m_length qG uW eY aJ aB bU dN aR aE bJ aW bT gJ dU bL bR bO mY pW uM)) hP aCj 3 rfl rfl rfl
      refine g_callv hP hD hS hA (mixT aCj) (mixF aCj) hm.1 hm.2 (nd_F _) (dis_g _) (g_runV (As := [.int x3]) (rest := []) C0 hP hD hS (mixT aCj) hm.1 (nd_T _) 0 10 rfl rfl (c_X10_tell l dC dI cI cC cZ cB cJ a_m oJ uD dY iJ lJ jQ jR jW jK pJ bM aY jO gR gY mK jZ iY bG mJ jB mQ lY eJ bY H.size x3 bW aG jG bQ dG jY m_length qG uW eY aJ aB bU dN aR aE bJ aW bT gJ dU bL bR bO mY pW uM _ hp) q_849 q_852 q_850 q_851 q_642 h_X10_tell rfl rfl ⟨Nat.le_of_ble_eq_true rfl, Nat.le_of_ble_eq_true rfl⟩ rfl rfl hl.1 rfl (lv_room (Nat.le_of_ble_eq_true rfl)) eX10_tellCover_26.2.2.2.1 ⟨Nat.zero_le _, Nat.zero_le _⟩) (fun u H locs hp hP hD hS => ?_)
      obtain ⟨aAI, aGl⟩ := u
      have hPD := PDm (ws' := (wd_X10_tellCover cI cC cZ cB cJ a_m oJ uD dY iJ lJ jQ jR jW jK pJ bM aY jO gR gY mK jZ iY bG mJ jB mQ lY eJ bY bW aG jG aAI dG jY m_length qG uW eY aJ aB bU dN aR aE bJ aW bT gJ dU bL bR bO mY pW aGl tD)) hP hD 3 rfl rfl rfl
      have hP := hPD.1
      have hD := hPD.2
      exact ks_X10_tellCover_34 C0 hKn x2 x3 aAI aGl H locs ls hp hP hD hS (lv_sub hl [0, 1, 2] rfl)
set_option maxHeartbeats 4000000 in
set_option maxRecDepth 100000 in
theorem kb_X10_tellCover_13 (C0 : gc cX10_tellCover (some .int) 4 RX10 (dC, dI) (tyl cI cC cZ cB cJ) A p s m args meth c) : ∀ (n : Nat), ∀ (x2 x3 bQ : Int32) (uM : Nat → Int32) (H : Heap) (locs : List Loc) (ls : Array Slot), (wb_X10_tellCover_13 post aG tD n) x2 x3 bQ uM → va_P (dC, dI) classes (wd_X10_tellCover cI cC cZ cB cJ a_m oJ uD dY iJ lJ jQ jR jW jK pJ bM aY jO gR gY mK jZ iY bG mJ jB mQ lY eJ bY bW aG jG bQ dG jY m_length qG uW eY aJ aB bU dN aR aE bJ aW bT gJ dU bL bR bO mY pW uM tD) H → va_D A (wd_X10_tellCover cI cC cZ cB cJ a_m oJ uD dY iJ lJ jQ jR jW jK pJ bM aY jO gR gY mK jZ iY bG mJ jB mQ lY eJ bY bW aG jG bQ dG jY m_length qG uW eY aJ aB bU dN aR aE bJ aW bT gJ dU bL bR bO mY pW uM tD) → va_S A s.heap H locs → lv_has ls 4 [(0, .ref a_m), (2, .int x2), (3, .int x3)] → W p l e rm_X10_tellCover s m args below meth c H locs 0 0 (MQ below (q_X10_tellCover dC dI cI cC cZ cB cJ A a_m oJ uD dY iJ lJ jQ jR jW jK pJ bM aY jO gR gY mK jZ iY bG mJ jB mQ lY eJ bY bW aG jG dG jY m_length qG uW eY aJ aB bU dN aR aE bJ aW bT gJ dU bL bR bO mY pW tD post) args s 0 0 A) (F0 m 13 ls []) := by
  intro n
  induction n with
  | zero =>
    intro x2 x3 bQ uM H locs ls hp
    exact False.elim hp
  | succ n ih =>
    intro x2 x3 bQ uM H locs ls hp
    exact ks_X10_tellCover_13 C0 ih x2 x3 bQ uM H locs ls hp
end S_X10_tellCover
noncomputable def wp_X10_tellCover (post : Int32 → Int32 → (Nat → Int32) → Prop) (p0 aG bQ : Int32) (uM tD : Nat → Int32) : Prop := wp_X10_cover (fun r_1 => ∃ n : Nat, wb_X10_tellCover_13 post aG tD n r_1 0 0 uM) p0 aG tD
set_option maxHeartbeats 4000000 in
set_option maxRecDepth 100000 in
theorem c_X10_tellCover (l : Launch) (dC : Nat → ClassId) (dI : Nat → Nat → Nat) (cI cC cZ cB cJ : ClassId) (a_m oJ uD dY iJ lJ jQ jR jW jK pJ bM aY jO gR gY mK jZ iY bG mJ jB mQ lY eJ bY sz : Nat) (p0 bW aG jG bQ dG : Int32) (jY : Nat) (m_length qG uW eY aJ aB bU dN aR aE bJ aW bT gJ dU bL bR bO mY pW : Int32) (uM tD : Nat → Int32) (post : Int32 → Int32 → (Nat → Int32) → Prop) (hw : wp_X10_tellCover post p0 aG bQ uM tD) : Met l yX10_tellCover (gw yX10_tellCover cX10_tellCover 4 (some .int)) rm_X10_tellCover (va_Pc [.ref a_m, .int p0] (gPre (dC, dI) (tyl cI cC cZ cB cJ) (wd_X10_tellCover cI cC cZ cB cJ a_m oJ uD dY iJ lJ jQ jR jW jK pJ bM aY jO gR gY mK jZ iY bG mJ jB mQ lY eJ bY bW aG jG bQ dG jY m_length qG uW eY aJ aB bU dN aR aE bJ aW bT gJ dU bL bR bO mY pW uM tD) sz)) (q_X10_tellCover dC dI cI cC cZ cB cJ (va_A (wd_X10_tellCover cI cC cZ cB cJ a_m oJ uD dY iJ lJ jQ jR jW jK pJ bM aY jO gR gY mK jZ iY bG mJ jB mQ lY eJ bY bW aG jG bQ dG jY m_length qG uW eY aJ aB bU dN aR aE bJ aW bT gJ dU bL bR bO mY pW uM tD) sz) a_m oJ uD dY iJ lJ jQ jR jW jK pJ bM aY jO gR gY mK jZ iY bG mJ jB mQ lY eJ bY bW aG jG dG jY m_length qG uW eY aJ aB bU dN aR aE bJ aW bT gJ dU bL bR bO mY pW tD post) 0 0 (va_A (wd_X10_tellCover cI cC cZ cB cJ a_m oJ uD dY iJ lJ jQ jR jW jK pJ bM aY jO gR gY mK jZ iY bG mJ jB mQ lY eJ bY bW aG jG bQ dG jY m_length qG uW eY aJ aB bU dN aR aE bJ aW bT gJ dU bL bR bO mY pW uM tD) sz) := by
  refine g_enter (own := RX10) (dC, dI) (tyl cI cC cZ cB cJ) (wd_X10_tellCover cI cC cZ cB cJ a_m oJ uD dY iJ lJ jQ jR jW jK pJ bM aY jO gR gY mK jZ iY bG mJ jB mQ lY eJ bY bW aG jG bQ dG jY m_length qG uW eY aJ aB bU dN aR aE bJ aW bT gJ dU bL bR bO mY pW uM tD) sz [.ref a_m, .int p0] (fun A => q_X10_tellCover dC dI cI cC cZ cB cJ A a_m oJ uD dY iJ lJ jQ jR jW jK pJ bM aY jO gR gY mK jZ iY bG mJ jB mQ lY eJ bY bW aG jG dG jY m_length qG uW eY aJ aB bU dN aR aE bJ aW bT gJ dU bL bR bO mY pW tD post) pn_RX10 rfl (Nat.le_of_ble_eq_true rfl) ?_
  intro p e s m args below meth c A H locs ls C0 hP hD hS hl
  have hl : lv_has ls 4 [(0, .ref a_m), (1, .int p0)] := hl
  obtain ⟨hx, hb, hr, hml, hown, hts, hlocks, hA, hK, hN, tL, tM, hZL, hTL, hZM, hTM, hZX⟩ := id C0
  have hp := hw
  unfold wp_X10_tellCover at hp
  refine lv_aload_n hx hb eX10_tellCover_0.1 rfl (lv_at hl 0 rfl) ?_
  refine lv_iload_n hx hb eX10_tellCover_0.2.1 rfl (lv_at hl 1 rfl) ?_
  have hm := mgk (wc := (wd_X10_cover cI cC cZ cB cJ a_m oJ uD dY iJ lJ jQ jR jW jK pJ bM aY jO gR gY mK jZ iY bG mJ jB mQ lY eJ bY bW aG jG bQ dG jY m_length qG uW eY aJ aB bU dN aR aE bJ aW bT gJ dU bL bR bO mY pW tD)) hP aGw 3 rfl rfl rfl
  refine g_calli hP hD hS hA (mixT aGw) (mixF aGw) hm.1 hm.2 (nd_F _) (dis_g _) (g_runV (As := [.int p0]) (rest := []) C0 hP hD hS (mixT aGw) hm.1 (nd_T _) 0 10 rfl rfl (c_X10_cover l dC dI cI cC cZ cB cJ a_m oJ uD dY iJ lJ jQ jR jW jK pJ bM aY jO gR gY mK jZ iY bG mJ jB mQ lY eJ bY H.size p0 bW aG jG bQ dG jY m_length qG uW eY aJ aB bU dN aR aE bJ aW bT gJ dU bL bR bO mY pW tD _ hp) q_898 q_901 q_899 q_900 q_642 h_X10_cover rfl rfl ⟨Nat.le_of_ble_eq_true rfl, Nat.le_of_ble_eq_true rfl⟩ rfl rfl hl.1 rfl (lv_room (Nat.le_of_ble_eq_true rfl)) eX10_tellCover_0.2.2.1 ⟨Nat.zero_le _, Nat.zero_le _⟩) (fun r_1 u H locs hp hP hD hS => ?_)
  have hPD := PDm (ws' := (wd_X10_tellCover cI cC cZ cB cJ a_m oJ uD dY iJ lJ jQ jR jW jK pJ bM aY jO gR gY mK jZ iY bG mJ jB mQ lY eJ bY bW aG jG bQ dG jY m_length qG uW eY aJ aB bU dN aR aE bJ aW bT gJ dU bL bR bO mY pW uM tD)) hP hD 3 rfl rfl rfl
  have hP := hPD.1
  have hD := hPD.2
  refine lv_istore_n (lv' := [(2, .int r_1), (0, .ref a_m), (1, .int p0)]) hx hb eX10_tellCover_0.2.2.2.1 rfl hl (by decide) rfl (fun ls hl => ?_)
  refine lv_aload_n hx hb eX10_tellCover_0.2.2.2.2.1 rfl (lv_at hl 1 rfl) ?_
  refine lv_iconst (v := 0) hx hb eX10_tellCover_0.2.2.2.2.2.1 ic_0 ?_
  refine va_put (D := (dC, dI)) (ci := 10) (v := .int 0) (ty := .int) (C := RX10) (T := TX10) (N := 51) hx hb hts i_X10 tyX10 tyX10_ok nmX10 hown hK hP hD hS 0 rfl rfl 13 (Nat.le_of_ble_eq_true rfl) (hts _ q_847) (fun _ h9 => h9) rfl (tyX10_ok 13 (Nat.le_of_ble_eq_true rfl)) rfl rfl (Nat.le_of_ble_eq_true rfl) eX10_tellCover_0.2.2.2.2.2.2.1 (fun H locs hP hD hS => ?_)
  have hP : va_P (dC, dI) classes (wd_X10_tellCover cI cC cZ cB cJ a_m oJ uD dY iJ lJ jQ jR jW jK pJ bM aY jO gR gY mK jZ iY bG mJ jB mQ lY eJ bY bW aG jG 0 dG jY m_length qG uW eY aJ aB bU dN aR aE bJ aW bT gJ dU bL bR bO mY pW uM tD) H := hP
  have hD : va_D A (wd_X10_tellCover cI cC cZ cB cJ a_m oJ uD dY iJ lJ jQ jR jW jK pJ bM aY jO gR gY mK jZ iY bG mJ jB mQ lY eJ bY bW aG jG 0 dG jY m_length qG uW eY aJ aB bU dN aR aE bJ aW bT gJ dU bL bR bO mY pW uM tD) := hD
  refine lv_iconst (v := 0) hx hb eX10_tellCover_0.2.2.2.2.2.2.2.1 ic_0 ?_
  refine lv_istore_n (lv' := [(3, .int 0), (2, .int r_1), (0, .ref a_m), (1, .int p0)]) hx hb eX10_tellCover_0.2.2.2.2.2.2.2.2.1 rfl hl (by decide) rfl (fun ls hl => ?_)
  obtain ⟨n9, hp⟩ := hp
  exact kb_X10_tellCover_13 C0 n9 r_1 0 0 uM H locs ls hp hP hD hS (lv_sub hl [2, 1, 0] rfl)
noncomputable abbrev wd_X10_fewest (cI cC cZ cB cJ : ClassId) (a_m oJ uD dY iJ lJ jQ jR jW jK pJ bM aY jO gR gY mK jZ iY bG mJ jB mQ lY eJ bY : Nat) (bW aG jG bQ dG : Int32) (jY : Nat) (m_length qG uW eY aJ aB bU dN aR aE bJ aW bT gJ dU bL bR bO mY pW : Int32) (rD m_x jA rW oY pR pX uM tD : Nat → Int32) : va_W := [(a_m, .inr (10, [.ref oJ, .int bW, .ref uD, .ref dY, .ref iJ, .ref lJ, .int aG, .ref jQ, .ref jR, .ref jW, .ref jK, .int jG, .ref pJ, .int bQ, .int dG, rdv jK jO jY, .int m_length, .int qG, .int uW, .int eY, .ref bM, .ref aY, .int aJ, .int aB, .ref jO, .int bU, .int dN, .int aR, .int aE, .int bJ, .int aW, .ref gR, .int bT, .ref gY, .ref mK, .int gJ, .ref jZ, .int dU, .ref iY, .ref bG, .int bL, .int bR, .int bO, .ref mJ, .ref jB, .ref mQ, .int mY, .int pW, .ref lY, .ref eJ, .ref bY])), (oJ, .inl (cI, 21, .inl rD)), (uD, .inl (cI, 16, .inl m_x)), (dY, .inl (cI, 16, .inl jA)), (lJ, .inl (cI, 16, .inl rW)), (jQ, .inl (cI, 8, .inl oY)), (jR, .inl (cI, 8, .inl pR)), (jW, .inl (cI, 5, .inl pX)), (pJ, .inl (cI, 32, .inl uM)), (jZ, .inl (cI, 8, .inl tD))]
noncomputable abbrev q_X10_fewest (dC : Nat → ClassId) (dI : Nat → Nat → Nat) (cI cC cZ cB cJ : ClassId) (A : Nat → Prop) (a_m oJ uD dY iJ lJ jQ jR jW jK pJ bM aY jO gR gY mK jZ iY bG mJ jB mQ lY eJ bY : Nat) (bW aG jG : Int32) (jY : Nat) (m_length qG uW eY aJ aB bU dN aR aE bJ aW bT gJ bL bR bO mY pW : Int32) (rD m_x jA rW oY pR pX : Nat → Int32) (post : Int32 → Int32 → Int32 → Int32 → (Nat → Int32) → (Nat → Int32) → Prop) : Array Value → State → Outcome → State → Prop := va_Qi (fun (r : Int32) (u : Int32 × Int32 × Int32 × (Nat → Int32) × (Nat → Int32)) => post r u.1 u.2.1 u.2.2.1 u.2.2.2.1 u.2.2.2.2) (fun u t => gB (dC, dI) (tyl cI cC cZ cB cJ) A (wd_X10_fewest cI cC cZ cB cJ a_m oJ uD dY iJ lJ jQ jR jW jK pJ bM aY jO gR gY mK jZ iY bG mJ jB mQ lY eJ bY bW aG jG u.1 u.2.1 jY m_length qG uW eY aJ aB bU dN aR aE bJ aW bT gJ u.2.2.1 bL bR bO mY pW rD m_x jA rW oY pR pX u.2.2.2.1 u.2.2.2.2) t) A
noncomputable abbrev rm_X10_fewest : Room := { frames := 6, cells := 0, slots := 0, locals := 133 }
noncomputable def wp_X10_fewest (post : Int32 → Int32 → Int32 → Int32 → (Nat → Int32) → (Nat → Int32) → Prop) (bW aG bQ dG dU : Int32) (rD m_x jA rW oY pR pX uM tD : Nat → Int32) : Prop := wp_X10_layHands (fun xX zP => wp_X10_tellCover (fun r_3 aAl aCV => post r_3 aAl 0 xX aCV zP) xX aG bQ uM zP) bW aG dU rD m_x jA rW oY pR pX tD
set_option maxHeartbeats 4000000 in
set_option maxRecDepth 100000 in
theorem c_X10_fewest (l : Launch) (dC : Nat → ClassId) (dI : Nat → Nat → Nat) (cI cC cZ cB cJ : ClassId) (a_m oJ uD dY iJ lJ jQ jR jW jK pJ bM aY jO gR gY mK jZ iY bG mJ jB mQ lY eJ bY sz : Nat) (bW aG jG bQ dG : Int32) (jY : Nat) (m_length qG uW eY aJ aB bU dN aR aE bJ aW bT gJ dU bL bR bO mY pW : Int32) (rD m_x jA rW oY pR pX uM tD : Nat → Int32) (post : Int32 → Int32 → Int32 → Int32 → (Nat → Int32) → (Nat → Int32) → Prop) (hw : wp_X10_fewest post bW aG bQ dG dU rD m_x jA rW oY pR pX uM tD) : Met l yX10_fewest (gw yX10_fewest cX10_fewest 1 (some .int)) rm_X10_fewest (va_Pc [.ref a_m] (gPre (dC, dI) (tyl cI cC cZ cB cJ) (wd_X10_fewest cI cC cZ cB cJ a_m oJ uD dY iJ lJ jQ jR jW jK pJ bM aY jO gR gY mK jZ iY bG mJ jB mQ lY eJ bY bW aG jG bQ dG jY m_length qG uW eY aJ aB bU dN aR aE bJ aW bT gJ dU bL bR bO mY pW rD m_x jA rW oY pR pX uM tD) sz)) (q_X10_fewest dC dI cI cC cZ cB cJ (va_A (wd_X10_fewest cI cC cZ cB cJ a_m oJ uD dY iJ lJ jQ jR jW jK pJ bM aY jO gR gY mK jZ iY bG mJ jB mQ lY eJ bY bW aG jG bQ dG jY m_length qG uW eY aJ aB bU dN aR aE bJ aW bT gJ dU bL bR bO mY pW rD m_x jA rW oY pR pX uM tD) sz) a_m oJ uD dY iJ lJ jQ jR jW jK pJ bM aY jO gR gY mK jZ iY bG mJ jB mQ lY eJ bY bW aG jG jY m_length qG uW eY aJ aB bU dN aR aE bJ aW bT gJ bL bR bO mY pW rD m_x jA rW oY pR pX post) 0 0 (va_A (wd_X10_fewest cI cC cZ cB cJ a_m oJ uD dY iJ lJ jQ jR jW jK pJ bM aY jO gR gY mK jZ iY bG mJ jB mQ lY eJ bY bW aG jG bQ dG jY m_length qG uW eY aJ aB bU dN aR aE bJ aW bT gJ dU bL bR bO mY pW rD m_x jA rW oY pR pX uM tD) sz) := by
  refine g_enter (own := RX10) (dC, dI) (tyl cI cC cZ cB cJ) (wd_X10_fewest cI cC cZ cB cJ a_m oJ uD dY iJ lJ jQ jR jW jK pJ bM aY jO gR gY mK jZ iY bG mJ jB mQ lY eJ bY bW aG jG bQ dG jY m_length qG uW eY aJ aB bU dN aR aE bJ aW bT gJ dU bL bR bO mY pW rD m_x jA rW oY pR pX uM tD) sz [.ref a_m] (fun A => q_X10_fewest dC dI cI cC cZ cB cJ A a_m oJ uD dY iJ lJ jQ jR jW jK pJ bM aY jO gR gY mK jZ iY bG mJ jB mQ lY eJ bY bW aG jG jY m_length qG uW eY aJ aB bU dN aR aE bJ aW bT gJ bL bR bO mY pW rD m_x jA rW oY pR pX post) pn_RX10 rfl (Nat.le_of_ble_eq_true rfl) ?_
  intro p e s m args below meth c A H locs ls C0 hP hD hS hl
  have hl : lv_has ls 1 [(0, .ref a_m)] := hl
  obtain ⟨hx, hb, hr, hml, hown, hts, hlocks, hA, hK, hN, tL, tM, hZL, hTL, hZM, hTM, hZX⟩ := id C0
  have hp := hw
  unfold wp_X10_fewest at hp
  refine lv_aload_n hx hb eX10_fewest_0.1 rfl (lv_at hl 0 rfl) ?_
  refine lv_iconst (v := 0) hx hb eX10_fewest_0.2.1 ic_0 ?_
  refine va_put (D := (dC, dI)) (ci := 10) (v := .int 0) (ty := .int) (C := RX10) (T := TX10) (N := 51) hx hb hts i_X10 tyX10 tyX10_ok nmX10 hown hK hP hD hS 0 rfl rfl 14 (Nat.le_of_ble_eq_true rfl) (hts _ q_638) (fun _ h9 => h9) rfl (tyX10_ok 14 (Nat.le_of_ble_eq_true rfl)) rfl rfl (Nat.le_of_ble_eq_true rfl) eX10_fewest_0.2.2.1 (fun H locs hP hD hS => ?_)
  have hP : va_P (dC, dI) classes (wd_X10_fewest cI cC cZ cB cJ a_m oJ uD dY iJ lJ jQ jR jW jK pJ bM aY jO gR gY mK jZ iY bG mJ jB mQ lY eJ bY bW aG jG bQ 0 jY m_length qG uW eY aJ aB bU dN aR aE bJ aW bT gJ dU bL bR bO mY pW rD m_x jA rW oY pR pX uM tD) H := hP
  have hD : va_D A (wd_X10_fewest cI cC cZ cB cJ a_m oJ uD dY iJ lJ jQ jR jW jK pJ bM aY jO gR gY mK jZ iY bG mJ jB mQ lY eJ bY bW aG jG bQ 0 jY m_length qG uW eY aJ aB bU dN aR aE bJ aW bT gJ dU bL bR bO mY pW rD m_x jA rW oY pR pX uM tD) := hD
  refine lv_aload_n hx hb eX10_fewest_0.2.2.2.1 rfl (lv_at hl 0 rfl) ?_
  have hm := mgk (wc := (wd_X10_layHands cI cC cZ cB cJ a_m oJ uD dY iJ lJ jQ jR jW jK pJ bM aY jO gR gY mK jZ iY bG mJ jB mQ lY eJ bY bW aG jG bQ 0 jY m_length qG uW eY aJ aB bU dN aR aE bJ aW bT gJ dU bL bR bO mY pW rD m_x jA rW oY pR pX tD)) hP aBa 10 rfl rfl rfl
  refine g_callv hP hD hS hA (mixT aBa) (mixF aBa) hm.1 hm.2 (nd_F _) (dis_g _) (g_runV (As := []) (rest := []) C0 hP hD hS (mixT aBa) hm.1 (nd_T _) 0 10 rfl rfl (c_X10_layHands l dC dI cI cC cZ cB cJ a_m oJ uD dY iJ lJ jQ jR jW jK pJ bM aY jO gR gY mK jZ iY bG mJ jB mQ lY eJ bY H.size bW aG jG bQ 0 jY m_length qG uW eY aJ aB bU dN aR aE bJ aW bT gJ dU bL bR bO mY pW rD m_x jA rW oY pR pX tD _ hp) q_883 q_886 q_884 q_885 q_642 h_X10_layHands rfl rfl ⟨Nat.le_of_ble_eq_true rfl, Nat.le_of_ble_eq_true rfl⟩ rfl rfl hl.1 rfl (lv_room (Nat.le_of_ble_eq_true rfl)) eX10_fewest_0.2.2.2.2.1 ⟨Nat.zero_le _, Nat.zero_le _⟩) (fun u H locs hp hP hD hS => ?_)
  obtain ⟨xX, zP⟩ := u
  have hPD := PDm (ws' := (wd_X10_fewest cI cC cZ cB cJ a_m oJ uD dY iJ lJ jQ jR jW jK pJ bM aY jO gR gY mK jZ iY bG mJ jB mQ lY eJ bY bW aG jG bQ 0 jY m_length qG uW eY aJ aB bU dN aR aE bJ aW bT gJ xX bL bR bO mY pW rD m_x jA rW oY pR pX uM zP)) hP hD 10 rfl rfl rfl
  have hP := hPD.1
  have hD := hPD.2
  refine lv_aload_n hx hb eX10_fewest_0.2.2.2.2.2.1 rfl (lv_at hl 0 rfl) ?_
  refine lv_aload_n hx hb eX10_fewest_0.2.2.2.2.2.2.1 rfl (lv_at hl 0 rfl) ?_
  refine va_get (D := (dC, dI)) (ci := 10) (v := .int xX) (C := RX10) (T := TX10) (N := 51) hx hb hts i_X10 hown hK hP 0 rfl rfl 37 (Nat.le_of_ble_eq_true rfl) (hts _ q_878) (fun _ h9 => h9) rfl eX10_fewest_0.2.2.2.2.2.2.2.1 ?_
  have hm := mgk (wc := (wd_X10_tellCover cI cC cZ cB cJ a_m oJ uD dY iJ lJ jQ jR jW jK pJ bM aY jO gR gY mK jZ iY bG mJ jB mQ lY eJ bY bW aG jG bQ 0 jY m_length qG uW eY aJ aB bU dN aR aE bJ aW bT gJ xX bL bR bO mY pW uM zP)) hP mk_255 10 rfl rfl rfl
  refine g_calli hP hD hS hA (mixT mk_255) (mixF mk_255) hm.1 hm.2 (nd_F _) (dis_g _) (g_runV (As := [.int xX]) (rest := []) C0 hP hD hS (mixT mk_255) hm.1 (nd_T _) 0 10 rfl rfl (c_X10_tellCover l dC dI cI cC cZ cB cJ a_m oJ uD dY iJ lJ jQ jR jW jK pJ bM aY jO gR gY mK jZ iY bG mJ jB mQ lY eJ bY H.size xX bW aG jG bQ 0 jY m_length qG uW eY aJ aB bU dN aR aE bJ aW bT gJ xX bL bR bO mY pW uM zP _ hp) q_902 q_905 q_903 q_904 q_642 h_X10_tellCover rfl rfl ⟨Nat.le_of_ble_eq_true rfl, Nat.le_of_ble_eq_true rfl⟩ rfl rfl hl.1 rfl (lv_room (Nat.le_of_ble_eq_true rfl)) eX10_fewest_0.2.2.2.2.2.2.2.2.1 ⟨Nat.zero_le _, Nat.zero_le _⟩) (fun r_3 u H locs hp hP hD hS => ?_)
  obtain ⟨aAl, aCV⟩ := u
  have hPD := PDm (ws' := (wd_X10_fewest cI cC cZ cB cJ a_m oJ uD dY iJ lJ jQ jR jW jK pJ bM aY jO gR gY mK jZ iY bG mJ jB mQ lY eJ bY bW aG jG aAl 0 jY m_length qG uW eY aJ aB bU dN aR aE bJ aW bT gJ xX bL bR bO mY pW rD m_x jA rW oY pR pX aCV zP)) hP hD 10 rfl rfl rfl
  have hP := hPD.1
  have hD := hPD.2
  exact W.iret (v := r_3) hx hb hr (fun t ht hW => ⟨⟨r_3, (aAl, 0, xX, aCV, zP), rfl, hp, by rw [ht]; exact hP, va_K.moved hW.alike hK, hD⟩, hS.F ht⟩) hS.2.2 eX10_fewest_0.2.2.2.2.2.2.2.2.2
