noncomputable abbrev wd_X10_refusesMove (cI cC cZ cB cJ : ClassId) (a_m oJ uD dY iJ lJ jQ jR jW jK pJ bM aY jO gR gY mK jZ iY bG mJ jB mQ lY eJ bY : Nat) (bW aG jG bQ dG : Int32) (jY : Nat) (m_length qG uW eY aJ aB bU dN aR aE bJ aW bT gJ dU bL bR bO mY pW : Int32) (rD : Nat → Int32) : va_W := [(a_m, .inr (10, [.ref oJ, .int bW, .ref uD, .ref dY, .ref iJ, .ref lJ, .int aG, .ref jQ, .ref jR, .ref jW, .ref jK, .int jG, .ref pJ, .int bQ, .int dG, rdv jK jO jY, .int m_length, .int qG, .int uW, .int eY, .ref bM, .ref aY, .int aJ, .int aB, .ref jO, .int bU, .int dN, .int aR, .int aE, .int bJ, .int aW, .ref gR, .int bT, .ref gY, .ref mK, .int gJ, .ref jZ, .int dU, .ref iY, .ref bG, .int bL, .int bR, .int bO, .ref mJ, .ref jB, .ref mQ, .int mY, .int pW, .ref lY, .ref eJ, .ref bY])), (oJ, .inl (cI, 21, .inl rD))]
noncomputable abbrev q_X10_refusesMove (dC : Nat → ClassId) (dI : Nat → Nat → Nat) (cI cC cZ cB cJ : ClassId) (A : Nat → Prop) (a_m oJ uD dY iJ lJ jQ jR jW jK pJ bM aY jO gR gY mK jZ iY bG mJ jB mQ lY eJ bY : Nat) (bW aG jG bQ dG : Int32) (jY : Nat) (m_length qG uW eY aJ aB bU dN aR aE bJ aW bT gJ dU bL bR bO mY pW : Int32) (rD : Nat → Int32) (post : Int32 → Prop) : Array Value → State → Outcome → State → Prop := va_Qi (fun (r : Int32) (u : Unit) => post r) (fun u t => gB (dC, dI) (tyl cI cC cZ cB cJ) A (wd_X10_refusesMove cI cC cZ cB cJ a_m oJ uD dY iJ lJ jQ jR jW jK pJ bM aY jO gR gY mK jZ iY bG mJ jB mQ lY eJ bY bW aG jG bQ dG jY m_length qG uW eY aJ aB bU dN aR aE bJ aW bT gJ dU bL bR bO mY pW rD) t) A
noncomputable abbrev rm_X10_refusesMove : Room := { frames := 2, cells := 0, slots := 0, locals := 43 }
noncomputable def wp_X10_refusesMove (post : Int32 → Prop) (p0 aG : Int32) (rD : Nat → Int32) : Prop := wp_X10_isStanding (fun r_1 => (¬ r_1 = 0 → ∀ v_2 : Int32, v_2 = rD (17 : Int32).toNatClampNeg → (¬ v_2 = p0 → post 0) ∧ (v_2 = p0 → post (-2))) ∧ (r_1 = 0 → post (-1))) p0 aG
set_option maxHeartbeats 4000000 in
set_option maxRecDepth 100000 in
theorem c_X10_refusesMove (l : Launch) (dC : Nat → ClassId) (dI : Nat → Nat → Nat) (cI cC cZ cB cJ : ClassId) (a_m oJ uD dY iJ lJ jQ jR jW jK pJ bM aY jO gR gY mK jZ iY bG mJ jB mQ lY eJ bY sz : Nat) (p0 bW aG jG bQ dG : Int32) (jY : Nat) (m_length qG uW eY aJ aB bU dN aR aE bJ aW bT gJ dU bL bR bO mY pW : Int32) (rD : Nat → Int32) (post : Int32 → Prop) (hw : wp_X10_refusesMove post p0 aG rD) : Met l yX10_refusesMove (gw yX10_refusesMove cX10_refusesMove 2 (some .int)) rm_X10_refusesMove (va_Pc [.ref a_m, .int p0] (gPre (dC, dI) (tyl cI cC cZ cB cJ) (wd_X10_refusesMove cI cC cZ cB cJ a_m oJ uD dY iJ lJ jQ jR jW jK pJ bM aY jO gR gY mK jZ iY bG mJ jB mQ lY eJ bY bW aG jG bQ dG jY m_length qG uW eY aJ aB bU dN aR aE bJ aW bT gJ dU bL bR bO mY pW rD) sz)) (q_X10_refusesMove dC dI cI cC cZ cB cJ (va_A (wd_X10_refusesMove cI cC cZ cB cJ a_m oJ uD dY iJ lJ jQ jR jW jK pJ bM aY jO gR gY mK jZ iY bG mJ jB mQ lY eJ bY bW aG jG bQ dG jY m_length qG uW eY aJ aB bU dN aR aE bJ aW bT gJ dU bL bR bO mY pW rD) sz) a_m oJ uD dY iJ lJ jQ jR jW jK pJ bM aY jO gR gY mK jZ iY bG mJ jB mQ lY eJ bY bW aG jG bQ dG jY m_length qG uW eY aJ aB bU dN aR aE bJ aW bT gJ dU bL bR bO mY pW rD post) 0 0 (va_A (wd_X10_refusesMove cI cC cZ cB cJ a_m oJ uD dY iJ lJ jQ jR jW jK pJ bM aY jO gR gY mK jZ iY bG mJ jB mQ lY eJ bY bW aG jG bQ dG jY m_length qG uW eY aJ aB bU dN aR aE bJ aW bT gJ dU bL bR bO mY pW rD) sz) := by
  refine g_enter (own := RX10) (dC, dI) (tyl cI cC cZ cB cJ) (wd_X10_refusesMove cI cC cZ cB cJ a_m oJ uD dY iJ lJ jQ jR jW jK pJ bM aY jO gR gY mK jZ iY bG mJ jB mQ lY eJ bY bW aG jG bQ dG jY m_length qG uW eY aJ aB bU dN aR aE bJ aW bT gJ dU bL bR bO mY pW rD) sz [.ref a_m, .int p0] (fun A => q_X10_refusesMove dC dI cI cC cZ cB cJ A a_m oJ uD dY iJ lJ jQ jR jW jK pJ bM aY jO gR gY mK jZ iY bG mJ jB mQ lY eJ bY bW aG jG bQ dG jY m_length qG uW eY aJ aB bU dN aR aE bJ aW bT gJ dU bL bR bO mY pW rD post) pn_RX10 rfl (Nat.le_of_ble_eq_true rfl) ?_
  intro p e s m args below meth c A H locs ls C0 hP hD hS hl
  have hl : lv_has ls 2 [(0, .ref a_m), (1, .int p0)] := hl
  obtain ⟨hx, hb, hr, hml, hown, hts, hlocks, hA, hK, hN, tL, tM, hZL, hTL, hZM, hTM, hZX⟩ := id C0
  have hp := hw
  unfold wp_X10_refusesMove at hp
  refine lv_aload_n hx hb eX10_refusesMove_0.1 rfl (lv_at hl 0 rfl) ?_
  refine lv_iload_n hx hb eX10_refusesMove_0.2.1 rfl (lv_at hl 1 rfl) ?_
  refine g_calli (wc := (wd_X10_isStanding cI cC cZ cB cJ a_m oJ uD dY iJ lJ jQ jR jW jK pJ bM aY jO gR gY mK jZ iY bG mJ jB mQ lY eJ bY bW aG jG bQ dG jY m_length qG uW eY aJ aB bU dN aR aE bJ aW bT gJ dU bL bR bO mY pW)) hP hD hS hA [0] [1] rfl rfl rfl rfl (g_runV (As := [.int p0]) (rest := []) C0 hP hD hS [0] rfl rfl 0 10 rfl rfl (c_X10_isStanding l dC dI cI cC cZ cB cJ a_m oJ uD dY iJ lJ jQ jR jW jK pJ bM aY jO gR gY mK jZ iY bG mJ jB mQ lY eJ bY H.size p0 bW aG jG bQ dG jY m_length qG uW eY aJ aB bU dN aR aE bJ aW bT gJ dU bL bR bO mY pW _ hp) q_757 q_760 q_758 q_759 q_642 h_X10_isStanding rfl rfl ⟨Nat.le_of_ble_eq_true rfl, Nat.le_of_ble_eq_true rfl⟩ rfl rfl hl.1 rfl (lv_room (Nat.le_of_ble_eq_true rfl)) eX10_refusesMove_0.2.2.1 ⟨Nat.zero_le _, Nat.zero_le _⟩) (fun r_1 u H locs hp hP hD hS => ?_)
  have hPD := PDs (ws' := (wd_X10_refusesMove cI cC cZ cB cJ a_m oJ uD dY iJ lJ jQ jR jW jK pJ bM aY jO gR gY mK jZ iY bG mJ jB mQ lY eJ bY bW aG jG bQ dG jY m_length qG uW eY aJ aB bU dN aR aE bJ aW bT gJ dU bL bR bO mY pW rD)) hP hD [1, 0] (by decide) rfl
  have hP := hPD.1
  have hD := hPD.2
  refine lv_if_ne (tgt := 12) hx hb eX10_refusesMove_0.2.2.2.1 (by decide) (fun hc => ?_) (fun hc => ?_)
  · have hp := hp.1 hc
    refine lv_aload_n hx hb eX10_refusesMove_0.2.2.2.2.2.2.1 rfl (lv_at hl 0 rfl) ?_
    refine va_get (D := (dC, dI)) (ci := 10) (v := .ref oJ) (C := RX10) (T := TX10) (N := 51) hx hb hts i_X10 hown hK hP 0 rfl rfl 0 (Nat.le_of_ble_eq_true rfl) (hts _ q_692) (fun _ h9 => h9) rfl eX10_refusesMove_0.2.2.2.2.2.2.2.1 ?_
    refine lv_bipush (v := 17) hx hb eX10_refusesMove_0.2.2.2.2.2.2.2.2.1 bp_17 ?_
    refine va_iald hx hb hK hP 1 0 rfl rfl (g_in rfl) eX10_refusesMove_0.2.2.2.2.2.2.2.2.2.1 ?_
    refine lv_topi (fun v_2 ev_2 => ?_)
    have hp := hp v_2 ev_2
    refine lv_iload_n hx hb eX10_refusesMove_0.2.2.2.2.2.2.2.2.2.2.1 rfl (lv_at hl 1 rfl) ?_
    refine lv_icmp_ne (tgt := 28) hx hb eX10_refusesMove_0.2.2.2.2.2.2.2.2.2.2.2.1 (by decide) (fun hc => ?_) (fun hc => ?_)
    · have hp := hp.1 hc
      refine lv_iconst (v := 0) hx hb eX10_refusesMove_0.2.2.2.2.2.2.2.2.2.2.2.2.2.2.1 ic_0 ?_
      exact W.iret (v := 0) hx hb hr (fun t ht hW => ⟨⟨0, (), rfl, hp, by rw [ht]; exact hP, va_K.moved hW.alike hK, hD⟩, hS.F ht⟩) hS.2.2 eX10_refusesMove_0.2.2.2.2.2.2.2.2.2.2.2.2.2.2.2
    · have hp := hp.2 hc
      refine lv_bipush (v := (-2)) hx hb eX10_refusesMove_0.2.2.2.2.2.2.2.2.2.2.2.2.1 bp_m2 ?_
      refine lv_goto (tgt := 29) hx hb eX10_refusesMove_0.2.2.2.2.2.2.2.2.2.2.2.2.2.1 (by decide) ?_
      exact W.iret (v := (-2)) hx hb hr (fun t ht hW => ⟨⟨(-2), (), rfl, hp, by rw [ht]; exact hP, va_K.moved hW.alike hK, hD⟩, hS.F ht⟩) hS.2.2 eX10_refusesMove_0.2.2.2.2.2.2.2.2.2.2.2.2.2.2.2
  · have hp := hp.2 hc
    refine lv_iconst (v := (-1)) hx hb eX10_refusesMove_0.2.2.2.2.1 ic_m1 ?_
    refine lv_goto (tgt := 29) hx hb eX10_refusesMove_0.2.2.2.2.2.1 (by decide) ?_
    exact W.iret (v := (-1)) hx hb hr (fun t ht hW => ⟨⟨(-1), (), rfl, hp, by rw [ht]; exact hP, va_K.moved hW.alike hK, hD⟩, hS.F ht⟩) hS.2.2 eX10_refusesMove_0.2.2.2.2.2.2.2.2.2.2.2.2.2.2.2
noncomputable abbrev wd_X10_lay (cI cC cZ cB cJ : ClassId) (oJ gR : Nat) (rD uQ : Nat → Int32) : va_W := [(oJ, .inl (cI, 21, .inl rD)), (gR, .inl (cI, 252, .inl uQ))]
noncomputable abbrev q_X10_lay (dC : Nat → ClassId) (dI : Nat → Nat → Nat) (cI cC cZ cB cJ : ClassId) (A : Nat → Prop) (oJ gR : Nat) (rD : Nat → Int32) (post : (Nat → Int32) → Prop) : Array Value → State → Outcome → State → Prop := va_Qv (fun (u : (Nat → Int32)) => post u) (fun u t => gB (dC, dI) (tyl cI cC cZ cB cJ) A (wd_X10_lay cI cC cZ cB cJ oJ gR rD u) t) A
noncomputable abbrev rm_X10_lay : Room := { frames := 0, cells := 0, slots := 0, locals := 0 }
section S_X10_lay
variable {p : Program} {l : Launch} {e : Env} {s : State} {m : MethodId} {args : Array Value} {below : List Frame} {meth : Method} {c : Code} {dC : Nat → ClassId} {dI : Nat → Nat → Nat} {cI cC cZ cB cJ : ClassId} {A : Nat → Prop} {oJ gR : Nat} {rD : Nat → Int32} {post : (Nat → Int32) → Prop}
noncomputable def ws_X10_lay_2 (post : (Nat → Int32) → Prop) (next : Int32 → Int32 → (Nat → Int32) → Prop) (rD : Nat → Int32) (x2 x3 : Int32) (uQ : Nat → Int32) : Prop := (21 ≤ x3 → post uQ) ∧ (¬ 21 ≤ x3 → ∀ v_1 : Int32, v_1 = x2 + x3 → vp_in x3 21 ∧ (∀ v_2 : Int32, v_2 = rD x3.toNatClampNeg → vp_in v_1 252 ∧ (∀ v_3 : Int32, v_3 = x3 + 1 → next x2 v_3 (upd uQ v_1.toNatClampNeg v_2))))
noncomputable def wb_X10_lay_2 (post : (Nat → Int32) → Prop) (rD : Nat → Int32) : Nat → Int32 → Int32 → (Nat → Int32) → Prop := fun n => Nat.rec (motive := fun _ => Int32 → Int32 → (Nat → Int32) → Prop) (fun _ _ _ => False) (fun _ ih => ws_X10_lay_2 post ih rD) n
set_option maxHeartbeats 4000000 in
set_option maxRecDepth 100000 in
theorem ks_X10_lay_2 (C0 : gc cX10_lay none 4 RX10 (dC, dI) (tyl cI cC cZ cB cJ) A p s m args meth c) {next : Int32 → Int32 → (Nat → Int32) → Prop} (hKn : ∀ (x2 : Int32) (x3 : Int32) (uQ : Nat → Int32) (H : Heap) (locs : List Loc) (ls : Array Slot), next x2 x3 uQ → va_P (dC, dI) classes (wd_X10_lay cI cC cZ cB cJ oJ gR rD uQ) H → va_D A (wd_X10_lay cI cC cZ cB cJ oJ gR rD uQ) → va_S A s.heap H locs → lv_has ls 4 [(0, .ref oJ), (1, .ref gR), (2, .int x2), (3, .int x3)] → W p l e rm_X10_lay s m args below meth c H locs 0 0 (MQ below (q_X10_lay dC dI cI cC cZ cB cJ A oJ gR rD post) args s 0 0 A) (F0 m 2 ls [])) : ∀ (x2 x3 : Int32) (uQ : Nat → Int32) (H : Heap) (locs : List Loc) (ls : Array Slot), (ws_X10_lay_2 post next rD) x2 x3 uQ → va_P (dC, dI) classes (wd_X10_lay cI cC cZ cB cJ oJ gR rD uQ) H → va_D A (wd_X10_lay cI cC cZ cB cJ oJ gR rD uQ) → va_S A s.heap H locs → lv_has ls 4 [(0, .ref oJ), (1, .ref gR), (2, .int x2), (3, .int x3)] → W p l e rm_X10_lay s m args below meth c H locs 0 0 (MQ below (q_X10_lay dC dI cI cC cZ cB cJ A oJ gR rD post) args s 0 0 A) (F0 m 2 ls []) := by
  obtain ⟨hx, hb, hr, hml, hown, hts, hlocks, hA, hK, hN, tL, tM, hZL, hTL, hZM, hTM, hZX⟩ := id C0
  intro x2 x3 uQ H locs ls hp hP hD hS hl
  unfold ws_X10_lay_2 at hp
  refine lv_iload_n hx hb eX10_lay_0.2.2.1 rfl (lv_at hl 3 rfl) ?_
  refine lv_bipush (v := 21) hx hb eX10_lay_0.2.2.2.1 bp_21 ?_
  refine lv_icmp_ge (tgt := 22) hx hb eX10_lay_0.2.2.2.2.1 (by decide) (fun hc => ?_) (fun hc => ?_)
  · have hp := hp.1 hc
    exact W.vret hx hb hr (fun t ht hW => ⟨⟨uQ, rfl, hp, by rw [ht]; exact hP, va_K.moved hW.alike hK, hD⟩, hS.F ht⟩) hS.2.2 eX10_lay_0.2.2.2.2.2.2.2.2.2.2.2.2.2.2.2
  · have hp := hp.2 hc
    refine lv_aload_n hx hb eX10_lay_0.2.2.2.2.2.1 rfl (lv_at hl 1 rfl) ?_
    refine lv_iload_n hx hb eX10_lay_0.2.2.2.2.2.2.1 rfl (lv_at hl 2 rfl) ?_
    refine lv_iload_n hx hb eX10_lay_0.2.2.2.2.2.2.2.1 rfl (lv_at hl 3 rfl) ?_
    refine lv_iadd hx hb eX10_lay_0.2.2.2.2.2.2.2.2.1 ?_
    refine lv_topi (fun v_1 ev_1 => ?_)
    have hp := hp v_1 ev_1
    refine lv_aload_n hx hb eX10_lay_0.2.2.2.2.2.2.2.2.2.1 rfl (lv_at hl 0 rfl) ?_
    refine lv_iload_n hx hb eX10_lay_0.2.2.2.2.2.2.2.2.2.2.1 rfl (lv_at hl 3 rfl) ?_
    have hin := hp.1
    have hp := hp.2
    refine va_iald hx hb hK hP 0 0 rfl rfl hin eX10_lay_0.2.2.2.2.2.2.2.2.2.2.2.1 ?_
    refine lv_topi (fun v_2 ev_2 => ?_)
    have hp := hp v_2 ev_2
    have hin := hp.1
    have hp := hp.2
    refine va_iast hx hb hK hP hD hS 1 0 rfl rfl hin eX10_lay_0.2.2.2.2.2.2.2.2.2.2.2.2.1 (fun H locs hP hD hS => ?_)
    have hP : va_P (dC, dI) classes (wd_X10_lay cI cC cZ cB cJ oJ gR rD (upd uQ v_1.toNatClampNeg v_2)) H := hP
    have hD : va_D A (wd_X10_lay cI cC cZ cB cJ oJ gR rD (upd uQ v_1.toNatClampNeg v_2)) := hD
    obtain ⟨v_3, ev_3⟩ : ∃ y : Int32, y = x3 + 1 := ⟨_, rfl⟩
    refine lv_iinc (v := v_3) (lv' := [(3, .int v_3), (0, .ref oJ), (1, .ref gR), (2, .int x2)]) hx hb eX10_lay_0.2.2.2.2.2.2.2.2.2.2.2.2.2.1 hl (k := 3) rfl (by rw [ev_3]; rfl) (by decide) rfl (fun ls hl => ?_)
    have hp := hp v_3 ev_3
    refine lv_goto (tgt := 2) hx hb eX10_lay_0.2.2.2.2.2.2.2.2.2.2.2.2.2.2.1 (by decide) ?_
    exact hKn x2 v_3 (upd uQ v_1.toNatClampNeg v_2) H locs ls hp hP hD hS (lv_sub hl [1, 2, 3, 0] rfl)
set_option maxHeartbeats 4000000 in
set_option maxRecDepth 100000 in
theorem kb_X10_lay_2 (C0 : gc cX10_lay none 4 RX10 (dC, dI) (tyl cI cC cZ cB cJ) A p s m args meth c) : ∀ (n : Nat), ∀ (x2 x3 : Int32) (uQ : Nat → Int32) (H : Heap) (locs : List Loc) (ls : Array Slot), (wb_X10_lay_2 post rD n) x2 x3 uQ → va_P (dC, dI) classes (wd_X10_lay cI cC cZ cB cJ oJ gR rD uQ) H → va_D A (wd_X10_lay cI cC cZ cB cJ oJ gR rD uQ) → va_S A s.heap H locs → lv_has ls 4 [(0, .ref oJ), (1, .ref gR), (2, .int x2), (3, .int x3)] → W p l e rm_X10_lay s m args below meth c H locs 0 0 (MQ below (q_X10_lay dC dI cI cC cZ cB cJ A oJ gR rD post) args s 0 0 A) (F0 m 2 ls []) := by
  intro n
  induction n with
  | zero =>
    intro x2 x3 uQ H locs ls hp
    exact False.elim hp
  | succ n ih =>
    intro x2 x3 uQ H locs ls hp
    exact ks_X10_lay_2 C0 ih x2 x3 uQ H locs ls hp
end S_X10_lay
noncomputable def wp_X10_lay (post : (Nat → Int32) → Prop) (p2 : Int32) (rD uQ : Nat → Int32) : Prop := ∃ n : Nat, wb_X10_lay_2 post rD n p2 0 uQ
set_option maxHeartbeats 4000000 in
set_option maxRecDepth 100000 in
theorem c_X10_lay (l : Launch) (dC : Nat → ClassId) (dI : Nat → Nat → Nat) (cI cC cZ cB cJ : ClassId) (oJ gR sz : Nat) (p2 : Int32) (rD uQ : Nat → Int32) (post : (Nat → Int32) → Prop) (hw : wp_X10_lay post p2 rD uQ) : Met l yX10_lay (gw yX10_lay cX10_lay 4 none) rm_X10_lay (va_Pc [.ref oJ, .ref gR, .int p2] (gPre (dC, dI) (tyl cI cC cZ cB cJ) (wd_X10_lay cI cC cZ cB cJ oJ gR rD uQ) sz)) (q_X10_lay dC dI cI cC cZ cB cJ (va_A (wd_X10_lay cI cC cZ cB cJ oJ gR rD uQ) sz) oJ gR rD post) 0 0 (va_A (wd_X10_lay cI cC cZ cB cJ oJ gR rD uQ) sz) := by
  refine g_enter (own := RX10) (dC, dI) (tyl cI cC cZ cB cJ) (wd_X10_lay cI cC cZ cB cJ oJ gR rD uQ) sz [.ref oJ, .ref gR, .int p2] (fun A => q_X10_lay dC dI cI cC cZ cB cJ A oJ gR rD post) pn_RX10 rfl (Nat.le_of_ble_eq_true rfl) ?_
  intro p e s m args below meth c A H locs ls C0 hP hD hS hl
  have hl : lv_has ls 4 [(0, .ref oJ), (1, .ref gR), (2, .int p2)] := hl
  obtain ⟨hx, hb, hr, hml, hown, hts, hlocks, hA, hK, hN, tL, tM, hZL, hTL, hZM, hTM, hZX⟩ := id C0
  have hp := hw
  unfold wp_X10_lay at hp
  refine lv_iconst (v := 0) hx hb eX10_lay_0.1 ic_0 ?_
  refine lv_istore_n (lv' := [(3, .int 0), (0, .ref oJ), (1, .ref gR), (2, .int p2)]) hx hb eX10_lay_0.2.1 rfl hl (by decide) rfl (fun ls hl => ?_)
  obtain ⟨n9, hp⟩ := hp
  exact kb_X10_lay_2 C0 n9 p2 0 uQ H locs ls hp hP hD hS (lv_sub hl [1, 2, 3, 0] rfl)
noncomputable abbrev wd_X10_remember (cI cC cZ cB cJ : ClassId) (a_m oJ uD dY iJ lJ jQ jR jW jK pJ bM aY jO gR gY mK jZ iY bG mJ jB mQ lY eJ bY : Nat) (bW aG jG bQ dG : Int32) (jY : Nat) (m_length qG uW eY aJ aB bU dN aR aE bJ aW bT gJ dU bL bR bO mY pW : Int32) (rD uQ : Nat → Int32) : va_W := [(a_m, .inr (10, [.ref oJ, .int bW, .ref uD, .ref dY, .ref iJ, .ref lJ, .int aG, .ref jQ, .ref jR, .ref jW, .ref jK, .int jG, .ref pJ, .int bQ, .int dG, rdv jK jO jY, .int m_length, .int qG, .int uW, .int eY, .ref bM, .ref aY, .int aJ, .int aB, .ref jO, .int bU, .int dN, .int aR, .int aE, .int bJ, .int aW, .ref gR, .int bT, .ref gY, .ref mK, .int gJ, .ref jZ, .int dU, .ref iY, .ref bG, .int bL, .int bR, .int bO, .ref mJ, .ref jB, .ref mQ, .int mY, .int pW, .ref lY, .ref eJ, .ref bY])), (oJ, .inl (cI, 21, .inl rD)), (gR, .inl (cI, 252, .inl uQ))]
noncomputable abbrev q_X10_remember (dC : Nat → ClassId) (dI : Nat → Nat → Nat) (cI cC cZ cB cJ : ClassId) (A : Nat → Prop) (a_m oJ uD dY iJ lJ jQ jR jW jK pJ bM aY jO gR gY mK jZ iY bG mJ jB mQ lY eJ bY : Nat) (bW aG jG bQ dG : Int32) (jY : Nat) (m_length qG uW eY aJ aB bU dN aR aE bJ aW gJ dU bL bR bO mY pW : Int32) (rD : Nat → Int32) (post : Int32 → (Nat → Int32) → Prop) : Array Value → State → Outcome → State → Prop := va_Qv (fun (u : Int32 × (Nat → Int32)) => post u.1 u.2) (fun u t => gB (dC, dI) (tyl cI cC cZ cB cJ) A (wd_X10_remember cI cC cZ cB cJ a_m oJ uD dY iJ lJ jQ jR jW jK pJ bM aY jO gR gY mK jZ iY bG mJ jB mQ lY eJ bY bW aG jG bQ dG jY m_length qG uW eY aJ aB bU dN aR aE bJ aW u.1 gJ dU bL bR bO mY pW rD u.2) t) A
noncomputable abbrev rm_X10_remember : Room := { frames := 1, cells := 0, slots := 0, locals := 23 }
section S_X10_remember
variable {p : Program} {l : Launch} {e : Env} {s : State} {m : MethodId} {args : Array Value} {below : List Frame} {meth : Method} {c : Code} {dC : Nat → ClassId} {dI : Nat → Nat → Nat} {cI cC cZ cB cJ : ClassId} {A : Nat → Prop} {a_m oJ uD dY iJ lJ jQ jR jW jK pJ bM aY jO gR gY mK jZ iY bG mJ jB mQ lY eJ bY : Nat} {bW aG jG bQ dG : Int32} {jY : Nat} {m_length qG uW eY aJ aB bU dN aR aE bJ aW gJ dU bL bR bO mY pW : Int32} {rD : Nat → Int32} {post : Int32 → (Nat → Int32) → Prop}
noncomputable def ws_X10_remember_49 (post : Int32 → (Nat → Int32) → Prop) (rD : Nat → Int32) (bT : Int32) (uQ : Nat → Int32) : Prop := ∀ v_1 : Int32, v_1 = 21 * bT → wp_X10_lay (fun aED => ∀ v_3 : Int32, v_3 = bT + 1 → post v_3 aED) v_1 rD uQ
set_option maxHeartbeats 4000000 in
set_option maxRecDepth 100000 in
theorem ks_X10_remember_49 (C0 : gc cX10_remember none 3 RX10 (dC, dI) (tyl cI cC cZ cB cJ) A p s m args meth c) : ∀ (bT : Int32) (uQ : Nat → Int32) (H : Heap) (locs : List Loc) (ls : Array Slot), (ws_X10_remember_49 post rD) bT uQ → va_P (dC, dI) classes (wd_X10_remember cI cC cZ cB cJ a_m oJ uD dY iJ lJ jQ jR jW jK pJ bM aY jO gR gY mK jZ iY bG mJ jB mQ lY eJ bY bW aG jG bQ dG jY m_length qG uW eY aJ aB bU dN aR aE bJ aW bT gJ dU bL bR bO mY pW rD uQ) H → va_D A (wd_X10_remember cI cC cZ cB cJ a_m oJ uD dY iJ lJ jQ jR jW jK pJ bM aY jO gR gY mK jZ iY bG mJ jB mQ lY eJ bY bW aG jG bQ dG jY m_length qG uW eY aJ aB bU dN aR aE bJ aW bT gJ dU bL bR bO mY pW rD uQ) → va_S A s.heap H locs → lv_has ls 3 [(0, .ref a_m), (1, .ref oJ)] → W p l e rm_X10_remember s m args below meth c H locs 0 0 (MQ below (q_X10_remember dC dI cI cC cZ cB cJ A a_m oJ uD dY iJ lJ jQ jR jW jK pJ bM aY jO gR gY mK jZ iY bG mJ jB mQ lY eJ bY bW aG jG bQ dG jY m_length qG uW eY aJ aB bU dN aR aE bJ aW gJ dU bL bR bO mY pW rD post) args s 0 0 A) (F0 m 49 ls []) := by
  obtain ⟨hx, hb, hr, hml, hown, hts, hlocks, hA, hK, hN, tL, tM, hZL, hTL, hZM, hTM, hZX⟩ := id C0
  intro bT uQ H locs ls hp hP hD hS hl
  unfold ws_X10_remember_49 at hp
  refine lv_aload_n hx hb eX10_remember_30.2.2.2.2.2.2.2.2.2.2.2.1 rfl (lv_at hl 1 rfl) ?_
  refine lv_aload_n hx hb eX10_remember_30.2.2.2.2.2.2.2.2.2.2.2.2.1 rfl (lv_at hl 0 rfl) ?_
  refine va_get (D := (dC, dI)) (ci := 10) (v := .ref gR) (C := RX10) (T := TX10) (N := 51) hx hb hts i_X10 hown hK hP 0 rfl rfl 31 (Nat.le_of_ble_eq_true rfl) (hts _ q_767) (fun _ h9 => h9) rfl eX10_remember_30.2.2.2.2.2.2.2.2.2.2.2.2.2.1 ?_
  refine lv_bipush (v := 21) hx hb eX10_remember_30.2.2.2.2.2.2.2.2.2.2.2.2.2.2.1 bp_21 ?_
  refine lv_aload_n hx hb eX10_remember_30.2.2.2.2.2.2.2.2.2.2.2.2.2.2.2 rfl (lv_at hl 0 rfl) ?_
  refine va_get (D := (dC, dI)) (ci := 10) (v := .int bT) (C := RX10) (T := TX10) (N := 51) hx hb hts i_X10 hown hK hP 0 rfl rfl 32 (Nat.le_of_ble_eq_true rfl) (hts _ q_684) (fun _ h9 => h9) rfl eX10_remember_57.1 ?_
  refine lv_imul hx hb eX10_remember_57.2.1 ?_
  refine lv_topi (fun v_1 ev_1 => ?_)
  have hp := hp v_1 ev_1
  have hm := mgk (wc := (wd_X10_lay cI cC cZ cB cJ oJ gR rD uQ)) hP mk_0 3 rfl rfl rfl
  refine g_callv hP hD hS hA (mixT mk_0) (mixF mk_0) hm.1 hm.2 (nd_F _) (dis_g _) (g_runS (As := [.ref oJ, .ref gR, .int v_1]) (rest := []) C0 hP hD hS (mixT mk_0) hm.1 (nd_T _) (c_X10_lay l dC dI cI cC cZ cB cJ oJ gR H.size v_1 rD uQ _ hp) q_768 q_770 q_769 q_642 h_X10_lay rfl rfl ⟨Nat.le_of_ble_eq_true rfl, Nat.le_of_ble_eq_true rfl⟩ rfl rfl hl.1 rfl (lv_room (Nat.le_of_ble_eq_true rfl)) eX10_remember_57.2.2.1 ⟨Nat.zero_le _, Nat.zero_le _⟩) (fun u H locs hp hP hD hS => ?_)
  obtain ⟨aED, rfl⟩ : ∃ z, z = u := ⟨_, rfl⟩
  have hPD := PDm (ws' := (wd_X10_remember cI cC cZ cB cJ a_m oJ uD dY iJ lJ jQ jR jW jK pJ bM aY jO gR gY mK jZ iY bG mJ jB mQ lY eJ bY bW aG jG bQ dG jY m_length qG uW eY aJ aB bU dN aR aE bJ aW bT gJ dU bL bR bO mY pW rD aED)) hP hD 3 rfl rfl rfl
  have hP := hPD.1
  have hD := hPD.2
  refine lv_aload_n hx hb eX10_remember_57.2.2.2.1 rfl (lv_at hl 0 rfl) ?_
  refine lv_dup hx hb eX10_remember_57.2.2.2.2.1 rfl ?_
  refine va_get (D := (dC, dI)) (ci := 10) (v := .int bT) (C := RX10) (T := TX10) (N := 51) hx hb hts i_X10 hown hK hP 0 rfl rfl 32 (Nat.le_of_ble_eq_true rfl) (hts _ q_684) (fun _ h9 => h9) rfl eX10_remember_57.2.2.2.2.2.1 ?_
  refine lv_iconst (v := 1) hx hb eX10_remember_57.2.2.2.2.2.2 ic_1 ?_
  refine lv_iadd hx hb eX10_remember_70.1 ?_
  refine lv_topi (fun v_3 ev_3 => ?_)
  have hp := hp v_3 ev_3
  refine va_put (D := (dC, dI)) (ci := 10) (v := .int v_3) (ty := .int) (C := RX10) (T := TX10) (N := 51) hx hb hts i_X10 tyX10 tyX10_ok nmX10 hown hK hP hD hS 0 rfl rfl 32 (Nat.le_of_ble_eq_true rfl) (hts _ q_684) (fun _ h9 => h9) rfl (tyX10_ok 32 (Nat.le_of_ble_eq_true rfl)) rfl rfl (Nat.le_of_ble_eq_true rfl) eX10_remember_70.2.1 (fun H locs hP hD hS => ?_)
  have hP : va_P (dC, dI) classes (wd_X10_remember cI cC cZ cB cJ a_m oJ uD dY iJ lJ jQ jR jW jK pJ bM aY jO gR gY mK jZ iY bG mJ jB mQ lY eJ bY bW aG jG bQ dG jY m_length qG uW eY aJ aB bU dN aR aE bJ aW v_3 gJ dU bL bR bO mY pW rD aED) H := hP
  have hD : va_D A (wd_X10_remember cI cC cZ cB cJ a_m oJ uD dY iJ lJ jQ jR jW jK pJ bM aY jO gR gY mK jZ iY bG mJ jB mQ lY eJ bY bW aG jG bQ dG jY m_length qG uW eY aJ aB bU dN aR aE bJ aW v_3 gJ dU bL bR bO mY pW rD aED) := hD
  exact W.vret hx hb hr (fun t ht hW => ⟨⟨(v_3, aED), rfl, hp, by rw [ht]; exact hP, va_K.moved hW.alike hK, hD⟩, hS.F ht⟩) hS.2.2 eX10_remember_70.2.2
noncomputable def ws_X10_remember_11 (post : Int32 → (Nat → Int32) → Prop) (next : Int32 → Int32 → (Nat → Int32) → Prop) (rD : Nat → Int32) (x2 bT : Int32) (uQ : Nat → Int32) : Prop := (231 ≤ x2 → ∀ v_4 : Int32, v_4 = bT - 1 → ws_X10_remember_49 post rD v_4 uQ) ∧ (¬ 231 ≤ x2 → ∀ v_5 : Int32, v_5 = x2 + 21 → vp_in v_5 252 ∧ (∀ v_6 : Int32, v_6 = uQ v_5.toNatClampNeg → vp_in x2 252 ∧ (∀ v_7 : Int32, v_7 = x2 + 1 → next v_7 bT (upd uQ x2.toNatClampNeg v_6))))
noncomputable def wb_X10_remember_11 (post : Int32 → (Nat → Int32) → Prop) (rD : Nat → Int32) : Nat → Int32 → Int32 → (Nat → Int32) → Prop := fun n => Nat.rec (motive := fun _ => Int32 → Int32 → (Nat → Int32) → Prop) (fun _ _ _ => False) (fun _ ih => ws_X10_remember_11 post ih rD) n
set_option maxHeartbeats 4000000 in
set_option maxRecDepth 100000 in
theorem ks_X10_remember_11 (C0 : gc cX10_remember none 3 RX10 (dC, dI) (tyl cI cC cZ cB cJ) A p s m args meth c) {next : Int32 → Int32 → (Nat → Int32) → Prop} (hKn : ∀ (x2 : Int32) (bT : Int32) (uQ : Nat → Int32) (H : Heap) (locs : List Loc) (ls : Array Slot), next x2 bT uQ → va_P (dC, dI) classes (wd_X10_remember cI cC cZ cB cJ a_m oJ uD dY iJ lJ jQ jR jW jK pJ bM aY jO gR gY mK jZ iY bG mJ jB mQ lY eJ bY bW aG jG bQ dG jY m_length qG uW eY aJ aB bU dN aR aE bJ aW bT gJ dU bL bR bO mY pW rD uQ) H → va_D A (wd_X10_remember cI cC cZ cB cJ a_m oJ uD dY iJ lJ jQ jR jW jK pJ bM aY jO gR gY mK jZ iY bG mJ jB mQ lY eJ bY bW aG jG bQ dG jY m_length qG uW eY aJ aB bU dN aR aE bJ aW bT gJ dU bL bR bO mY pW rD uQ) → va_S A s.heap H locs → lv_has ls 3 [(0, .ref a_m), (1, .ref oJ), (2, .int x2)] → W p l e rm_X10_remember s m args below meth c H locs 0 0 (MQ below (q_X10_remember dC dI cI cC cZ cB cJ A a_m oJ uD dY iJ lJ jQ jR jW jK pJ bM aY jO gR gY mK jZ iY bG mJ jB mQ lY eJ bY bW aG jG bQ dG jY m_length qG uW eY aJ aB bU dN aR aE bJ aW gJ dU bL bR bO mY pW rD post) args s 0 0 A) (F0 m 11 ls [])) : ∀ (x2 bT : Int32) (uQ : Nat → Int32) (H : Heap) (locs : List Loc) (ls : Array Slot), (ws_X10_remember_11 post next rD) x2 bT uQ → va_P (dC, dI) classes (wd_X10_remember cI cC cZ cB cJ a_m oJ uD dY iJ lJ jQ jR jW jK pJ bM aY jO gR gY mK jZ iY bG mJ jB mQ lY eJ bY bW aG jG bQ dG jY m_length qG uW eY aJ aB bU dN aR aE bJ aW bT gJ dU bL bR bO mY pW rD uQ) H → va_D A (wd_X10_remember cI cC cZ cB cJ a_m oJ uD dY iJ lJ jQ jR jW jK pJ bM aY jO gR gY mK jZ iY bG mJ jB mQ lY eJ bY bW aG jG bQ dG jY m_length qG uW eY aJ aB bU dN aR aE bJ aW bT gJ dU bL bR bO mY pW rD uQ) → va_S A s.heap H locs → lv_has ls 3 [(0, .ref a_m), (1, .ref oJ), (2, .int x2)] → W p l e rm_X10_remember s m args below meth c H locs 0 0 (MQ below (q_X10_remember dC dI cI cC cZ cB cJ A a_m oJ uD dY iJ lJ jQ jR jW jK pJ bM aY jO gR gY mK jZ iY bG mJ jB mQ lY eJ bY bW aG jG bQ dG jY m_length qG uW eY aJ aB bU dN aR aE bJ aW gJ dU bL bR bO mY pW rD post) args s 0 0 A) (F0 m 11 ls []) := by
  obtain ⟨hx, hb, hr, hml, hown, hts, hlocks, hA, hK, hN, tL, tM, hZL, hTL, hZM, hTM, hZX⟩ := id C0
  intro x2 bT uQ H locs ls hp hP hD hS hl
  unfold ws_X10_remember_11 at hp
  refine lv_iload_n hx hb eX10_remember_0.2.2.2.2.2.2.1 rfl (lv_at hl 2 rfl) ?_
  refine lv_sipush (v := 231) hx hb eX10_remember_0.2.2.2.2.2.2.2.1 sp_231 ?_
  refine lv_icmp_ge (tgt := 39) hx hb eX10_remember_0.2.2.2.2.2.2.2.2.1 (by decide) (fun hc => ?_) (fun hc => ?_)
  · have hp := hp.1 hc
    refine lv_aload_n hx hb eX10_remember_30.2.2.2.2.2.1 rfl (lv_at hl 0 rfl) ?_
    refine lv_dup hx hb eX10_remember_30.2.2.2.2.2.2.1 rfl ?_
    refine va_get (D := (dC, dI)) (ci := 10) (v := .int bT) (C := RX10) (T := TX10) (N := 51) hx hb hts i_X10 hown hK hP 0 rfl rfl 32 (Nat.le_of_ble_eq_true rfl) (hts _ q_684) (fun _ h9 => h9) rfl eX10_remember_30.2.2.2.2.2.2.2.1 ?_
    refine lv_iconst (v := 1) hx hb eX10_remember_30.2.2.2.2.2.2.2.2.1 ic_1 ?_
    refine lv_isub hx hb eX10_remember_30.2.2.2.2.2.2.2.2.2.1 ?_
    refine lv_topi (fun v_4 ev_4 => ?_)
    have hp := hp v_4 ev_4
    refine va_put (D := (dC, dI)) (ci := 10) (v := .int v_4) (ty := .int) (C := RX10) (T := TX10) (N := 51) hx hb hts i_X10 tyX10 tyX10_ok nmX10 hown hK hP hD hS 0 rfl rfl 32 (Nat.le_of_ble_eq_true rfl) (hts _ q_684) (fun _ h9 => h9) rfl (tyX10_ok 32 (Nat.le_of_ble_eq_true rfl)) rfl rfl (Nat.le_of_ble_eq_true rfl) eX10_remember_30.2.2.2.2.2.2.2.2.2.2.1 (fun H locs hP hD hS => ?_)
    have hP : va_P (dC, dI) classes (wd_X10_remember cI cC cZ cB cJ a_m oJ uD dY iJ lJ jQ jR jW jK pJ bM aY jO gR gY mK jZ iY bG mJ jB mQ lY eJ bY bW aG jG bQ dG jY m_length qG uW eY aJ aB bU dN aR aE bJ aW v_4 gJ dU bL bR bO mY pW rD uQ) H := hP
    have hD : va_D A (wd_X10_remember cI cC cZ cB cJ a_m oJ uD dY iJ lJ jQ jR jW jK pJ bM aY jO gR gY mK jZ iY bG mJ jB mQ lY eJ bY bW aG jG bQ dG jY m_length qG uW eY aJ aB bU dN aR aE bJ aW v_4 gJ dU bL bR bO mY pW rD uQ) := hD
    exact ks_X10_remember_49 C0 v_4 uQ H locs ls hp hP hD hS (lv_sub hl [0, 1] rfl)
  · have hp := hp.2 hc
    refine lv_aload_n hx hb eX10_remember_0.2.2.2.2.2.2.2.2.2.1 rfl (lv_at hl 0 rfl) ?_
    refine va_get (D := (dC, dI)) (ci := 10) (v := .ref gR) (C := RX10) (T := TX10) (N := 51) hx hb hts i_X10 hown hK hP 0 rfl rfl 31 (Nat.le_of_ble_eq_true rfl) (hts _ q_767) (fun _ h9 => h9) rfl eX10_remember_0.2.2.2.2.2.2.2.2.2.2.1 ?_
    refine lv_iload_n hx hb eX10_remember_0.2.2.2.2.2.2.2.2.2.2.2.1 rfl (lv_at hl 2 rfl) ?_
    refine lv_aload_n hx hb eX10_remember_0.2.2.2.2.2.2.2.2.2.2.2.2.1 rfl (lv_at hl 0 rfl) ?_
    refine va_get (D := (dC, dI)) (ci := 10) (v := .ref gR) (C := RX10) (T := TX10) (N := 51) hx hb hts i_X10 hown hK hP 0 rfl rfl 31 (Nat.le_of_ble_eq_true rfl) (hts _ q_767) (fun _ h9 => h9) rfl eX10_remember_0.2.2.2.2.2.2.2.2.2.2.2.2.2.1 ?_
    refine lv_iload_n hx hb eX10_remember_0.2.2.2.2.2.2.2.2.2.2.2.2.2.2.1 rfl (lv_at hl 2 rfl) ?_
    refine lv_bipush (v := 21) hx hb eX10_remember_0.2.2.2.2.2.2.2.2.2.2.2.2.2.2.2 bp_21 ?_
    refine lv_iadd hx hb eX10_remember_30.1 ?_
    refine lv_topi (fun v_5 ev_5 => ?_)
    have hp := hp v_5 ev_5
    have hin := hp.1
    have hp := hp.2
    refine va_iald hx hb hK hP 2 0 rfl rfl hin eX10_remember_30.2.1 ?_
    refine lv_topi (fun v_6 ev_6 => ?_)
    have hp := hp v_6 ev_6
    have hin := hp.1
    have hp := hp.2
    refine va_iast hx hb hK hP hD hS 2 0 rfl rfl hin eX10_remember_30.2.2.1 (fun H locs hP hD hS => ?_)
    have hP : va_P (dC, dI) classes (wd_X10_remember cI cC cZ cB cJ a_m oJ uD dY iJ lJ jQ jR jW jK pJ bM aY jO gR gY mK jZ iY bG mJ jB mQ lY eJ bY bW aG jG bQ dG jY m_length qG uW eY aJ aB bU dN aR aE bJ aW bT gJ dU bL bR bO mY pW rD (upd uQ x2.toNatClampNeg v_6)) H := hP
    have hD : va_D A (wd_X10_remember cI cC cZ cB cJ a_m oJ uD dY iJ lJ jQ jR jW jK pJ bM aY jO gR gY mK jZ iY bG mJ jB mQ lY eJ bY bW aG jG bQ dG jY m_length qG uW eY aJ aB bU dN aR aE bJ aW bT gJ dU bL bR bO mY pW rD (upd uQ x2.toNatClampNeg v_6)) := hD
    obtain ⟨v_7, ev_7⟩ : ∃ y : Int32, y = x2 + 1 := ⟨_, rfl⟩
    refine lv_iinc (v := v_7) (lv' := [(2, .int v_7), (0, .ref a_m), (1, .ref oJ)]) hx hb eX10_remember_30.2.2.2.1 hl (k := 2) rfl (by rw [ev_7]; rfl) (by decide) rfl (fun ls hl => ?_)
    have hp := hp v_7 ev_7
    refine lv_goto (tgt := 11) hx hb eX10_remember_30.2.2.2.2.1 (by decide) ?_
    exact hKn v_7 bT (upd uQ x2.toNatClampNeg v_6) H locs ls hp hP hD hS (lv_sub hl [1, 2, 0] rfl)
set_option maxHeartbeats 4000000 in
set_option maxRecDepth 100000 in
theorem kb_X10_remember_11 (C0 : gc cX10_remember none 3 RX10 (dC, dI) (tyl cI cC cZ cB cJ) A p s m args meth c) : ∀ (n : Nat), ∀ (x2 bT : Int32) (uQ : Nat → Int32) (H : Heap) (locs : List Loc) (ls : Array Slot), (wb_X10_remember_11 post rD n) x2 bT uQ → va_P (dC, dI) classes (wd_X10_remember cI cC cZ cB cJ a_m oJ uD dY iJ lJ jQ jR jW jK pJ bM aY jO gR gY mK jZ iY bG mJ jB mQ lY eJ bY bW aG jG bQ dG jY m_length qG uW eY aJ aB bU dN aR aE bJ aW bT gJ dU bL bR bO mY pW rD uQ) H → va_D A (wd_X10_remember cI cC cZ cB cJ a_m oJ uD dY iJ lJ jQ jR jW jK pJ bM aY jO gR gY mK jZ iY bG mJ jB mQ lY eJ bY bW aG jG bQ dG jY m_length qG uW eY aJ aB bU dN aR aE bJ aW bT gJ dU bL bR bO mY pW rD uQ) → va_S A s.heap H locs → lv_has ls 3 [(0, .ref a_m), (1, .ref oJ), (2, .int x2)] → W p l e rm_X10_remember s m args below meth c H locs 0 0 (MQ below (q_X10_remember dC dI cI cC cZ cB cJ A a_m oJ uD dY iJ lJ jQ jR jW jK pJ bM aY jO gR gY mK jZ iY bG mJ jB mQ lY eJ bY bW aG jG bQ dG jY m_length qG uW eY aJ aB bU dN aR aE bJ aW gJ dU bL bR bO mY pW rD post) args s 0 0 A) (F0 m 11 ls []) := by
  intro n
  induction n with
  | zero =>
    intro x2 bT uQ H locs ls hp
    exact False.elim hp
  | succ n ih =>
    intro x2 bT uQ H locs ls hp
    exact ks_X10_remember_11 C0 ih x2 bT uQ H locs ls hp
end S_X10_remember
noncomputable def wp_X10_remember (post : Int32 → (Nat → Int32) → Prop) (bT : Int32) (rD uQ : Nat → Int32) : Prop := (¬ bT = 12 → ws_X10_remember_49 post rD bT uQ) ∧ (bT = 12 → ∃ n : Nat, wb_X10_remember_11 post rD n 0 bT uQ)
set_option maxHeartbeats 4000000 in
set_option maxRecDepth 100000 in
theorem c_X10_remember (l : Launch) (dC : Nat → ClassId) (dI : Nat → Nat → Nat) (cI cC cZ cB cJ : ClassId) (a_m oJ uD dY iJ lJ jQ jR jW jK pJ bM aY jO gR gY mK jZ iY bG mJ jB mQ lY eJ bY sz : Nat) (bW aG jG bQ dG : Int32) (jY : Nat) (m_length qG uW eY aJ aB bU dN aR aE bJ aW bT gJ dU bL bR bO mY pW : Int32) (rD uQ : Nat → Int32) (post : Int32 → (Nat → Int32) → Prop) (hw : wp_X10_remember post bT rD uQ) : Met l yX10_remember (gw yX10_remember cX10_remember 3 none) rm_X10_remember (va_Pc [.ref a_m, .ref oJ] (gPre (dC, dI) (tyl cI cC cZ cB cJ) (wd_X10_remember cI cC cZ cB cJ a_m oJ uD dY iJ lJ jQ jR jW jK pJ bM aY jO gR gY mK jZ iY bG mJ jB mQ lY eJ bY bW aG jG bQ dG jY m_length qG uW eY aJ aB bU dN aR aE bJ aW bT gJ dU bL bR bO mY pW rD uQ) sz)) (q_X10_remember dC dI cI cC cZ cB cJ (va_A (wd_X10_remember cI cC cZ cB cJ a_m oJ uD dY iJ lJ jQ jR jW jK pJ bM aY jO gR gY mK jZ iY bG mJ jB mQ lY eJ bY bW aG jG bQ dG jY m_length qG uW eY aJ aB bU dN aR aE bJ aW bT gJ dU bL bR bO mY pW rD uQ) sz) a_m oJ uD dY iJ lJ jQ jR jW jK pJ bM aY jO gR gY mK jZ iY bG mJ jB mQ lY eJ bY bW aG jG bQ dG jY m_length qG uW eY aJ aB bU dN aR aE bJ aW gJ dU bL bR bO mY pW rD post) 0 0 (va_A (wd_X10_remember cI cC cZ cB cJ a_m oJ uD dY iJ lJ jQ jR jW jK pJ bM aY jO gR gY mK jZ iY bG mJ jB mQ lY eJ bY bW aG jG bQ dG jY m_length qG uW eY aJ aB bU dN aR aE bJ aW bT gJ dU bL bR bO mY pW rD uQ) sz) := by
  refine g_enter (own := RX10) (dC, dI) (tyl cI cC cZ cB cJ) (wd_X10_remember cI cC cZ cB cJ a_m oJ uD dY iJ lJ jQ jR jW jK pJ bM aY jO gR gY mK jZ iY bG mJ jB mQ lY eJ bY bW aG jG bQ dG jY m_length qG uW eY aJ aB bU dN aR aE bJ aW bT gJ dU bL bR bO mY pW rD uQ) sz [.ref a_m, .ref oJ] (fun A => q_X10_remember dC dI cI cC cZ cB cJ A a_m oJ uD dY iJ lJ jQ jR jW jK pJ bM aY jO gR gY mK jZ iY bG mJ jB mQ lY eJ bY bW aG jG bQ dG jY m_length qG uW eY aJ aB bU dN aR aE bJ aW gJ dU bL bR bO mY pW rD post) pn_RX10 rfl (Nat.le_of_ble_eq_true rfl) ?_
  intro p e s m args below meth c A H locs ls C0 hP hD hS hl
  have hl : lv_has ls 3 [(0, .ref a_m), (1, .ref oJ)] := hl
  obtain ⟨hx, hb, hr, hml, hown, hts, hlocks, hA, hK, hN, tL, tM, hZL, hTL, hZM, hTM, hZX⟩ := id C0
  have hp := hw
  unfold wp_X10_remember at hp
  refine lv_aload_n hx hb eX10_remember_0.1 rfl (lv_at hl 0 rfl) ?_
  refine va_get (D := (dC, dI)) (ci := 10) (v := .int bT) (C := RX10) (T := TX10) (N := 51) hx hb hts i_X10 hown hK hP 0 rfl rfl 32 (Nat.le_of_ble_eq_true rfl) (hts _ q_684) (fun _ h9 => h9) rfl eX10_remember_0.2.1 ?_
  refine lv_bipush (v := 12) hx hb eX10_remember_0.2.2.1 bp_12 ?_
  refine lv_icmp_ne (tgt := 49) hx hb eX10_remember_0.2.2.2.1 (by decide) (fun hc => ?_) (fun hc => ?_)
  · have hp := hp.1 hc
    exact ks_X10_remember_49 C0 bT uQ H locs ls hp hP hD hS (lv_sub hl [0, 1] rfl)
  · have hp := hp.2 hc
    refine lv_iconst (v := 0) hx hb eX10_remember_0.2.2.2.2.1 ic_0 ?_
    refine lv_istore_n (lv' := [(2, .int 0), (0, .ref a_m), (1, .ref oJ)]) hx hb eX10_remember_0.2.2.2.2.2.1 rfl hl (by decide) rfl (fun ls hl => ?_)
    obtain ⟨n9, hp⟩ := hp
    exact kb_X10_remember_11 C0 n9 0 bT uQ H locs ls hp hP hD hS (lv_sub hl [1, 2, 0] rfl)
noncomputable abbrev wd_X10_moveOf (cI cC cZ cB cJ : ClassId) (a_m oJ uD dY iJ lJ jQ jR jW jK pJ bM aY jO gR gY mK jZ iY bG mJ jB mQ lY eJ bY : Nat) (bW aG jG bQ dG : Int32) (jY : Nat) (m_length qG uW eY aJ aB bU dN aR aE bJ aW bT gJ dU bL bR bO mY pW : Int32) (oY pX : Nat → Int32) : va_W := [(a_m, .inr (10, [.ref oJ, .int bW, .ref uD, .ref dY, .ref iJ, .ref lJ, .int aG, .ref jQ, .ref jR, .ref jW, .ref jK, .int jG, .ref pJ, .int bQ, .int dG, rdv jK jO jY, .int m_length, .int qG, .int uW, .int eY, .ref bM, .ref aY, .int aJ, .int aB, .ref jO, .int bU, .int dN, .int aR, .int aE, .int bJ, .int aW, .ref gR, .int bT, .ref gY, .ref mK, .int gJ, .ref jZ, .int dU, .ref iY, .ref bG, .int bL, .int bR, .int bO, .ref mJ, .ref jB, .ref mQ, .int mY, .int pW, .ref lY, .ref eJ, .ref bY])), (jQ, .inl (cI, 8, .inl oY)), (jW, .inl (cI, 5, .inl pX))]
noncomputable abbrev q_X10_moveOf (dC : Nat → ClassId) (dI : Nat → Nat → Nat) (cI cC cZ cB cJ : ClassId) (A : Nat → Prop) (a_m oJ uD dY iJ lJ jQ jR jW jK pJ bM aY jO gR gY mK jZ iY bG mJ jB mQ lY eJ bY : Nat) (bW aG jG bQ dG : Int32) (jY : Nat) (m_length qG uW eY aJ aB bU dN aR aE bJ aW bT gJ dU bL bR bO mY pW : Int32) (oY pX : Nat → Int32) (post : Int32 → Prop) : Array Value → State → Outcome → State → Prop := va_Qi (fun (r : Int32) (u : Unit) => post r) (fun u t => gB (dC, dI) (tyl cI cC cZ cB cJ) A (wd_X10_moveOf cI cC cZ cB cJ a_m oJ uD dY iJ lJ jQ jR jW jK pJ bM aY jO gR gY mK jZ iY bG mJ jB mQ lY eJ bY bW aG jG bQ dG jY m_length qG uW eY aJ aB bU dN aR aE bJ aW bT gJ dU bL bR bO mY pW oY pX) t) A
noncomputable abbrev rm_X10_moveOf : Room := { frames := 1, cells := 0, slots := 0, locals := 21 }
noncomputable def wp_X10_moveOf (post : Int32 → Prop) (p0 p1 : Int32) (oY pX : Nat → Int32) : Prop := (¬ p0 = (-1) → ∀ v_1 : Int32, v_1 = pX (3 : Int32).toNatClampNeg → vp_in p0 8 ∧ (∀ v_2 : Int32, v_2 = oY p0.toNatClampNeg → vp_in p1 8 ∧ (∀ v_3 : Int32, v_3 = v_2 - (oY p1.toNatClampNeg) → ∀ v_4 : Int32, v_4 = (if 0 ≤ v_3 then v_3 else 0 - v_3) → post (9 + (v_1 * v_4))))) ∧ (p0 = (-1) → post 9)
set_option maxHeartbeats 4000000 in
set_option maxRecDepth 100000 in
theorem c_X10_moveOf (l : Launch) (dC : Nat → ClassId) (dI : Nat → Nat → Nat) (cI cC cZ cB cJ : ClassId) (a_m oJ uD dY iJ lJ jQ jR jW jK pJ bM aY jO gR gY mK jZ iY bG mJ jB mQ lY eJ bY sz : Nat) (p0 p1 bW aG jG bQ dG : Int32) (jY : Nat) (m_length qG uW eY aJ aB bU dN aR aE bJ aW bT gJ dU bL bR bO mY pW : Int32) (oY pX : Nat → Int32) (post : Int32 → Prop) (hw : wp_X10_moveOf post p0 p1 oY pX) : Met l yX10_moveOf (gw yX10_moveOf cX10_moveOf 3 (some .int)) rm_X10_moveOf (va_Pc [.ref a_m, .int p0, .int p1] (gPre (dC, dI) (tyl cI cC cZ cB cJ) (wd_X10_moveOf cI cC cZ cB cJ a_m oJ uD dY iJ lJ jQ jR jW jK pJ bM aY jO gR gY mK jZ iY bG mJ jB mQ lY eJ bY bW aG jG bQ dG jY m_length qG uW eY aJ aB bU dN aR aE bJ aW bT gJ dU bL bR bO mY pW oY pX) sz)) (q_X10_moveOf dC dI cI cC cZ cB cJ (va_A (wd_X10_moveOf cI cC cZ cB cJ a_m oJ uD dY iJ lJ jQ jR jW jK pJ bM aY jO gR gY mK jZ iY bG mJ jB mQ lY eJ bY bW aG jG bQ dG jY m_length qG uW eY aJ aB bU dN aR aE bJ aW bT gJ dU bL bR bO mY pW oY pX) sz) a_m oJ uD dY iJ lJ jQ jR jW jK pJ bM aY jO gR gY mK jZ iY bG mJ jB mQ lY eJ bY bW aG jG bQ dG jY m_length qG uW eY aJ aB bU dN aR aE bJ aW bT gJ dU bL bR bO mY pW oY pX post) 0 0 (va_A (wd_X10_moveOf cI cC cZ cB cJ a_m oJ uD dY iJ lJ jQ jR jW jK pJ bM aY jO gR gY mK jZ iY bG mJ jB mQ lY eJ bY bW aG jG bQ dG jY m_length qG uW eY aJ aB bU dN aR aE bJ aW bT gJ dU bL bR bO mY pW oY pX) sz) := by
  refine g_enter (own := RX10) (dC, dI) (tyl cI cC cZ cB cJ) (wd_X10_moveOf cI cC cZ cB cJ a_m oJ uD dY iJ lJ jQ jR jW jK pJ bM aY jO gR gY mK jZ iY bG mJ jB mQ lY eJ bY bW aG jG bQ dG jY m_length qG uW eY aJ aB bU dN aR aE bJ aW bT gJ dU bL bR bO mY pW oY pX) sz [.ref a_m, .int p0, .int p1] (fun A => q_X10_moveOf dC dI cI cC cZ cB cJ A a_m oJ uD dY iJ lJ jQ jR jW jK pJ bM aY jO gR gY mK jZ iY bG mJ jB mQ lY eJ bY bW aG jG bQ dG jY m_length qG uW eY aJ aB bU dN aR aE bJ aW bT gJ dU bL bR bO mY pW oY pX post) pn_RX10 rfl (Nat.le_of_ble_eq_true rfl) ?_
  intro p e s m args below meth c A H locs ls C0 hP hD hS hl
  have hl : lv_has ls 3 [(0, .ref a_m), (1, .int p0), (2, .int p1)] := hl
  obtain ⟨hx, hb, hr, hml, hown, hts, hlocks, hA, hK, hN, tL, tM, hZL, hTL, hZM, hTM, hZX⟩ := id C0
  have hp := hw
  unfold wp_X10_moveOf at hp
  refine lv_iload_n hx hb eX10_moveOf_0.1 rfl (lv_at hl 1 rfl) ?_
  refine lv_iconst (v := (-1)) hx hb eX10_moveOf_0.2.1 ic_m1 ?_
  refine lv_icmp_ne (tgt := 10) hx hb eX10_moveOf_0.2.2.1 (by decide) (fun hc => ?_) (fun hc => ?_)
  · have hp := hp.1 hc
    refine lv_bipush (v := 9) hx hb eX10_moveOf_0.2.2.2.2.2.1 bp_9 ?_
    refine lv_aload_n hx hb eX10_moveOf_0.2.2.2.2.2.2.1 rfl (lv_at hl 0 rfl) ?_
    refine va_get (D := (dC, dI)) (ci := 10) (v := .ref jW) (C := RX10) (T := TX10) (N := 51) hx hb hts i_X10 hown hK hP 0 rfl rfl 9 (Nat.le_of_ble_eq_true rfl) (hts _ q_765) (fun _ h9 => h9) rfl eX10_moveOf_0.2.2.2.2.2.2.2.1 ?_
    refine lv_iconst (v := 3) hx hb eX10_moveOf_0.2.2.2.2.2.2.2.2.1 ic_3 ?_
    refine va_iald hx hb hK hP 2 0 rfl rfl (g_in rfl) eX10_moveOf_0.2.2.2.2.2.2.2.2.2.1 ?_
    refine lv_topi (fun v_1 ev_1 => ?_)
    have hp := hp v_1 ev_1
    refine lv_aload_n hx hb eX10_moveOf_0.2.2.2.2.2.2.2.2.2.2.1 rfl (lv_at hl 0 rfl) ?_
    refine va_get (D := (dC, dI)) (ci := 10) (v := .ref jQ) (C := RX10) (T := TX10) (N := 51) hx hb hts i_X10 hown hK hP 0 rfl rfl 7 (Nat.le_of_ble_eq_true rfl) (hts _ q_686) (fun _ h9 => h9) rfl eX10_moveOf_0.2.2.2.2.2.2.2.2.2.2.2.1 ?_
    refine lv_iload_n hx hb eX10_moveOf_0.2.2.2.2.2.2.2.2.2.2.2.2.1 rfl (lv_at hl 1 rfl) ?_
    have hin := hp.1
    have hp := hp.2
    refine va_iald hx hb hK hP 1 0 rfl rfl hin eX10_moveOf_0.2.2.2.2.2.2.2.2.2.2.2.2.2.1 ?_
    refine lv_topi (fun v_2 ev_2 => ?_)
    have hp := hp v_2 ev_2
    refine lv_aload_n hx hb eX10_moveOf_0.2.2.2.2.2.2.2.2.2.2.2.2.2.2.1 rfl (lv_at hl 0 rfl) ?_
    refine va_get (D := (dC, dI)) (ci := 10) (v := .ref jQ) (C := RX10) (T := TX10) (N := 51) hx hb hts i_X10 hown hK hP 0 rfl rfl 7 (Nat.le_of_ble_eq_true rfl) (hts _ q_686) (fun _ h9 => h9) rfl eX10_moveOf_0.2.2.2.2.2.2.2.2.2.2.2.2.2.2.2 ?_
    refine lv_iload_n hx hb eX10_moveOf_28.1 rfl (lv_at hl 2 rfl) ?_
    have hin := hp.1
    have hp := hp.2
    refine va_iald hx hb hK hP 1 0 rfl rfl hin eX10_moveOf_28.2.1 ?_
    refine lv_isub hx hb eX10_moveOf_28.2.2.1 ?_
    refine lv_topi (fun v_3 ev_3 => ?_)
    have hp := hp v_3 ev_3
    refine va_mabs hx hb (by rw [hml]; exact hl.1.symm) hown (hts _ q_698) (hts _ q_166) (hts _ q_16) (hts _ q_167) (Nat.le_of_ble_eq_true rfl) (Nat.le_of_ble_eq_true rfl) (Nat.zero_le _) (Nat.zero_le _) eX10_moveOf_28.2.2.2.1 ?_
    refine lv_topi (fun v_4 ev_4 => ?_)
    have hp := hp v_4 ev_4
    refine lv_imul hx hb eX10_moveOf_28.2.2.2.2.1 ?_
    refine lv_iadd hx hb eX10_moveOf_28.2.2.2.2.2.1 ?_
    exact W.iret (v := 9 + (v_1 * v_4)) hx hb hr (fun t ht hW => ⟨⟨9 + (v_1 * v_4), (), rfl, hp, by rw [ht]; exact hP, va_K.moved hW.alike hK, hD⟩, hS.F ht⟩) hS.2.2 eX10_moveOf_28.2.2.2.2.2.2
  · have hp := hp.2 hc
    refine lv_bipush (v := 9) hx hb eX10_moveOf_0.2.2.2.1 bp_9 ?_
    refine lv_goto (tgt := 36) hx hb eX10_moveOf_0.2.2.2.2.1 (by decide) ?_
    exact W.iret (v := 9) hx hb hr (fun t ht hW => ⟨⟨9, (), rfl, hp, by rw [ht]; exact hP, va_K.moved hW.alike hK, hD⟩, hS.F ht⟩) hS.2.2 eX10_moveOf_28.2.2.2.2.2.2
noncomputable abbrev wd_X10_empty (cI cC cZ cB cJ : ClassId) (a_m oJ uD dY iJ lJ jQ jR jW jK pJ bM aY jO gR gY mK jZ iY bG mJ jB mQ lY eJ bY : Nat) (bW aG jG bQ dG : Int32) (jY : Nat) (m_length qG uW eY aJ aB bU dN aR aE bJ aW bT gJ dU bL bR bO mY pW : Int32) (rD : Nat → Int32) : va_W := [(a_m, .inr (10, [.ref oJ, .int bW, .ref uD, .ref dY, .ref iJ, .ref lJ, .int aG, .ref jQ, .ref jR, .ref jW, .ref jK, .int jG, .ref pJ, .int bQ, .int dG, rdv jK jO jY, .int m_length, .int qG, .int uW, .int eY, .ref bM, .ref aY, .int aJ, .int aB, .ref jO, .int bU, .int dN, .int aR, .int aE, .int bJ, .int aW, .ref gR, .int bT, .ref gY, .ref mK, .int gJ, .ref jZ, .int dU, .ref iY, .ref bG, .int bL, .int bR, .int bO, .ref mJ, .ref jB, .ref mQ, .int mY, .int pW, .ref lY, .ref eJ, .ref bY])), (oJ, .inl (cI, 21, .inl rD))]
noncomputable abbrev q_X10_empty (dC : Nat → ClassId) (dI : Nat → Nat → Nat) (cI cC cZ cB cJ : ClassId) (A : Nat → Prop) (a_m oJ uD dY iJ lJ jQ jR jW jK pJ bM aY jO gR gY mK jZ iY bG mJ jB mQ lY eJ bY : Nat) (bW aG jG bQ dG : Int32) (jY : Nat) (m_length qG uW eY aJ aB bU dN aR aE bJ aW bT gJ dU bL bR bO mY pW : Int32) (post : Int32 → (Nat → Int32) → Prop) : Array Value → State → Outcome → State → Prop := va_Qi (fun (r : Int32) (u : (Nat → Int32)) => post r u) (fun u t => gB (dC, dI) (tyl cI cC cZ cB cJ) A (wd_X10_empty cI cC cZ cB cJ a_m oJ uD dY iJ lJ jQ jR jW jK pJ bM aY jO gR gY mK jZ iY bG mJ jB mQ lY eJ bY bW aG jG bQ dG jY m_length qG uW eY aJ aB bU dN aR aE bJ aW bT gJ dU bL bR bO mY pW u) t) A
noncomputable abbrev rm_X10_empty : Room := { frames := 0, cells := 0, slots := 0, locals := 0 }
section S_X10_empty
variable {p : Program} {l : Launch} {e : Env} {s : State} {m : MethodId} {args : Array Value} {below : List Frame} {meth : Method} {c : Code} {dC : Nat → ClassId} {dI : Nat → Nat → Nat} {cI cC cZ cB cJ : ClassId} {A : Nat → Prop} {a_m oJ uD dY iJ lJ jQ jR jW jK pJ bM aY jO gR gY mK jZ iY bG mJ jB mQ lY eJ bY : Nat} {bW aG jG bQ dG : Int32} {jY : Nat} {m_length qG uW eY aJ aB bU dN aR aE bJ aW bT gJ dU bL bR bO mY pW : Int32} {post : Int32 → (Nat → Int32) → Prop}
noncomputable def ws_X10_empty_35 (post : Int32 → (Nat → Int32) → Prop) (K4 : Int32 → Int32 → (Nat → Int32) → Prop) (bW x1 x2 : Int32) (rD : Nat → Int32) : Prop := ∀ v_3 : Int32, v_3 = x2 + 1 → K4 x1 v_3 rD
set_option maxHeartbeats 4000000 in
set_option maxRecDepth 100000 in
theorem ks_X10_empty_35 (C0 : gc cX10_empty (some .int) 3 RX10 (dC, dI) (tyl cI cC cZ cB cJ) A p s m args meth c) {K4 : Int32 → Int32 → (Nat → Int32) → Prop} (hK4 : ∀ (x1 : Int32) (x2 : Int32) (rD : Nat → Int32) (H : Heap) (locs : List Loc) (ls : Array Slot), K4 x1 x2 rD → va_P (dC, dI) classes (wd_X10_empty cI cC cZ cB cJ a_m oJ uD dY iJ lJ jQ jR jW jK pJ bM aY jO gR gY mK jZ iY bG mJ jB mQ lY eJ bY bW aG jG bQ dG jY m_length qG uW eY aJ aB bU dN aR aE bJ aW bT gJ dU bL bR bO mY pW rD) H → va_D A (wd_X10_empty cI cC cZ cB cJ a_m oJ uD dY iJ lJ jQ jR jW jK pJ bM aY jO gR gY mK jZ iY bG mJ jB mQ lY eJ bY bW aG jG bQ dG jY m_length qG uW eY aJ aB bU dN aR aE bJ aW bT gJ dU bL bR bO mY pW rD) → va_S A s.heap H locs → lv_has ls 3 [(0, .ref a_m), (1, .int x1), (2, .int x2)] → W p l e rm_X10_empty s m args below meth c H locs 0 0 (MQ below (q_X10_empty dC dI cI cC cZ cB cJ A a_m oJ uD dY iJ lJ jQ jR jW jK pJ bM aY jO gR gY mK jZ iY bG mJ jB mQ lY eJ bY bW aG jG bQ dG jY m_length qG uW eY aJ aB bU dN aR aE bJ aW bT gJ dU bL bR bO mY pW post) args s 0 0 A) (F0 m 4 ls [])) : ∀ (x1 x2 : Int32) (rD : Nat → Int32) (H : Heap) (locs : List Loc) (ls : Array Slot), (ws_X10_empty_35 post K4 bW) x1 x2 rD → va_P (dC, dI) classes (wd_X10_empty cI cC cZ cB cJ a_m oJ uD dY iJ lJ jQ jR jW jK pJ bM aY jO gR gY mK jZ iY bG mJ jB mQ lY eJ bY bW aG jG bQ dG jY m_length qG uW eY aJ aB bU dN aR aE bJ aW bT gJ dU bL bR bO mY pW rD) H → va_D A (wd_X10_empty cI cC cZ cB cJ a_m oJ uD dY iJ lJ jQ jR jW jK pJ bM aY jO gR gY mK jZ iY bG mJ jB mQ lY eJ bY bW aG jG bQ dG jY m_length qG uW eY aJ aB bU dN aR aE bJ aW bT gJ dU bL bR bO mY pW rD) → va_S A s.heap H locs → lv_has ls 3 [(0, .ref a_m), (1, .int x1), (2, .int x2)] → W p l e rm_X10_empty s m args below meth c H locs 0 0 (MQ below (q_X10_empty dC dI cI cC cZ cB cJ A a_m oJ uD dY iJ lJ jQ jR jW jK pJ bM aY jO gR gY mK jZ iY bG mJ jB mQ lY eJ bY bW aG jG bQ dG jY m_length qG uW eY aJ aB bU dN aR aE bJ aW bT gJ dU bL bR bO mY pW post) args s 0 0 A) (F0 m 35 ls []) := by
  obtain ⟨hx, hb, hr, hml, hown, hts, hlocks, hA, hK, hN, tL, tM, hZL, hTL, hZM, hTM, hZX⟩ := id C0
  intro x1 x2 rD H locs ls hp hP hD hS hl
  unfold ws_X10_empty_35 at hp
  obtain ⟨v_3, ev_3⟩ : ∃ y : Int32, y = x2 + 1 := ⟨_, rfl⟩
  refine lv_iinc (v := v_3) (lv' := [(2, .int v_3), (0, .ref a_m), (1, .int x1)]) hx hb eX10_empty_26.2.2.2.2.2.1 hl (k := 2) rfl (by rw [ev_3]; rfl) (by decide) rfl (fun ls hl => ?_)
  have hp := hp v_3 ev_3
  refine lv_goto (tgt := 4) hx hb eX10_empty_26.2.2.2.2.2.2.1 (by decide) ?_
  exact hK4 x1 v_3 rD H locs ls hp hP hD hS (lv_sub hl [1, 2, 0] rfl)
noncomputable def ws_X10_empty_4 (post : Int32 → (Nat → Int32) → Prop) (next : Int32 → Int32 → (Nat → Int32) → Prop) (bW x1 x2 : Int32) (rD : Nat → Int32) : Prop := (bW ≤ x2 → post x1 rD) ∧ (¬ bW ≤ x2 → vp_in x2 21 ∧ (∀ v_1 : Int32, v_1 = rD x2.toNatClampNeg → (v_1 = 1 → vp_in x2 21 ∧ (∀ v_2 : Int32, v_2 = x1 + 1 → ws_X10_empty_35 post next bW v_2 x2 (upd rD x2.toNatClampNeg 2))) ∧ (¬ v_1 = 1 → ws_X10_empty_35 post next bW x1 x2 rD)))
noncomputable def wb_X10_empty_4 (post : Int32 → (Nat → Int32) → Prop) (bW : Int32) : Nat → Int32 → Int32 → (Nat → Int32) → Prop := fun n => Nat.rec (motive := fun _ => Int32 → Int32 → (Nat → Int32) → Prop) (fun _ _ _ => False) (fun _ ih => ws_X10_empty_4 post ih bW) n
set_option maxHeartbeats 4000000 in
set_option maxRecDepth 100000 in
theorem ks_X10_empty_4 (C0 : gc cX10_empty (some .int) 3 RX10 (dC, dI) (tyl cI cC cZ cB cJ) A p s m args meth c) {next : Int32 → Int32 → (Nat → Int32) → Prop} (hKn : ∀ (x1 : Int32) (x2 : Int32) (rD : Nat → Int32) (H : Heap) (locs : List Loc) (ls : Array Slot), next x1 x2 rD → va_P (dC, dI) classes (wd_X10_empty cI cC cZ cB cJ a_m oJ uD dY iJ lJ jQ jR jW jK pJ bM aY jO gR gY mK jZ iY bG mJ jB mQ lY eJ bY bW aG jG bQ dG jY m_length qG uW eY aJ aB bU dN aR aE bJ aW bT gJ dU bL bR bO mY pW rD) H → va_D A (wd_X10_empty cI cC cZ cB cJ a_m oJ uD dY iJ lJ jQ jR jW jK pJ bM aY jO gR gY mK jZ iY bG mJ jB mQ lY eJ bY bW aG jG bQ dG jY m_length qG uW eY aJ aB bU dN aR aE bJ aW bT gJ dU bL bR bO mY pW rD) → va_S A s.heap H locs → lv_has ls 3 [(0, .ref a_m), (1, .int x1), (2, .int x2)] → W p l e rm_X10_empty s m args below meth c H locs 0 0 (MQ below (q_X10_empty dC dI cI cC cZ cB cJ A a_m oJ uD dY iJ lJ jQ jR jW jK pJ bM aY jO gR gY mK jZ iY bG mJ jB mQ lY eJ bY bW aG jG bQ dG jY m_length qG uW eY aJ aB bU dN aR aE bJ aW bT gJ dU bL bR bO mY pW post) args s 0 0 A) (F0 m 4 ls [])) : ∀ (x1 x2 : Int32) (rD : Nat → Int32) (H : Heap) (locs : List Loc) (ls : Array Slot), (ws_X10_empty_4 post next bW) x1 x2 rD → va_P (dC, dI) classes (wd_X10_empty cI cC cZ cB cJ a_m oJ uD dY iJ lJ jQ jR jW jK pJ bM aY jO gR gY mK jZ iY bG mJ jB mQ lY eJ bY bW aG jG bQ dG jY m_length qG uW eY aJ aB bU dN aR aE bJ aW bT gJ dU bL bR bO mY pW rD) H → va_D A (wd_X10_empty cI cC cZ cB cJ a_m oJ uD dY iJ lJ jQ jR jW jK pJ bM aY jO gR gY mK jZ iY bG mJ jB mQ lY eJ bY bW aG jG bQ dG jY m_length qG uW eY aJ aB bU dN aR aE bJ aW bT gJ dU bL bR bO mY pW rD) → va_S A s.heap H locs → lv_has ls 3 [(0, .ref a_m), (1, .int x1), (2, .int x2)] → W p l e rm_X10_empty s m args below meth c H locs 0 0 (MQ below (q_X10_empty dC dI cI cC cZ cB cJ A a_m oJ uD dY iJ lJ jQ jR jW jK pJ bM aY jO gR gY mK jZ iY bG mJ jB mQ lY eJ bY bW aG jG bQ dG jY m_length qG uW eY aJ aB bU dN aR aE bJ aW bT gJ dU bL bR bO mY pW post) args s 0 0 A) (F0 m 4 ls []) := by
  obtain ⟨hx, hb, hr, hml, hown, hts, hlocks, hA, hK, hN, tL, tM, hZL, hTL, hZM, hTM, hZX⟩ := id C0
  intro x1 x2 rD H locs ls hp hP hD hS hl
  unfold ws_X10_empty_4 at hp
  refine lv_iload_n hx hb eX10_empty_0.2.2.2.2.1 rfl (lv_at hl 2 rfl) ?_
  refine lv_aload_n hx hb eX10_empty_0.2.2.2.2.2.1 rfl (lv_at hl 0 rfl) ?_
  refine va_get (D := (dC, dI)) (ci := 10) (v := .int bW) (C := RX10) (T := TX10) (N := 51) hx hb hts i_X10 hown hK hP 0 rfl rfl 1 (Nat.le_of_ble_eq_true rfl) (hts _ q_677) (fun _ h9 => h9) rfl eX10_empty_0.2.2.2.2.2.2.1 ?_
  refine lv_icmp_ge (tgt := 41) hx hb eX10_empty_0.2.2.2.2.2.2.2.1 (by decide) (fun hc => ?_) (fun hc => ?_)
  · have hp := hp.1 hc
    refine lv_iload_n hx hb eX10_empty_26.2.2.2.2.2.2.2.1 rfl (lv_at hl 1 rfl) ?_
    exact W.iret (v := x1) hx hb hr (fun t ht hW => ⟨⟨x1, rD, rfl, hp, by rw [ht]; exact hP, va_K.moved hW.alike hK, hD⟩, hS.F ht⟩) hS.2.2 eX10_empty_26.2.2.2.2.2.2.2.2
  · have hp := hp.2 hc
    refine lv_aload_n hx hb eX10_empty_0.2.2.2.2.2.2.2.2.1 rfl (lv_at hl 0 rfl) ?_
    refine va_get (D := (dC, dI)) (ci := 10) (v := .ref oJ) (C := RX10) (T := TX10) (N := 51) hx hb hts i_X10 hown hK hP 0 rfl rfl 0 (Nat.le_of_ble_eq_true rfl) (hts _ q_692) (fun _ h9 => h9) rfl eX10_empty_0.2.2.2.2.2.2.2.2.2.1 ?_
    refine lv_iload_n hx hb eX10_empty_0.2.2.2.2.2.2.2.2.2.2.1 rfl (lv_at hl 2 rfl) ?_
    have hin := hp.1
    have hp := hp.2
    refine va_iald hx hb hK hP 1 0 rfl rfl hin eX10_empty_0.2.2.2.2.2.2.2.2.2.2.2.1 ?_
    refine lv_topi (fun v_1 ev_1 => ?_)
    have hp := hp v_1 ev_1
    refine lv_iconst (v := 1) hx hb eX10_empty_0.2.2.2.2.2.2.2.2.2.2.2.2.1 ic_1 ?_
    refine lv_icmp_eq (tgt := 25) hx hb eX10_empty_0.2.2.2.2.2.2.2.2.2.2.2.2.2.1 (by decide) (fun hc => ?_) (fun hc => ?_)
    · have hp := hp.1 hc
      refine lv_aload_n hx hb eX10_empty_0.2.2.2.2.2.2.2.2.2.2.2.2.2.2.2 rfl (lv_at hl 0 rfl) ?_
      refine va_get (D := (dC, dI)) (ci := 10) (v := .ref oJ) (C := RX10) (T := TX10) (N := 51) hx hb hts i_X10 hown hK hP 0 rfl rfl 0 (Nat.le_of_ble_eq_true rfl) (hts _ q_692) (fun _ h9 => h9) rfl eX10_empty_26.1 ?_
      refine lv_iload_n hx hb eX10_empty_26.2.1 rfl (lv_at hl 2 rfl) ?_
      refine lv_iconst (v := 2) hx hb eX10_empty_26.2.2.1 ic_2 ?_
      have hin := hp.1
      have hp := hp.2
      refine va_iast hx hb hK hP hD hS 1 0 rfl rfl hin eX10_empty_26.2.2.2.1 (fun H locs hP hD hS => ?_)
      have hP : va_P (dC, dI) classes (wd_X10_empty cI cC cZ cB cJ a_m oJ uD dY iJ lJ jQ jR jW jK pJ bM aY jO gR gY mK jZ iY bG mJ jB mQ lY eJ bY bW aG jG bQ dG jY m_length qG uW eY aJ aB bU dN aR aE bJ aW bT gJ dU bL bR bO mY pW (upd rD x2.toNatClampNeg 2)) H := hP
      have hD : va_D A (wd_X10_empty cI cC cZ cB cJ a_m oJ uD dY iJ lJ jQ jR jW jK pJ bM aY jO gR gY mK jZ iY bG mJ jB mQ lY eJ bY bW aG jG bQ dG jY m_length qG uW eY aJ aB bU dN aR aE bJ aW bT gJ dU bL bR bO mY pW (upd rD x2.toNatClampNeg 2)) := hD
      obtain ⟨v_2, ev_2⟩ : ∃ y : Int32, y = x1 + 1 := ⟨_, rfl⟩
      refine lv_iinc (v := v_2) (lv' := [(1, .int v_2), (0, .ref a_m), (2, .int x2)]) hx hb eX10_empty_26.2.2.2.2.1 hl (k := 1) rfl (by rw [ev_2]; rfl) (by decide) rfl (fun ls hl => ?_)
      have hp := hp v_2 ev_2
      exact ks_X10_empty_35 C0 hKn v_2 x2 (upd rD x2.toNatClampNeg 2) H locs ls hp hP hD hS (lv_sub hl [1, 0, 2] rfl)
    · have hp := hp.2 hc
      refine lv_goto (tgt := 35) hx hb eX10_empty_0.2.2.2.2.2.2.2.2.2.2.2.2.2.2.1 (by decide) ?_
      exact ks_X10_empty_35 C0 hKn x1 x2 rD H locs ls hp hP hD hS (lv_sub hl [0, 1, 2] rfl)
set_option maxHeartbeats 4000000 in
set_option maxRecDepth 100000 in
theorem kb_X10_empty_4 (C0 : gc cX10_empty (some .int) 3 RX10 (dC, dI) (tyl cI cC cZ cB cJ) A p s m args meth c) : ∀ (n : Nat), ∀ (x1 x2 : Int32) (rD : Nat → Int32) (H : Heap) (locs : List Loc) (ls : Array Slot), (wb_X10_empty_4 post bW n) x1 x2 rD → va_P (dC, dI) classes (wd_X10_empty cI cC cZ cB cJ a_m oJ uD dY iJ lJ jQ jR jW jK pJ bM aY jO gR gY mK jZ iY bG mJ jB mQ lY eJ bY bW aG jG bQ dG jY m_length qG uW eY aJ aB bU dN aR aE bJ aW bT gJ dU bL bR bO mY pW rD) H → va_D A (wd_X10_empty cI cC cZ cB cJ a_m oJ uD dY iJ lJ jQ jR jW jK pJ bM aY jO gR gY mK jZ iY bG mJ jB mQ lY eJ bY bW aG jG bQ dG jY m_length qG uW eY aJ aB bU dN aR aE bJ aW bT gJ dU bL bR bO mY pW rD) → va_S A s.heap H locs → lv_has ls 3 [(0, .ref a_m), (1, .int x1), (2, .int x2)] → W p l e rm_X10_empty s m args below meth c H locs 0 0 (MQ below (q_X10_empty dC dI cI cC cZ cB cJ A a_m oJ uD dY iJ lJ jQ jR jW jK pJ bM aY jO gR gY mK jZ iY bG mJ jB mQ lY eJ bY bW aG jG bQ dG jY m_length qG uW eY aJ aB bU dN aR aE bJ aW bT gJ dU bL bR bO mY pW post) args s 0 0 A) (F0 m 4 ls []) := by
  intro n
  induction n with
  | zero =>
    intro x1 x2 rD H locs ls hp
    exact False.elim hp
  | succ n ih =>
    intro x1 x2 rD H locs ls hp
    exact ks_X10_empty_4 C0 ih x1 x2 rD H locs ls hp
end S_X10_empty
noncomputable def wp_X10_empty (post : Int32 → (Nat → Int32) → Prop) (bW : Int32) (rD : Nat → Int32) : Prop := ∃ n : Nat, wb_X10_empty_4 post bW n 0 0 rD
set_option maxHeartbeats 4000000 in
set_option maxRecDepth 100000 in
theorem c_X10_empty (l : Launch) (dC : Nat → ClassId) (dI : Nat → Nat → Nat) (cI cC cZ cB cJ : ClassId) (a_m oJ uD dY iJ lJ jQ jR jW jK pJ bM aY jO gR gY mK jZ iY bG mJ jB mQ lY eJ bY sz : Nat) (bW aG jG bQ dG : Int32) (jY : Nat) (m_length qG uW eY aJ aB bU dN aR aE bJ aW bT gJ dU bL bR bO mY pW : Int32) (rD : Nat → Int32) (post : Int32 → (Nat → Int32) → Prop) (hw : wp_X10_empty post bW rD) : Met l yX10_empty (gw yX10_empty cX10_empty 3 (some .int)) rm_X10_empty (va_Pc [.ref a_m] (gPre (dC, dI) (tyl cI cC cZ cB cJ) (wd_X10_empty cI cC cZ cB cJ a_m oJ uD dY iJ lJ jQ jR jW jK pJ bM aY jO gR gY mK jZ iY bG mJ jB mQ lY eJ bY bW aG jG bQ dG jY m_length qG uW eY aJ aB bU dN aR aE bJ aW bT gJ dU bL bR bO mY pW rD) sz)) (q_X10_empty dC dI cI cC cZ cB cJ (va_A (wd_X10_empty cI cC cZ cB cJ a_m oJ uD dY iJ lJ jQ jR jW jK pJ bM aY jO gR gY mK jZ iY bG mJ jB mQ lY eJ bY bW aG jG bQ dG jY m_length qG uW eY aJ aB bU dN aR aE bJ aW bT gJ dU bL bR bO mY pW rD) sz) a_m oJ uD dY iJ lJ jQ jR jW jK pJ bM aY jO gR gY mK jZ iY bG mJ jB mQ lY eJ bY bW aG jG bQ dG jY m_length qG uW eY aJ aB bU dN aR aE bJ aW bT gJ dU bL bR bO mY pW post) 0 0 (va_A (wd_X10_empty cI cC cZ cB cJ a_m oJ uD dY iJ lJ jQ jR jW jK pJ bM aY jO gR gY mK jZ iY bG mJ jB mQ lY eJ bY bW aG jG bQ dG jY m_length qG uW eY aJ aB bU dN aR aE bJ aW bT gJ dU bL bR bO mY pW rD) sz) := by
  refine g_enter (own := RX10) (dC, dI) (tyl cI cC cZ cB cJ) (wd_X10_empty cI cC cZ cB cJ a_m oJ uD dY iJ lJ jQ jR jW jK pJ bM aY jO gR gY mK jZ iY bG mJ jB mQ lY eJ bY bW aG jG bQ dG jY m_length qG uW eY aJ aB bU dN aR aE bJ aW bT gJ dU bL bR bO mY pW rD) sz [.ref a_m] (fun A => q_X10_empty dC dI cI cC cZ cB cJ A a_m oJ uD dY iJ lJ jQ jR jW jK pJ bM aY jO gR gY mK jZ iY bG mJ jB mQ lY eJ bY bW aG jG bQ dG jY m_length qG uW eY aJ aB bU dN aR aE bJ aW bT gJ dU bL bR bO mY pW post) pn_RX10 rfl (Nat.le_of_ble_eq_true rfl) ?_
  intro p e s m args below meth c A H locs ls C0 hP hD hS hl
  have hl : lv_has ls 3 [(0, .ref a_m)] := hl
  obtain ⟨hx, hb, hr, hml, hown, hts, hlocks, hA, hK, hN, tL, tM, hZL, hTL, hZM, hTM, hZX⟩ := id C0
  have hp := hw
  unfold wp_X10_empty at hp
  refine lv_iconst (v := 0) hx hb eX10_empty_0.1 ic_0 ?_
  refine lv_istore_n (lv' := [(1, .int 0), (0, .ref a_m)]) hx hb eX10_empty_0.2.1 rfl hl (by decide) rfl (fun ls hl => ?_)
  refine lv_iconst (v := 0) hx hb eX10_empty_0.2.2.1 ic_0 ?_
  refine lv_istore_n (lv' := [(2, .int 0), (1, .int 0), (0, .ref a_m)]) hx hb eX10_empty_0.2.2.2.1 rfl hl (by decide) rfl (fun ls hl => ?_)
  obtain ⟨n9, hp⟩ := hp
  exact kb_X10_empty_4 C0 n9 0 0 rD H locs ls hp hP hD hS (lv_sub hl [2, 1, 0] rfl)
noncomputable abbrev wd_X10_passBy (cI cC cZ cB cJ : ClassId) (a_m oJ uD dY iJ lJ jQ jR jW jK pJ bM aY jO gR gY mK jZ iY bG mJ jB mQ lY eJ bY : Nat) (bW aG jG bQ dG : Int32) (jY : Nat) (m_length qG uW eY aJ aB bU dN aR aE bJ aW bT gJ dU bL bR bO mY pW : Int32) (rD : Nat → Int32) : va_W := [(a_m, .inr (10, [.ref oJ, .int bW, .ref uD, .ref dY, .ref iJ, .ref lJ, .int aG, .ref jQ, .ref jR, .ref jW, .ref jK, .int jG, .ref pJ, .int bQ, .int dG, rdv jK jO jY, .int m_length, .int qG, .int uW, .int eY, .ref bM, .ref aY, .int aJ, .int aB, .ref jO, .int bU, .int dN, .int aR, .int aE, .int bJ, .int aW, .ref gR, .int bT, .ref gY, .ref mK, .int gJ, .ref jZ, .int dU, .ref iY, .ref bG, .int bL, .int bR, .int bO, .ref mJ, .ref jB, .ref mQ, .int mY, .int pW, .ref lY, .ref eJ, .ref bY])), (oJ, .inl (cI, 21, .inl rD))]
noncomputable abbrev q_X10_passBy (dC : Nat → ClassId) (dI : Nat → Nat → Nat) (cI cC cZ cB cJ : ClassId) (A : Nat → Prop) (a_m oJ uD dY iJ lJ jQ jR jW jK pJ bM aY jO gR gY mK jZ iY bG mJ jB mQ lY eJ bY : Nat) (bW aG jG bQ dG : Int32) (jY : Nat) (m_length qG uW eY aJ aB bU dN aR aE bJ aW bT gJ dU bL bR bO mY pW : Int32) (post : (Nat → Int32) → Prop) : Array Value → State → Outcome → State → Prop := va_Qv (fun (u : (Nat → Int32)) => post u) (fun u t => gB (dC, dI) (tyl cI cC cZ cB cJ) A (wd_X10_passBy cI cC cZ cB cJ a_m oJ uD dY iJ lJ jQ jR jW jK pJ bM aY jO gR gY mK jZ iY bG mJ jB mQ lY eJ bY bW aG jG bQ dG jY m_length qG uW eY aJ aB bU dN aR aE bJ aW bT gJ dU bL bR bO mY pW u) t) A
noncomputable abbrev rm_X10_passBy : Room := { frames := 1, cells := 0, slots := 0, locals := 21 }
noncomputable def wp_X10_passBy (post : (Nat → Int32) → Prop) (p0 : Int32) (rD : Nat → Int32) : Prop := ∀ v_1 : Int32, v_1 = rD (20 : Int32).toNatClampNeg → ∀ v_2 : Int32, v_2 = v_1 + p0 → ∀ v_3 : Int32, v_3 = (if v_2 < 9999 then v_2 else 9999) → post (upd rD (20 : Int32).toNatClampNeg v_3)
set_option maxHeartbeats 4000000 in
set_option maxRecDepth 100000 in
theorem c_X10_passBy (l : Launch) (dC : Nat → ClassId) (dI : Nat → Nat → Nat) (cI cC cZ cB cJ : ClassId) (a_m oJ uD dY iJ lJ jQ jR jW jK pJ bM aY jO gR gY mK jZ iY bG mJ jB mQ lY eJ bY sz : Nat) (p0 bW aG jG bQ dG : Int32) (jY : Nat) (m_length qG uW eY aJ aB bU dN aR aE bJ aW bT gJ dU bL bR bO mY pW : Int32) (rD : Nat → Int32) (post : (Nat → Int32) → Prop) (hw : wp_X10_passBy post p0 rD) : Met l yX10_passBy (gw yX10_passBy cX10_passBy 2 none) rm_X10_passBy (va_Pc [.ref a_m, .int p0] (gPre (dC, dI) (tyl cI cC cZ cB cJ) (wd_X10_passBy cI cC cZ cB cJ a_m oJ uD dY iJ lJ jQ jR jW jK pJ bM aY jO gR gY mK jZ iY bG mJ jB mQ lY eJ bY bW aG jG bQ dG jY m_length qG uW eY aJ aB bU dN aR aE bJ aW bT gJ dU bL bR bO mY pW rD) sz)) (q_X10_passBy dC dI cI cC cZ cB cJ (va_A (wd_X10_passBy cI cC cZ cB cJ a_m oJ uD dY iJ lJ jQ jR jW jK pJ bM aY jO gR gY mK jZ iY bG mJ jB mQ lY eJ bY bW aG jG bQ dG jY m_length qG uW eY aJ aB bU dN aR aE bJ aW bT gJ dU bL bR bO mY pW rD) sz) a_m oJ uD dY iJ lJ jQ jR jW jK pJ bM aY jO gR gY mK jZ iY bG mJ jB mQ lY eJ bY bW aG jG bQ dG jY m_length qG uW eY aJ aB bU dN aR aE bJ aW bT gJ dU bL bR bO mY pW post) 0 0 (va_A (wd_X10_passBy cI cC cZ cB cJ a_m oJ uD dY iJ lJ jQ jR jW jK pJ bM aY jO gR gY mK jZ iY bG mJ jB mQ lY eJ bY bW aG jG bQ dG jY m_length qG uW eY aJ aB bU dN aR aE bJ aW bT gJ dU bL bR bO mY pW rD) sz) := by
  refine g_enter (own := RX10) (dC, dI) (tyl cI cC cZ cB cJ) (wd_X10_passBy cI cC cZ cB cJ a_m oJ uD dY iJ lJ jQ jR jW jK pJ bM aY jO gR gY mK jZ iY bG mJ jB mQ lY eJ bY bW aG jG bQ dG jY m_length qG uW eY aJ aB bU dN aR aE bJ aW bT gJ dU bL bR bO mY pW rD) sz [.ref a_m, .int p0] (fun A => q_X10_passBy dC dI cI cC cZ cB cJ A a_m oJ uD dY iJ lJ jQ jR jW jK pJ bM aY jO gR gY mK jZ iY bG mJ jB mQ lY eJ bY bW aG jG bQ dG jY m_length qG uW eY aJ aB bU dN aR aE bJ aW bT gJ dU bL bR bO mY pW post) pn_RX10 rfl (Nat.le_of_ble_eq_true rfl) ?_
  intro p e s m args below meth c A H locs ls C0 hP hD hS hl
  have hl : lv_has ls 2 [(0, .ref a_m), (1, .int p0)] := hl
  obtain ⟨hx, hb, hr, hml, hown, hts, hlocks, hA, hK, hN, tL, tM, hZL, hTL, hZM, hTM, hZX⟩ := id C0
  have hp := hw
  unfold wp_X10_passBy at hp
  refine lv_aload_n hx hb eX10_passBy_0.1 rfl (lv_at hl 0 rfl) ?_
  refine va_get (D := (dC, dI)) (ci := 10) (v := .ref oJ) (C := RX10) (T := TX10) (N := 51) hx hb hts i_X10 hown hK hP 0 rfl rfl 0 (Nat.le_of_ble_eq_true rfl) (hts _ q_692) (fun _ h9 => h9) rfl eX10_passBy_0.2.1 ?_
  refine lv_bipush (v := 20) hx hb eX10_passBy_0.2.2.1 bp_20 ?_
  refine lv_sipush (v := 9999) hx hb eX10_passBy_0.2.2.2.1 sp_9999 ?_
  refine lv_aload_n hx hb eX10_passBy_0.2.2.2.2.1 rfl (lv_at hl 0 rfl) ?_
  refine va_get (D := (dC, dI)) (ci := 10) (v := .ref oJ) (C := RX10) (T := TX10) (N := 51) hx hb hts i_X10 hown hK hP 0 rfl rfl 0 (Nat.le_of_ble_eq_true rfl) (hts _ q_692) (fun _ h9 => h9) rfl eX10_passBy_0.2.2.2.2.2.1 ?_
  refine lv_bipush (v := 20) hx hb eX10_passBy_0.2.2.2.2.2.2.1 bp_20 ?_
  refine va_iald hx hb hK hP 1 0 rfl rfl (g_in rfl) eX10_passBy_0.2.2.2.2.2.2.2.1 ?_
  refine lv_topi (fun v_1 ev_1 => ?_)
  have hp := hp v_1 ev_1
  refine lv_iload_n hx hb eX10_passBy_0.2.2.2.2.2.2.2.2.1 rfl (lv_at hl 1 rfl) ?_
  refine lv_iadd hx hb eX10_passBy_0.2.2.2.2.2.2.2.2.2.1 ?_
  refine lv_topi (fun v_2 ev_2 => ?_)
  have hp := hp v_2 ev_2
  refine va_mmin hx hb (by rw [hml]; exact hl.1.symm) hown (hts _ q_766) (hts _ q_15) (hts _ q_16) (hts _ q_17) (Nat.le_of_ble_eq_true rfl) (Nat.le_of_ble_eq_true rfl) (Nat.zero_le _) (Nat.zero_le _) eX10_passBy_0.2.2.2.2.2.2.2.2.2.2.1 ?_
  refine lv_topi (fun v_3 ev_3 => ?_)
  have hp := hp v_3 ev_3
  refine va_iast hx hb hK hP hD hS 1 0 rfl rfl (g_in rfl) eX10_passBy_0.2.2.2.2.2.2.2.2.2.2.2.1 (fun H locs hP hD hS => ?_)
  have hP : va_P (dC, dI) classes (wd_X10_passBy cI cC cZ cB cJ a_m oJ uD dY iJ lJ jQ jR jW jK pJ bM aY jO gR gY mK jZ iY bG mJ jB mQ lY eJ bY bW aG jG bQ dG jY m_length qG uW eY aJ aB bU dN aR aE bJ aW bT gJ dU bL bR bO mY pW (upd rD (20 : Int32).toNatClampNeg v_3)) H := hP
  have hD : va_D A (wd_X10_passBy cI cC cZ cB cJ a_m oJ uD dY iJ lJ jQ jR jW jK pJ bM aY jO gR gY mK jZ iY bG mJ jB mQ lY eJ bY bW aG jG bQ dG jY m_length qG uW eY aJ aB bU dN aR aE bJ aW bT gJ dU bL bR bO mY pW (upd rD (20 : Int32).toNatClampNeg v_3)) := hD
  exact W.vret hx hb hr (fun t ht hW => ⟨⟨(upd rD (20 : Int32).toNatClampNeg v_3), rfl, hp, by rw [ht]; exact hP, va_K.moved hW.alike hK, hD⟩, hS.F ht⟩) hS.2.2 eX10_passBy_0.2.2.2.2.2.2.2.2.2.2.2.2
noncomputable abbrev wd_X10_goMove (cI cC cZ cB cJ : ClassId) (a_m oJ uD dY iJ lJ jQ jR jW jK pJ bM aY jO gR gY mK jZ iY bG mJ jB mQ lY eJ bY : Nat) (bW aG jG bQ dG : Int32) (jY : Nat) (m_length qG uW eY aJ aB bU dN aR aE bJ aW bT gJ dU bL bR bO mY pW : Int32) (rD oY pR pX : Nat → Int32) : va_W := [(a_m, .inr (10, [.ref oJ, .int bW, .ref uD, .ref dY, .ref iJ, .ref lJ, .int aG, .ref jQ, .ref jR, .ref jW, .ref jK, .int jG, .ref pJ, .int bQ, .int dG, rdv jK jO jY, .int m_length, .int qG, .int uW, .int eY, .ref bM, .ref aY, .int aJ, .int aB, .ref jO, .int bU, .int dN, .int aR, .int aE, .int bJ, .int aW, .ref gR, .int bT, .ref gY, .ref mK, .int gJ, .ref jZ, .int dU, .ref iY, .ref bG, .int bL, .int bR, .int bO, .ref mJ, .ref jB, .ref mQ, .int mY, .int pW, .ref lY, .ref eJ, .ref bY])), (oJ, .inl (cI, 21, .inl rD)), (jQ, .inl (cI, 8, .inl oY)), (jR, .inl (cI, 8, .inl pR)), (jW, .inl (cI, 5, .inl pX))]
noncomputable abbrev q_X10_goMove (dC : Nat → ClassId) (dI : Nat → Nat → Nat) (cI cC cZ cB cJ : ClassId) (A : Nat → Prop) (a_m oJ uD dY iJ lJ jQ jR jW jK pJ bM aY jO gR gY mK jZ iY bG mJ jB mQ lY eJ bY : Nat) (bW aG jG bQ dG : Int32) (jY : Nat) (m_length qG uW eY aJ aB bU dN aR aE bJ aW bT gJ dU bL bR bO mY pW : Int32) (oY pR pX : Nat → Int32) (post : Int32 → (Nat → Int32) → Prop) : Array Value → State → Outcome → State → Prop := va_Qi (fun (r : Int32) (u : (Nat → Int32)) => post r u) (fun u t => gB (dC, dI) (tyl cI cC cZ cB cJ) A (wd_X10_goMove cI cC cZ cB cJ a_m oJ uD dY iJ lJ jQ jR jW jK pJ bM aY jO gR gY mK jZ iY bG mJ jB mQ lY eJ bY bW aG jG bQ dG jY m_length qG uW eY aJ aB bU dN aR aE bJ aW bT gJ dU bL bR bO mY pW u oY pR pX) t) A
noncomputable abbrev rm_X10_goMove : Room := { frames := 2, cells := 0, slots := 0, locals := 43 }
section S_X10_goMove
variable {p : Program} {l : Launch} {e : Env} {s : State} {m : MethodId} {args : Array Value} {below : List Frame} {meth : Method} {c : Code} {dC : Nat → ClassId} {dI : Nat → Nat → Nat} {cI cC cZ cB cJ : ClassId} {A : Nat → Prop} {a_m oJ uD dY iJ lJ jQ jR jW jK pJ bM aY jO gR gY mK jZ iY bG mJ jB mQ lY eJ bY : Nat} {bW aG jG bQ dG : Int32} {jY : Nat} {m_length qG uW eY aJ aB bU dN aR aE bJ aW bT gJ dU bL bR bO mY pW : Int32} {oY pR pX : Nat → Int32} {post : Int32 → (Nat → Int32) → Prop}
noncomputable def ws_X10_goMove_50 (post : Int32 → (Nat → Int32) → Prop) (bW : Int32) (oY pR pX : Nat → Int32) (x1 x2 : Int32) (rD : Nat → Int32) : Prop := wp_X10_empty (fun r_4 aBj => wp_X10_passBy (fun m_now_6 => post x2 m_now_6) x2 (upd aBj (17 : Int32).toNatClampNeg x1)) bW rD
set_option maxHeartbeats 4000000 in
set_option maxRecDepth 100000 in
theorem ks_X10_goMove_50 (C0 : gc cX10_goMove (some .int) 3 RX10 (dC, dI) (tyl cI cC cZ cB cJ) A p s m args meth c) : ∀ (x1 x2 : Int32) (rD : Nat → Int32) (H : Heap) (locs : List Loc) (ls : Array Slot), (ws_X10_goMove_50 post bW oY pR pX) x1 x2 rD → va_P (dC, dI) classes (wd_X10_goMove cI cC cZ cB cJ a_m oJ uD dY iJ lJ jQ jR jW jK pJ bM aY jO gR gY mK jZ iY bG mJ jB mQ lY eJ bY bW aG jG bQ dG jY m_length qG uW eY aJ aB bU dN aR aE bJ aW bT gJ dU bL bR bO mY pW rD oY pR pX) H → va_D A (wd_X10_goMove cI cC cZ cB cJ a_m oJ uD dY iJ lJ jQ jR jW jK pJ bM aY jO gR gY mK jZ iY bG mJ jB mQ lY eJ bY bW aG jG bQ dG jY m_length qG uW eY aJ aB bU dN aR aE bJ aW bT gJ dU bL bR bO mY pW rD oY pR pX) → va_S A s.heap H locs → lv_has ls 3 [(0, .ref a_m), (1, .int x1), (2, .int x2)] → W p l e rm_X10_goMove s m args below meth c H locs 0 0 (MQ below (q_X10_goMove dC dI cI cC cZ cB cJ A a_m oJ uD dY iJ lJ jQ jR jW jK pJ bM aY jO gR gY mK jZ iY bG mJ jB mQ lY eJ bY bW aG jG bQ dG jY m_length qG uW eY aJ aB bU dN aR aE bJ aW bT gJ dU bL bR bO mY pW oY pR pX post) args s 0 0 A) (F0 m 50 ls []) := by
  obtain ⟨hx, hb, hr, hml, hown, hts, hlocks, hA, hK, hN, tL, tM, hZL, hTL, hZM, hTM, hZX⟩ := id C0
  intro x1 x2 rD H locs ls hp hP hD hS hl
  unfold ws_X10_goMove_50 at hp
  refine lv_aload_n hx hb eX10_goMove_29.2.2.2.2.2.2.2.2.2.2.2.2.2.1 rfl (lv_at hl 0 rfl) ?_
  have hm := mgk (wc := (wd_X10_empty cI cC cZ cB cJ a_m oJ uD dY iJ lJ jQ jR jW jK pJ bM aY jO gR gY mK jZ iY bG mJ jB mQ lY eJ bY bW aG jG bQ dG jY m_length qG uW eY aJ aB bU dN aR aE bJ aW bT gJ dU bL bR bO mY pW rD)) hP aIv 5 rfl rfl rfl
  refine g_calli hP hD hS hA (mixT aIv) (mixF aIv) hm.1 hm.2 (nd_F _) (dis_g _) (g_runV (As := []) (rest := []) C0 hP hD hS (mixT aIv) hm.1 (nd_T _) 0 10 rfl rfl (c_X10_empty l dC dI cI cC cZ cB cJ a_m oJ uD dY iJ lJ jQ jR jW jK pJ bM aY jO gR gY mK jZ iY bG mJ jB mQ lY eJ bY H.size bW aG jG bQ dG jY m_length qG uW eY aJ aB bU dN aR aE bJ aW bT gJ dU bL bR bO mY pW rD _ hp) q_775 q_778 q_776 q_777 q_642 h_X10_empty rfl rfl ⟨Nat.le_of_ble_eq_true rfl, Nat.le_of_ble_eq_true rfl⟩ rfl rfl hl.1 rfl (lv_room (Nat.le_of_ble_eq_true rfl)) eX10_goMove_29.2.2.2.2.2.2.2.2.2.2.2.2.2.2.1 ⟨Nat.zero_le _, Nat.zero_le _⟩) (fun r_4 u H locs hp hP hD hS => ?_)
  obtain ⟨aBj, rfl⟩ : ∃ z, z = u := ⟨_, rfl⟩
  have hPD := PDm (ws' := (wd_X10_goMove cI cC cZ cB cJ a_m oJ uD dY iJ lJ jQ jR jW jK pJ bM aY jO gR gY mK jZ iY bG mJ jB mQ lY eJ bY bW aG jG bQ dG jY m_length qG uW eY aJ aB bU dN aR aE bJ aW bT gJ dU bL bR bO mY pW aBj oY pR pX)) hP hD 5 rfl rfl rfl
  have hP := hPD.1
  have hD := hPD.2
  refine lv_pop hx hb eX10_goMove_29.2.2.2.2.2.2.2.2.2.2.2.2.2.2.2 rfl ?_
  refine lv_aload_n hx hb eX10_goMove_55.1 rfl (lv_at hl 0 rfl) ?_
  refine va_get (D := (dC, dI)) (ci := 10) (v := .ref oJ) (C := RX10) (T := TX10) (N := 51) hx hb hts i_X10 hown hK hP 0 rfl rfl 0 (Nat.le_of_ble_eq_true rfl) (hts _ q_692) (fun _ h9 => h9) rfl eX10_goMove_55.2.1 ?_
  refine lv_bipush (v := 17) hx hb eX10_goMove_55.2.2.1 bp_17 ?_
  refine lv_iload_n hx hb eX10_goMove_55.2.2.2.1 rfl (lv_at hl 1 rfl) ?_
  refine va_iast hx hb hK hP hD hS 1 0 rfl rfl (g_in rfl) eX10_goMove_55.2.2.2.2.1 (fun H locs hP hD hS => ?_)
  have hP : va_P (dC, dI) classes (wd_X10_goMove cI cC cZ cB cJ a_m oJ uD dY iJ lJ jQ jR jW jK pJ bM aY jO gR gY mK jZ iY bG mJ jB mQ lY eJ bY bW aG jG bQ dG jY m_length qG uW eY aJ aB bU dN aR aE bJ aW bT gJ dU bL bR bO mY pW (upd aBj (17 : Int32).toNatClampNeg x1) oY pR pX) H := hP
  have hD : va_D A (wd_X10_goMove cI cC cZ cB cJ a_m oJ uD dY iJ lJ jQ jR jW jK pJ bM aY jO gR gY mK jZ iY bG mJ jB mQ lY eJ bY bW aG jG bQ dG jY m_length qG uW eY aJ aB bU dN aR aE bJ aW bT gJ dU bL bR bO mY pW (upd aBj (17 : Int32).toNatClampNeg x1) oY pR pX) := hD
  refine lv_aload_n hx hb eX10_goMove_55.2.2.2.2.2.1 rfl (lv_at hl 0 rfl) ?_
  refine lv_iload_n hx hb eX10_goMove_55.2.2.2.2.2.2.1 rfl (lv_at hl 2 rfl) ?_
  have hm := mgk (wc := (wd_X10_passBy cI cC cZ cB cJ a_m oJ uD dY iJ lJ jQ jR jW jK pJ bM aY jO gR gY mK jZ iY bG mJ jB mQ lY eJ bY bW aG jG bQ dG jY m_length qG uW eY aJ aB bU dN aR aE bJ aW bT gJ dU bL bR bO mY pW (upd aBj (17 : Int32).toNatClampNeg x1))) hP aIv 5 rfl rfl rfl
  refine g_callv hP hD hS hA (mixT aIv) (mixF aIv) hm.1 hm.2 (nd_F _) (dis_g _) (g_runV (As := [.int x2]) (rest := []) C0 hP hD hS (mixT aIv) hm.1 (nd_T _) 0 10 rfl rfl (c_X10_passBy l dC dI cI cC cZ cB cJ a_m oJ uD dY iJ lJ jQ jR jW jK pJ bM aY jO gR gY mK jZ iY bG mJ jB mQ lY eJ bY H.size x2 bW aG jG bQ dG jY m_length qG uW eY aJ aB bU dN aR aE bJ aW bT gJ dU bL bR bO mY pW (upd aBj (17 : Int32).toNatClampNeg x1) _ hp) q_779 q_782 q_780 q_781 q_642 h_X10_passBy rfl rfl ⟨Nat.le_of_ble_eq_true rfl, Nat.le_of_ble_eq_true rfl⟩ rfl rfl hl.1 rfl (lv_room (Nat.le_of_ble_eq_true rfl)) eX10_goMove_55.2.2.2.2.2.2.2.1 ⟨Nat.zero_le _, Nat.zero_le _⟩) (fun u H locs hp hP hD hS => ?_)
  obtain ⟨m_now_6, rfl⟩ : ∃ z, z = u := ⟨_, rfl⟩
  have hPD := PDm (ws' := (wd_X10_goMove cI cC cZ cB cJ a_m oJ uD dY iJ lJ jQ jR jW jK pJ bM aY jO gR gY mK jZ iY bG mJ jB mQ lY eJ bY bW aG jG bQ dG jY m_length qG uW eY aJ aB bU dN aR aE bJ aW bT gJ dU bL bR bO mY pW m_now_6 oY pR pX)) hP hD 5 rfl rfl rfl
  have hP := hPD.1
  have hD := hPD.2
  refine lv_iload_n hx hb eX10_goMove_55.2.2.2.2.2.2.2.2.1 rfl (lv_at hl 2 rfl) ?_
  exact W.iret (v := x2) hx hb hr (fun t ht hW => ⟨⟨x2, m_now_6, rfl, hp, by rw [ht]; exact hP, va_K.moved hW.alike hK, hD⟩, hS.F ht⟩) hS.2.2 eX10_goMove_55.2.2.2.2.2.2.2.2.2
end S_X10_goMove
noncomputable def wp_X10_goMove (post : Int32 → (Nat → Int32) → Prop) (p0 bW : Int32) (rD oY pR pX : Nat → Int32) : Prop := ∀ v_1 : Int32, v_1 = rD (17 : Int32).toNatClampNeg → wp_X10_moveOf (fun r_2 => wp_X10_which (fun r_3 => (r_3 = 0 → ws_X10_goMove_50 post bW oY pR pX p0 r_2 rD) ∧ (¬ r_3 = 0 → ∀ v_7 : Int32, v_7 = rD (17 : Int32).toNatClampNeg → (v_7 = (-1) → ws_X10_goMove_50 post bW oY pR pX p0 r_2 rD) ∧ (¬ v_7 = (-1) → ∀ v_8 : Int32, v_8 = rD (17 : Int32).toNatClampNeg → wp_X10_downOf (fun r_9 => ∀ v_10 : Int32, v_10 = r_2 + r_9 → ws_X10_goMove_50 post bW oY pR pX p0 v_10 rD) v_8 pR))) 1 bW rD) v_1 p0 oY pX
set_option maxHeartbeats 4000000 in
set_option maxRecDepth 100000 in
theorem c_X10_goMove (l : Launch) (dC : Nat → ClassId) (dI : Nat → Nat → Nat) (cI cC cZ cB cJ : ClassId) (a_m oJ uD dY iJ lJ jQ jR jW jK pJ bM aY jO gR gY mK jZ iY bG mJ jB mQ lY eJ bY sz : Nat) (p0 bW aG jG bQ dG : Int32) (jY : Nat) (m_length qG uW eY aJ aB bU dN aR aE bJ aW bT gJ dU bL bR bO mY pW : Int32) (rD oY pR pX : Nat → Int32) (post : Int32 → (Nat → Int32) → Prop) (hw : wp_X10_goMove post p0 bW rD oY pR pX) : Met l yX10_goMove (gw yX10_goMove cX10_goMove 3 (some .int)) rm_X10_goMove (va_Pc [.ref a_m, .int p0] (gPre (dC, dI) (tyl cI cC cZ cB cJ) (wd_X10_goMove cI cC cZ cB cJ a_m oJ uD dY iJ lJ jQ jR jW jK pJ bM aY jO gR gY mK jZ iY bG mJ jB mQ lY eJ bY bW aG jG bQ dG jY m_length qG uW eY aJ aB bU dN aR aE bJ aW bT gJ dU bL bR bO mY pW rD oY pR pX) sz)) (q_X10_goMove dC dI cI cC cZ cB cJ (va_A (wd_X10_goMove cI cC cZ cB cJ a_m oJ uD dY iJ lJ jQ jR jW jK pJ bM aY jO gR gY mK jZ iY bG mJ jB mQ lY eJ bY bW aG jG bQ dG jY m_length qG uW eY aJ aB bU dN aR aE bJ aW bT gJ dU bL bR bO mY pW rD oY pR pX) sz) a_m oJ uD dY iJ lJ jQ jR jW jK pJ bM aY jO gR gY mK jZ iY bG mJ jB mQ lY eJ bY bW aG jG bQ dG jY m_length qG uW eY aJ aB bU dN aR aE bJ aW bT gJ dU bL bR bO mY pW oY pR pX post) 0 0 (va_A (wd_X10_goMove cI cC cZ cB cJ a_m oJ uD dY iJ lJ jQ jR jW jK pJ bM aY jO gR gY mK jZ iY bG mJ jB mQ lY eJ bY bW aG jG bQ dG jY m_length qG uW eY aJ aB bU dN aR aE bJ aW bT gJ dU bL bR bO mY pW rD oY pR pX) sz) := by
  refine g_enter (own := RX10) (dC, dI) (tyl cI cC cZ cB cJ) (wd_X10_goMove cI cC cZ cB cJ a_m oJ uD dY iJ lJ jQ jR jW jK pJ bM aY jO gR gY mK jZ iY bG mJ jB mQ lY eJ bY bW aG jG bQ dG jY m_length qG uW eY aJ aB bU dN aR aE bJ aW bT gJ dU bL bR bO mY pW rD oY pR pX) sz [.ref a_m, .int p0] (fun A => q_X10_goMove dC dI cI cC cZ cB cJ A a_m oJ uD dY iJ lJ jQ jR jW jK pJ bM aY jO gR gY mK jZ iY bG mJ jB mQ lY eJ bY bW aG jG bQ dG jY m_length qG uW eY aJ aB bU dN aR aE bJ aW bT gJ dU bL bR bO mY pW oY pR pX post) pn_RX10 rfl (Nat.le_of_ble_eq_true rfl) ?_
  intro p e s m args below meth c A H locs ls C0 hP hD hS hl
  have hl : lv_has ls 3 [(0, .ref a_m), (1, .int p0)] := hl
  obtain ⟨hx, hb, hr, hml, hown, hts, hlocks, hA, hK, hN, tL, tM, hZL, hTL, hZM, hTM, hZX⟩ := id C0
  have hp := hw
  unfold wp_X10_goMove at hp
  refine lv_aload_n hx hb eX10_goMove_0.1 rfl (lv_at hl 0 rfl) ?_
  refine lv_aload_n hx hb eX10_goMove_0.2.1 rfl (lv_at hl 0 rfl) ?_
  refine va_get (D := (dC, dI)) (ci := 10) (v := .ref oJ) (C := RX10) (T := TX10) (N := 51) hx hb hts i_X10 hown hK hP 0 rfl rfl 0 (Nat.le_of_ble_eq_true rfl) (hts _ q_692) (fun _ h9 => h9) rfl eX10_goMove_0.2.2.1 ?_
  refine lv_bipush (v := 17) hx hb eX10_goMove_0.2.2.2.1 bp_17 ?_
  refine va_iald hx hb hK hP 1 0 rfl rfl (g_in rfl) eX10_goMove_0.2.2.2.2.1 ?_
  refine lv_topi (fun v_1 ev_1 => ?_)
  have hp := hp v_1 ev_1
  refine lv_iload_n hx hb eX10_goMove_0.2.2.2.2.2.1 rfl (lv_at hl 1 rfl) ?_
  have hm := mgk (wc := (wd_X10_moveOf cI cC cZ cB cJ a_m oJ uD dY iJ lJ jQ jR jW jK pJ bM aY jO gR gY mK jZ iY bG mJ jB mQ lY eJ bY bW aG jG bQ dG jY m_length qG uW eY aJ aB bU dN aR aE bJ aW bT gJ dU bL bR bO mY pW oY pX)) hP mk_48 5 rfl rfl rfl
  refine g_calli hP hD hS hA (mixT mk_48) (mixF mk_48) hm.1 hm.2 (nd_F _) (dis_g _) (g_runV (As := [.int v_1, .int p0]) (rest := []) C0 hP hD hS (mixT mk_48) hm.1 (nd_T _) 0 10 rfl rfl (c_X10_moveOf l dC dI cI cC cZ cB cJ a_m oJ uD dY iJ lJ jQ jR jW jK pJ bM aY jO gR gY mK jZ iY bG mJ jB mQ lY eJ bY H.size v_1 p0 bW aG jG bQ dG jY m_length qG uW eY aJ aB bU dN aR aE bJ aW bT gJ dU bL bR bO mY pW oY pX _ hp) q_771 q_774 q_772 q_773 q_642 h_X10_moveOf rfl rfl ⟨Nat.le_of_ble_eq_true rfl, Nat.le_of_ble_eq_true rfl⟩ rfl rfl hl.1 rfl (lv_room (Nat.le_of_ble_eq_true rfl)) eX10_goMove_0.2.2.2.2.2.2.1 ⟨Nat.zero_le _, Nat.zero_le _⟩) (fun r_2 u H locs hp hP hD hS => ?_)
  have hPD := PDm (ws' := (wd_X10_goMove cI cC cZ cB cJ a_m oJ uD dY iJ lJ jQ jR jW jK pJ bM aY jO gR gY mK jZ iY bG mJ jB mQ lY eJ bY bW aG jG bQ dG jY m_length qG uW eY aJ aB bU dN aR aE bJ aW bT gJ dU bL bR bO mY pW rD oY pR pX)) hP hD 5 rfl rfl rfl
  have hP := hPD.1
  have hD := hPD.2
  refine lv_istore_n (lv' := [(2, .int r_2), (0, .ref a_m), (1, .int p0)]) hx hb eX10_goMove_0.2.2.2.2.2.2.2.1 rfl hl (by decide) rfl (fun ls hl => ?_)
  refine lv_aload_n hx hb eX10_goMove_0.2.2.2.2.2.2.2.2.1 rfl (lv_at hl 1 rfl) ?_
  refine lv_aload_n hx hb eX10_goMove_0.2.2.2.2.2.2.2.2.2.1 rfl (lv_at hl 1 rfl) ?_
  refine va_get (D := (dC, dI)) (ci := 10) (v := .ref oJ) (C := RX10) (T := TX10) (N := 51) hx hb hts i_X10 hown hK hP 0 rfl rfl 0 (Nat.le_of_ble_eq_true rfl) (hts _ q_692) (fun _ h9 => h9) rfl eX10_goMove_0.2.2.2.2.2.2.2.2.2.2.1 ?_
  refine lv_iconst (v := 1) hx hb eX10_goMove_0.2.2.2.2.2.2.2.2.2.2.2.1 ic_1 ?_
  have hm := mgk (wc := (wd_X10_which cI cC cZ cB cJ a_m oJ uD dY iJ lJ jQ jR jW jK pJ bM aY jO gR gY mK jZ iY bG mJ jB mQ lY eJ bY bW aG jG bQ dG jY m_length qG uW eY aJ aB bU dN aR aE bJ aW bT gJ dU bL bR bO mY pW rD)) hP aIv 5 rfl rfl rfl
  refine g_calli hP hD hS hA (mixT aIv) (mixF aIv) hm.1 hm.2 (nd_F _) (dis_g _) (g_runV (As := [.ref oJ, .int 1]) (rest := []) C0 hP hD hS (mixT aIv) hm.1 (nd_T _) 0 10 rfl rfl (c_X10_which l dC dI cI cC cZ cB cJ a_m oJ uD dY iJ lJ jQ jR jW jK pJ bM aY jO gR gY mK jZ iY bG mJ jB mQ lY eJ bY H.size 1 bW aG jG bQ dG jY m_length qG uW eY aJ aB bU dN aR aE bJ aW bT gJ dU bL bR bO mY pW rD _ hp) q_749 q_752 q_750 q_751 q_642 h_X10_which rfl rfl ⟨Nat.le_of_ble_eq_true rfl, Nat.le_of_ble_eq_true rfl⟩ rfl rfl hl.1 rfl (lv_room (Nat.le_of_ble_eq_true rfl)) eX10_goMove_0.2.2.2.2.2.2.2.2.2.2.2.2.1 ⟨Nat.zero_le _, Nat.zero_le _⟩) (fun r_3 u H locs hp hP hD hS => ?_)
  have hPD := PDm (ws' := (wd_X10_goMove cI cC cZ cB cJ a_m oJ uD dY iJ lJ jQ jR jW jK pJ bM aY jO gR gY mK jZ iY bG mJ jB mQ lY eJ bY bW aG jG bQ dG jY m_length qG uW eY aJ aB bU dN aR aE bJ aW bT gJ dU bL bR bO mY pW rD oY pR pX)) hP hD 5 rfl rfl rfl
  have hP := hPD.1
  have hD := hPD.2
  refine lv_if_eq (tgt := 50) hx hb eX10_goMove_0.2.2.2.2.2.2.2.2.2.2.2.2.2.1 (by decide) (fun hc => ?_) (fun hc => ?_)
  · have hp := hp.1 hc
    exact ks_X10_goMove_50 C0 p0 r_2 rD H locs ls hp hP hD hS (lv_sub hl [1, 2, 0] rfl)
  · have hp := hp.2 hc
    refine lv_aload_n hx hb eX10_goMove_0.2.2.2.2.2.2.2.2.2.2.2.2.2.2.1 rfl (lv_at hl 1 rfl) ?_
    refine va_get (D := (dC, dI)) (ci := 10) (v := .ref oJ) (C := RX10) (T := TX10) (N := 51) hx hb hts i_X10 hown hK hP 0 rfl rfl 0 (Nat.le_of_ble_eq_true rfl) (hts _ q_692) (fun _ h9 => h9) rfl eX10_goMove_0.2.2.2.2.2.2.2.2.2.2.2.2.2.2.2 ?_
    refine lv_bipush (v := 17) hx hb eX10_goMove_29.1 bp_17 ?_
    refine va_iald hx hb hK hP 1 0 rfl rfl (g_in rfl) eX10_goMove_29.2.1 ?_
    refine lv_topi (fun v_7 ev_7 => ?_)
    have hp := hp v_7 ev_7
    refine lv_iconst (v := (-1)) hx hb eX10_goMove_29.2.2.1 ic_m1 ?_
    refine lv_icmp_eq (tgt := 50) hx hb eX10_goMove_29.2.2.2.1 (by decide) (fun hc => ?_) (fun hc => ?_)
    · have hp := hp.1 hc
      exact ks_X10_goMove_50 C0 p0 r_2 rD H locs ls hp hP hD hS (lv_sub hl [1, 2, 0] rfl)
    · have hp := hp.2 hc
      refine lv_iload_n hx hb eX10_goMove_29.2.2.2.2.1 rfl (lv_at hl 0 rfl) ?_
      refine lv_aload_n hx hb eX10_goMove_29.2.2.2.2.2.1 rfl (lv_at hl 1 rfl) ?_
      refine lv_aload_n hx hb eX10_goMove_29.2.2.2.2.2.2.1 rfl (lv_at hl 1 rfl) ?_
      refine va_get (D := (dC, dI)) (ci := 10) (v := .ref oJ) (C := RX10) (T := TX10) (N := 51) hx hb hts i_X10 hown hK hP 0 rfl rfl 0 (Nat.le_of_ble_eq_true rfl) (hts _ q_692) (fun _ h9 => h9) rfl eX10_goMove_29.2.2.2.2.2.2.2.1 ?_
      refine lv_bipush (v := 17) hx hb eX10_goMove_29.2.2.2.2.2.2.2.2.1 bp_17 ?_
      refine va_iald hx hb hK hP 1 0 rfl rfl (g_in rfl) eX10_goMove_29.2.2.2.2.2.2.2.2.2.1 ?_
      refine lv_topi (fun v_8 ev_8 => ?_)
      have hp := hp v_8 ev_8
      have hm := mgk (wc := (wd_X10_downOf cI cC cZ cB cJ a_m oJ uD dY iJ lJ jQ jR jW jK pJ bM aY jO gR gY mK jZ iY bG mJ jB mQ lY eJ bY bW aG jG bQ dG jY m_length qG uW eY aJ aB bU dN aR aE bJ aW bT gJ dU bL bR bO mY pW pR)) hP mk_46 5 rfl rfl rfl
      refine g_calli hP hD hS hA (mixT mk_46) (mixF mk_46) hm.1 hm.2 (nd_F _) (dis_g _) (g_runV (As := [.int v_8]) (rest := [.int r_2]) C0 hP hD hS (mixT mk_46) hm.1 (nd_T _) 0 10 rfl rfl (c_X10_downOf l dC dI cI cC cZ cB cJ a_m oJ uD dY iJ lJ jQ jR jW jK pJ bM aY jO gR gY mK jZ iY bG mJ jB mQ lY eJ bY H.size v_8 bW aG jG bQ dG jY m_length qG uW eY aJ aB bU dN aR aE bJ aW bT gJ dU bL bR bO mY pW pR _ hp) q_761 q_764 q_762 q_763 q_642 h_X10_downOf rfl rfl ⟨Nat.le_of_ble_eq_true rfl, Nat.le_of_ble_eq_true rfl⟩ rfl rfl hl.1 rfl (lv_room (Nat.le_of_ble_eq_true rfl)) eX10_goMove_29.2.2.2.2.2.2.2.2.2.2.1 ⟨Nat.zero_le _, Nat.zero_le _⟩) (fun r_9 u H locs hp hP hD hS => ?_)
      have hPD := PDm (ws' := (wd_X10_goMove cI cC cZ cB cJ a_m oJ uD dY iJ lJ jQ jR jW jK pJ bM aY jO gR gY mK jZ iY bG mJ jB mQ lY eJ bY bW aG jG bQ dG jY m_length qG uW eY aJ aB bU dN aR aE bJ aW bT gJ dU bL bR bO mY pW rD oY pR pX)) hP hD 5 rfl rfl rfl
      have hP := hPD.1
      have hD := hPD.2
      refine lv_iadd hx hb eX10_goMove_29.2.2.2.2.2.2.2.2.2.2.2.1 ?_
      refine lv_topi (fun v_10 ev_10 => ?_)
      have hp := hp v_10 ev_10
      refine lv_istore_n (lv' := [(2, .int v_10), (0, .ref a_m), (1, .int p0)]) hx hb eX10_goMove_29.2.2.2.2.2.2.2.2.2.2.2.2.1 rfl hl (by decide) rfl (fun ls hl => ?_)
      exact ks_X10_goMove_50 C0 p0 v_10 rD H locs ls hp hP hD hS (lv_sub hl [1, 2, 0] rfl)
noncomputable abbrev wd_X10_move (cI cC cZ cB cJ : ClassId) (a_m oJ uD dY iJ lJ jQ jR jW jK pJ bM aY jO gR gY mK jZ iY bG mJ jB mQ lY eJ bY : Nat) (bW aG jG bQ dG : Int32) (jY : Nat) (m_length qG uW eY aJ aB bU dN aR aE bJ aW bT gJ dU bL bR bO mY pW : Int32) (rD oY pR pX uQ : Nat → Int32) : va_W := [(a_m, .inr (10, [.ref oJ, .int bW, .ref uD, .ref dY, .ref iJ, .ref lJ, .int aG, .ref jQ, .ref jR, .ref jW, .ref jK, .int jG, .ref pJ, .int bQ, .int dG, rdv jK jO jY, .int m_length, .int qG, .int uW, .int eY, .ref bM, .ref aY, .int aJ, .int aB, .ref jO, .int bU, .int dN, .int aR, .int aE, .int bJ, .int aW, .ref gR, .int bT, .ref gY, .ref mK, .int gJ, .ref jZ, .int dU, .ref iY, .ref bG, .int bL, .int bR, .int bO, .ref mJ, .ref jB, .ref mQ, .int mY, .int pW, .ref lY, .ref eJ, .ref bY])), (oJ, .inl (cI, 21, .inl rD)), (jQ, .inl (cI, 8, .inl oY)), (jR, .inl (cI, 8, .inl pR)), (jW, .inl (cI, 5, .inl pX)), (gR, .inl (cI, 252, .inl uQ))]
noncomputable abbrev q_X10_move (dC : Nat → ClassId) (dI : Nat → Nat → Nat) (cI cC cZ cB cJ : ClassId) (A : Nat → Prop) (a_m oJ uD dY iJ lJ jQ jR jW jK pJ bM aY jO gR gY mK jZ iY bG mJ jB mQ lY eJ bY : Nat) (bW aG jG bQ : Int32) (jY : Nat) (m_length qG uW eY aJ aB bU dN aR aE bJ aW gJ dU bL bR bO mY pW : Int32) (oY pR pX : Nat → Int32) (post : Int32 → Int32 → Int32 → (Nat → Int32) → (Nat → Int32) → Prop) : Array Value → State → Outcome → State → Prop := va_Qi (fun (r : Int32) (u : Int32 × Int32 × (Nat → Int32) × (Nat → Int32)) => post r u.1 u.2.1 u.2.2.1 u.2.2.2) (fun u t => gB (dC, dI) (tyl cI cC cZ cB cJ) A (wd_X10_move cI cC cZ cB cJ a_m oJ uD dY iJ lJ jQ jR jW jK pJ bM aY jO gR gY mK jZ iY bG mJ jB mQ lY eJ bY bW aG jG bQ u.1 jY m_length qG uW eY aJ aB bU dN aR aE bJ aW u.2.1 gJ dU bL bR bO mY pW u.2.2.1 oY pR pX u.2.2.2) t) A
noncomputable abbrev rm_X10_move : Room := { frames := 3, cells := 0, slots := 0, locals := 65 }
noncomputable def wp_X10_move (post : Int32 → Int32 → Int32 → (Nat → Int32) → (Nat → Int32) → Prop) (p0 bW aG dG bT : Int32) (rD oY pR pX uQ : Nat → Int32) : Prop := wp_X10_refusesMove (fun r_1 => (0 ≤ r_1 → wp_X10_remember (fun xZ zU => wp_X10_goMove (fun r_4 aBj => post r_4 0 xZ aBj zU) p0 bW rD oY pR pX) bT rD uQ) ∧ (¬ 0 ≤ r_1 → post r_1 0 bT rD uQ)) p0 aG rD
set_option maxHeartbeats 4000000 in
set_option maxRecDepth 100000 in
theorem c_X10_move (l : Launch) (dC : Nat → ClassId) (dI : Nat → Nat → Nat) (cI cC cZ cB cJ : ClassId) (a_m oJ uD dY iJ lJ jQ jR jW jK pJ bM aY jO gR gY mK jZ iY bG mJ jB mQ lY eJ bY sz : Nat) (p0 bW aG jG bQ dG : Int32) (jY : Nat) (m_length qG uW eY aJ aB bU dN aR aE bJ aW bT gJ dU bL bR bO mY pW : Int32) (rD oY pR pX uQ : Nat → Int32) (post : Int32 → Int32 → Int32 → (Nat → Int32) → (Nat → Int32) → Prop) (hw : wp_X10_move post p0 bW aG dG bT rD oY pR pX uQ) : Met l yX10_move (gw yX10_move cX10_move 3 (some .int)) rm_X10_move (va_Pc [.ref a_m, .int p0] (gPre (dC, dI) (tyl cI cC cZ cB cJ) (wd_X10_move cI cC cZ cB cJ a_m oJ uD dY iJ lJ jQ jR jW jK pJ bM aY jO gR gY mK jZ iY bG mJ jB mQ lY eJ bY bW aG jG bQ dG jY m_length qG uW eY aJ aB bU dN aR aE bJ aW bT gJ dU bL bR bO mY pW rD oY pR pX uQ) sz)) (q_X10_move dC dI cI cC cZ cB cJ (va_A (wd_X10_move cI cC cZ cB cJ a_m oJ uD dY iJ lJ jQ jR jW jK pJ bM aY jO gR gY mK jZ iY bG mJ jB mQ lY eJ bY bW aG jG bQ dG jY m_length qG uW eY aJ aB bU dN aR aE bJ aW bT gJ dU bL bR bO mY pW rD oY pR pX uQ) sz) a_m oJ uD dY iJ lJ jQ jR jW jK pJ bM aY jO gR gY mK jZ iY bG mJ jB mQ lY eJ bY bW aG jG bQ jY m_length qG uW eY aJ aB bU dN aR aE bJ aW gJ dU bL bR bO mY pW oY pR pX post) 0 0 (va_A (wd_X10_move cI cC cZ cB cJ a_m oJ uD dY iJ lJ jQ jR jW jK pJ bM aY jO gR gY mK jZ iY bG mJ jB mQ lY eJ bY bW aG jG bQ dG jY m_length qG uW eY aJ aB bU dN aR aE bJ aW bT gJ dU bL bR bO mY pW rD oY pR pX uQ) sz) := by
  refine g_enter (own := RX10) (dC, dI) (tyl cI cC cZ cB cJ) (wd_X10_move cI cC cZ cB cJ a_m oJ uD dY iJ lJ jQ jR jW jK pJ bM aY jO gR gY mK jZ iY bG mJ jB mQ lY eJ bY bW aG jG bQ dG jY m_length qG uW eY aJ aB bU dN aR aE bJ aW bT gJ dU bL bR bO mY pW rD oY pR pX uQ) sz [.ref a_m, .int p0] (fun A => q_X10_move dC dI cI cC cZ cB cJ A a_m oJ uD dY iJ lJ jQ jR jW jK pJ bM aY jO gR gY mK jZ iY bG mJ jB mQ lY eJ bY bW aG jG bQ jY m_length qG uW eY aJ aB bU dN aR aE bJ aW gJ dU bL bR bO mY pW oY pR pX post) pn_RX10 rfl (Nat.le_of_ble_eq_true rfl) ?_
  intro p e s m args below meth c A H locs ls C0 hP hD hS hl
  have hl : lv_has ls 3 [(0, .ref a_m), (1, .int p0)] := hl
  obtain ⟨hx, hb, hr, hml, hown, hts, hlocks, hA, hK, hN, tL, tM, hZL, hTL, hZM, hTM, hZX⟩ := id C0
  have hp := hw
  unfold wp_X10_move at hp
  refine lv_aload_n hx hb eX10_move_0.1 rfl (lv_at hl 0 rfl) ?_
  refine lv_iconst (v := 0) hx hb eX10_move_0.2.1 ic_0 ?_
  refine va_put (D := (dC, dI)) (ci := 10) (v := .int 0) (ty := .int) (C := RX10) (T := TX10) (N := 51) hx hb hts i_X10 tyX10 tyX10_ok nmX10 hown hK hP hD hS 0 rfl rfl 14 (Nat.le_of_ble_eq_true rfl) (hts _ q_638) (fun _ h9 => h9) rfl (tyX10_ok 14 (Nat.le_of_ble_eq_true rfl)) rfl rfl (Nat.le_of_ble_eq_true rfl) eX10_move_0.2.2.1 (fun H locs hP hD hS => ?_)
  have hP : va_P (dC, dI) classes (wd_X10_move cI cC cZ cB cJ a_m oJ uD dY iJ lJ jQ jR jW jK pJ bM aY jO gR gY mK jZ iY bG mJ jB mQ lY eJ bY bW aG jG bQ 0 jY m_length qG uW eY aJ aB bU dN aR aE bJ aW bT gJ dU bL bR bO mY pW rD oY pR pX uQ) H := hP
  have hD : va_D A (wd_X10_move cI cC cZ cB cJ a_m oJ uD dY iJ lJ jQ jR jW jK pJ bM aY jO gR gY mK jZ iY bG mJ jB mQ lY eJ bY bW aG jG bQ 0 jY m_length qG uW eY aJ aB bU dN aR aE bJ aW bT gJ dU bL bR bO mY pW rD oY pR pX uQ) := hD
  refine lv_aload_n hx hb eX10_move_0.2.2.2.1 rfl (lv_at hl 0 rfl) ?_
  refine lv_iload_n hx hb eX10_move_0.2.2.2.2.1 rfl (lv_at hl 1 rfl) ?_
  have hm := mgk (wc := (wd_X10_refusesMove cI cC cZ cB cJ a_m oJ uD dY iJ lJ jQ jR jW jK pJ bM aY jO gR gY mK jZ iY bG mJ jB mQ lY eJ bY bW aG jG bQ 0 jY m_length qG uW eY aJ aB bU dN aR aE bJ aW bT gJ dU bL bR bO mY pW rD)) hP mk_26 6 rfl rfl rfl
  refine g_calli hP hD hS hA (mixT mk_26) (mixF mk_26) hm.1 hm.2 (nd_F _) (dis_g _) (g_runV (As := [.int p0]) (rest := []) C0 hP hD hS (mixT mk_26) hm.1 (nd_T _) 0 10 rfl rfl (c_X10_refusesMove l dC dI cI cC cZ cB cJ a_m oJ uD dY iJ lJ jQ jR jW jK pJ bM aY jO gR gY mK jZ iY bG mJ jB mQ lY eJ bY H.size p0 bW aG jG bQ 0 jY m_length qG uW eY aJ aB bU dN aR aE bJ aW bT gJ dU bL bR bO mY pW rD _ hp) q_783 q_786 q_784 q_785 q_642 h_X10_refusesMove rfl rfl ⟨Nat.le_of_ble_eq_true rfl, Nat.le_of_ble_eq_true rfl⟩ rfl rfl hl.1 rfl (lv_room (Nat.le_of_ble_eq_true rfl)) eX10_move_0.2.2.2.2.2.1 ⟨Nat.zero_le _, Nat.zero_le _⟩) (fun r_1 u H locs hp hP hD hS => ?_)
  have hPD := PDm (ws' := (wd_X10_move cI cC cZ cB cJ a_m oJ uD dY iJ lJ jQ jR jW jK pJ bM aY jO gR gY mK jZ iY bG mJ jB mQ lY eJ bY bW aG jG bQ 0 jY m_length qG uW eY aJ aB bU dN aR aE bJ aW bT gJ dU bL bR bO mY pW rD oY pR pX uQ)) hP hD 6 rfl rfl rfl
  have hP := hPD.1
  have hD := hPD.2
  refine lv_istore_n (lv' := [(2, .int r_1), (0, .ref a_m), (1, .int p0)]) hx hb eX10_move_0.2.2.2.2.2.2.1 rfl hl (by decide) rfl (fun ls hl => ?_)
  refine lv_iload_n hx hb eX10_move_0.2.2.2.2.2.2.2.1 rfl (lv_at hl 0 rfl) ?_
  refine lv_if_ge (tgt := 17) hx hb eX10_move_0.2.2.2.2.2.2.2.2.1 (by decide) (fun hc => ?_) (fun hc => ?_)
  · have hp := hp.1 hc
    refine lv_aload_n hx hb eX10_move_0.2.2.2.2.2.2.2.2.2.2.2.1 rfl (lv_at hl 1 rfl) ?_
    refine lv_aload_n hx hb eX10_move_0.2.2.2.2.2.2.2.2.2.2.2.2.1 rfl (lv_at hl 1 rfl) ?_
    refine va_get (D := (dC, dI)) (ci := 10) (v := .ref oJ) (C := RX10) (T := TX10) (N := 51) hx hb hts i_X10 hown hK hP 0 rfl rfl 0 (Nat.le_of_ble_eq_true rfl) (hts _ q_692) (fun _ h9 => h9) rfl eX10_move_0.2.2.2.2.2.2.2.2.2.2.2.2.2.1 ?_
    have hm := mgk (wc := (wd_X10_remember cI cC cZ cB cJ a_m oJ uD dY iJ lJ jQ jR jW jK pJ bM aY jO gR gY mK jZ iY bG mJ jB mQ lY eJ bY bW aG jG bQ 0 jY m_length qG uW eY aJ aB bU dN aR aE bJ aW bT gJ dU bL bR bO mY pW rD uQ)) hP mk_210 6 rfl rfl rfl
    refine g_callv hP hD hS hA (mixT mk_210) (mixF mk_210) hm.1 hm.2 (nd_F _) (dis_g _) (g_runV (As := [.ref oJ]) (rest := []) C0 hP hD hS (mixT mk_210) hm.1 (nd_T _) 0 10 rfl rfl (c_X10_remember l dC dI cI cC cZ cB cJ a_m oJ uD dY iJ lJ jQ jR jW jK pJ bM aY jO gR gY mK jZ iY bG mJ jB mQ lY eJ bY H.size bW aG jG bQ 0 jY m_length qG uW eY aJ aB bU dN aR aE bJ aW bT gJ dU bL bR bO mY pW rD uQ _ hp) q_787 q_790 q_788 q_789 q_642 h_X10_remember rfl rfl ⟨Nat.le_of_ble_eq_true rfl, Nat.le_of_ble_eq_true rfl⟩ rfl rfl hl.1 rfl (lv_room (Nat.le_of_ble_eq_true rfl)) eX10_move_0.2.2.2.2.2.2.2.2.2.2.2.2.2.2.1 ⟨Nat.zero_le _, Nat.zero_le _⟩) (fun u H locs hp hP hD hS => ?_)
    obtain ⟨xZ, zU⟩ := u
    have hPD := PDm (ws' := (wd_X10_move cI cC cZ cB cJ a_m oJ uD dY iJ lJ jQ jR jW jK pJ bM aY jO gR gY mK jZ iY bG mJ jB mQ lY eJ bY bW aG jG bQ 0 jY m_length qG uW eY aJ aB bU dN aR aE bJ aW xZ gJ dU bL bR bO mY pW rD oY pR pX zU)) hP hD 6 rfl rfl rfl
    have hP := hPD.1
    have hD := hPD.2
    refine lv_aload_n hx hb eX10_move_0.2.2.2.2.2.2.2.2.2.2.2.2.2.2.2 rfl (lv_at hl 1 rfl) ?_
    refine lv_iload_n hx hb eX10_move_26.1 rfl (lv_at hl 2 rfl) ?_
    have hm := mgk (wc := (wd_X10_goMove cI cC cZ cB cJ a_m oJ uD dY iJ lJ jQ jR jW jK pJ bM aY jO gR gY mK jZ iY bG mJ jB mQ lY eJ bY bW aG jG bQ 0 jY m_length qG uW eY aJ aB bU dN aR aE bJ aW xZ gJ dU bL bR bO mY pW rD oY pR pX)) hP mk_122 6 rfl rfl rfl
    refine g_calli hP hD hS hA (mixT mk_122) (mixF mk_122) hm.1 hm.2 (nd_F _) (dis_g _) (g_runV (As := [.int p0]) (rest := []) C0 hP hD hS (mixT mk_122) hm.1 (nd_T _) 0 10 rfl rfl (c_X10_goMove l dC dI cI cC cZ cB cJ a_m oJ uD dY iJ lJ jQ jR jW jK pJ bM aY jO gR gY mK jZ iY bG mJ jB mQ lY eJ bY H.size p0 bW aG jG bQ 0 jY m_length qG uW eY aJ aB bU dN aR aE bJ aW xZ gJ dU bL bR bO mY pW rD oY pR pX _ hp) q_791 q_794 q_792 q_793 q_642 h_X10_goMove rfl rfl ⟨Nat.le_of_ble_eq_true rfl, Nat.le_of_ble_eq_true rfl⟩ rfl rfl hl.1 rfl (lv_room (Nat.le_of_ble_eq_true rfl)) eX10_move_26.2.1 ⟨Nat.zero_le _, Nat.zero_le _⟩) (fun r_4 u H locs hp hP hD hS => ?_)
    obtain ⟨aBj, rfl⟩ : ∃ z, z = u := ⟨_, rfl⟩
    have hPD := PDm (ws' := (wd_X10_move cI cC cZ cB cJ a_m oJ uD dY iJ lJ jQ jR jW jK pJ bM aY jO gR gY mK jZ iY bG mJ jB mQ lY eJ bY bW aG jG bQ 0 jY m_length qG uW eY aJ aB bU dN aR aE bJ aW xZ gJ dU bL bR bO mY pW aBj oY pR pX zU)) hP hD 6 rfl rfl rfl
    have hP := hPD.1
    have hD := hPD.2
    exact W.iret (v := r_4) hx hb hr (fun t ht hW => ⟨⟨r_4, (0, xZ, aBj, zU), rfl, hp, by rw [ht]; exact hP, va_K.moved hW.alike hK, hD⟩, hS.F ht⟩) hS.2.2 eX10_move_26.2.2
  · have hp := hp.2 hc
    refine lv_iload_n hx hb eX10_move_0.2.2.2.2.2.2.2.2.2.1 rfl (lv_at hl 0 rfl) ?_
    exact W.iret (v := r_1) hx hb hr (fun t ht hW => ⟨⟨r_1, (0, bT, rD, uQ), rfl, hp, by rw [ht]; exact hP, va_K.moved hW.alike hK, hD⟩, hS.F ht⟩) hS.2.2 eX10_move_0.2.2.2.2.2.2.2.2.2.2.1
noncomputable abbrev wd_X10_foot (cI cC cZ cB cJ : ClassId) (a_m oJ uD dY iJ lJ jQ jR jW jK pJ bM aY jO gR gY mK jZ iY bG mJ jB mQ lY eJ bY : Nat) (bW aG jG bQ dG : Int32) (jY : Nat) (m_length qG uW eY aJ aB bU dN aR aE bJ aW bT gJ dU bL bR bO mY pW : Int32) (rD uQ : Nat → Int32) : va_W := [(a_m, .inr (10, [.ref oJ, .int bW, .ref uD, .ref dY, .ref iJ, .ref lJ, .int aG, .ref jQ, .ref jR, .ref jW, .ref jK, .int jG, .ref pJ, .int bQ, .int dG, rdv jK jO jY, .int m_length, .int qG, .int uW, .int eY, .ref bM, .ref aY, .int aJ, .int aB, .ref jO, .int bU, .int dN, .int aR, .int aE, .int bJ, .int aW, .ref gR, .int bT, .ref gY, .ref mK, .int gJ, .ref jZ, .int dU, .ref iY, .ref bG, .int bL, .int bR, .int bO, .ref mJ, .ref jB, .ref mQ, .int mY, .int pW, .ref lY, .ref eJ, .ref bY])), (oJ, .inl (cI, 21, .inl rD)), (gR, .inl (cI, 252, .inl uQ))]
noncomputable abbrev q_X10_foot (dC : Nat → ClassId) (dI : Nat → Nat → Nat) (cI cC cZ cB cJ : ClassId) (A : Nat → Prop) (a_m oJ uD dY iJ lJ jQ jR jW jK pJ bM aY jO gR gY mK jZ iY bG mJ jB mQ lY eJ bY : Nat) (bW aG jG bQ : Int32) (jY : Nat) (m_length qG uW eY aJ aB bU dN aR aE bJ aW gJ dU bL bR bO mY pW : Int32) (post : Int32 → Int32 → Int32 → (Nat → Int32) → (Nat → Int32) → Prop) : Array Value → State → Outcome → State → Prop := va_Qi (fun (r : Int32) (u : Int32 × Int32 × (Nat → Int32) × (Nat → Int32)) => post r u.1 u.2.1 u.2.2.1 u.2.2.2) (fun u t => gB (dC, dI) (tyl cI cC cZ cB cJ) A (wd_X10_foot cI cC cZ cB cJ a_m oJ uD dY iJ lJ jQ jR jW jK pJ bM aY jO gR gY mK jZ iY bG mJ jB mQ lY eJ bY bW aG jG bQ u.1 jY m_length qG uW eY aJ aB bU dN aR aE bJ aW u.2.1 gJ dU bL bR bO mY pW u.2.2.1 u.2.2.2) t) A
noncomputable abbrev rm_X10_foot : Room := { frames := 2, cells := 0, slots := 0, locals := 45 }
noncomputable def wp_X10_foot (post : Int32 → Int32 → Int32 → (Nat → Int32) → (Nat → Int32) → Prop) (p0 dG bT : Int32) (rD uQ : Nat → Int32) : Prop := wp_X10_in (fun r_1 => (¬ r_1 = 0 → wp_X10_remember (fun xZ zU => ∀ v_4 : Int32, v_4 = rD (18 : Int32).toNatClampNeg → post v_4 0 xZ (upd rD (18 : Int32).toNatClampNeg p0) zU) bT rD uQ) ∧ (r_1 = 0 → post (-1) 0 bT rD uQ)) p0 0 1
set_option maxHeartbeats 4000000 in
set_option maxRecDepth 100000 in
theorem c_X10_foot (l : Launch) (dC : Nat → ClassId) (dI : Nat → Nat → Nat) (cI cC cZ cB cJ : ClassId) (a_m oJ uD dY iJ lJ jQ jR jW jK pJ bM aY jO gR gY mK jZ iY bG mJ jB mQ lY eJ bY sz : Nat) (p0 bW aG jG bQ dG : Int32) (jY : Nat) (m_length qG uW eY aJ aB bU dN aR aE bJ aW bT gJ dU bL bR bO mY pW : Int32) (rD uQ : Nat → Int32) (post : Int32 → Int32 → Int32 → (Nat → Int32) → (Nat → Int32) → Prop) (hw : wp_X10_foot post p0 dG bT rD uQ) : Met l yX10_foot (gw yX10_foot cX10_foot 3 (some .int)) rm_X10_foot (va_Pc [.ref a_m, .int p0] (gPre (dC, dI) (tyl cI cC cZ cB cJ) (wd_X10_foot cI cC cZ cB cJ a_m oJ uD dY iJ lJ jQ jR jW jK pJ bM aY jO gR gY mK jZ iY bG mJ jB mQ lY eJ bY bW aG jG bQ dG jY m_length qG uW eY aJ aB bU dN aR aE bJ aW bT gJ dU bL bR bO mY pW rD uQ) sz)) (q_X10_foot dC dI cI cC cZ cB cJ (va_A (wd_X10_foot cI cC cZ cB cJ a_m oJ uD dY iJ lJ jQ jR jW jK pJ bM aY jO gR gY mK jZ iY bG mJ jB mQ lY eJ bY bW aG jG bQ dG jY m_length qG uW eY aJ aB bU dN aR aE bJ aW bT gJ dU bL bR bO mY pW rD uQ) sz) a_m oJ uD dY iJ lJ jQ jR jW jK pJ bM aY jO gR gY mK jZ iY bG mJ jB mQ lY eJ bY bW aG jG bQ jY m_length qG uW eY aJ aB bU dN aR aE bJ aW gJ dU bL bR bO mY pW post) 0 0 (va_A (wd_X10_foot cI cC cZ cB cJ a_m oJ uD dY iJ lJ jQ jR jW jK pJ bM aY jO gR gY mK jZ iY bG mJ jB mQ lY eJ bY bW aG jG bQ dG jY m_length qG uW eY aJ aB bU dN aR aE bJ aW bT gJ dU bL bR bO mY pW rD uQ) sz) := by
  refine g_enter (own := RX10) (dC, dI) (tyl cI cC cZ cB cJ) (wd_X10_foot cI cC cZ cB cJ a_m oJ uD dY iJ lJ jQ jR jW jK pJ bM aY jO gR gY mK jZ iY bG mJ jB mQ lY eJ bY bW aG jG bQ dG jY m_length qG uW eY aJ aB bU dN aR aE bJ aW bT gJ dU bL bR bO mY pW rD uQ) sz [.ref a_m, .int p0] (fun A => q_X10_foot dC dI cI cC cZ cB cJ A a_m oJ uD dY iJ lJ jQ jR jW jK pJ bM aY jO gR gY mK jZ iY bG mJ jB mQ lY eJ bY bW aG jG bQ jY m_length qG uW eY aJ aB bU dN aR aE bJ aW gJ dU bL bR bO mY pW post) pn_RX10 rfl (Nat.le_of_ble_eq_true rfl) ?_
  intro p e s m args below meth c A H locs ls C0 hP hD hS hl
  have hl : lv_has ls 3 [(0, .ref a_m), (1, .int p0)] := hl
  obtain ⟨hx, hb, hr, hml, hown, hts, hlocks, hA, hK, hN, tL, tM, hZL, hTL, hZM, hTM, hZX⟩ := id C0
  have hp := hw
  unfold wp_X10_foot at hp
  refine lv_aload_n hx hb eX10_foot_0.1 rfl (lv_at hl 0 rfl) ?_
  refine lv_iconst (v := 0) hx hb eX10_foot_0.2.1 ic_0 ?_
  refine va_put (D := (dC, dI)) (ci := 10) (v := .int 0) (ty := .int) (C := RX10) (T := TX10) (N := 51) hx hb hts i_X10 tyX10 tyX10_ok nmX10 hown hK hP hD hS 0 rfl rfl 14 (Nat.le_of_ble_eq_true rfl) (hts _ q_638) (fun _ h9 => h9) rfl (tyX10_ok 14 (Nat.le_of_ble_eq_true rfl)) rfl rfl (Nat.le_of_ble_eq_true rfl) eX10_foot_0.2.2.1 (fun H locs hP hD hS => ?_)
  have hP : va_P (dC, dI) classes (wd_X10_foot cI cC cZ cB cJ a_m oJ uD dY iJ lJ jQ jR jW jK pJ bM aY jO gR gY mK jZ iY bG mJ jB mQ lY eJ bY bW aG jG bQ 0 jY m_length qG uW eY aJ aB bU dN aR aE bJ aW bT gJ dU bL bR bO mY pW rD uQ) H := hP
  have hD : va_D A (wd_X10_foot cI cC cZ cB cJ a_m oJ uD dY iJ lJ jQ jR jW jK pJ bM aY jO gR gY mK jZ iY bG mJ jB mQ lY eJ bY bW aG jG bQ 0 jY m_length qG uW eY aJ aB bU dN aR aE bJ aW bT gJ dU bL bR bO mY pW rD uQ) := hD
  refine lv_iload_n hx hb eX10_foot_0.2.2.2.1 rfl (lv_at hl 1 rfl) ?_
  refine lv_iconst (v := 0) hx hb eX10_foot_0.2.2.2.2.1 ic_0 ?_
  refine lv_iconst (v := 1) hx hb eX10_foot_0.2.2.2.2.2.1 ic_1 ?_
  have hm := mgk (wc := (wd_X10_in cI cC cZ cB cJ)) hP aGv 3 rfl rfl rfl
  refine g_calli hP hD hS hA (mixT aGv) (mixF aGv) hm.1 hm.2 (nd_F _) (dis_g _) (g_runS (As := [.int p0, .int 0, .int 1]) (rest := []) C0 hP hD hS (mixT aGv) hm.1 (nd_T _) (c_X10_in l dC dI cI cC cZ cB cJ H.size p0 0 1 _ hp) q_641 q_644 q_643 q_642 h_X10_in rfl rfl ⟨Nat.le_of_ble_eq_true rfl, Nat.le_of_ble_eq_true rfl⟩ rfl rfl hl.1 rfl (lv_room (Nat.le_of_ble_eq_true rfl)) eX10_foot_0.2.2.2.2.2.2.1 ⟨Nat.zero_le _, Nat.zero_le _⟩) (fun r_1 u H locs hp hP hD hS => ?_)
  have hPD := PDm (ws' := (wd_X10_foot cI cC cZ cB cJ a_m oJ uD dY iJ lJ jQ jR jW jK pJ bM aY jO gR gY mK jZ iY bG mJ jB mQ lY eJ bY bW aG jG bQ 0 jY m_length qG uW eY aJ aB bU dN aR aE bJ aW bT gJ dU bL bR bO mY pW rD uQ)) hP hD 3 rfl rfl rfl
  have hP := hPD.1
  have hD := hPD.2
  refine lv_if_ne (tgt := 16) hx hb eX10_foot_0.2.2.2.2.2.2.2.1 (by decide) (fun hc => ?_) (fun hc => ?_)
  · have hp := hp.1 hc
    refine lv_aload_n hx hb eX10_foot_0.2.2.2.2.2.2.2.2.2.2.1 rfl (lv_at hl 0 rfl) ?_
    refine lv_aload_n hx hb eX10_foot_0.2.2.2.2.2.2.2.2.2.2.2.1 rfl (lv_at hl 0 rfl) ?_
    refine va_get (D := (dC, dI)) (ci := 10) (v := .ref oJ) (C := RX10) (T := TX10) (N := 51) hx hb hts i_X10 hown hK hP 0 rfl rfl 0 (Nat.le_of_ble_eq_true rfl) (hts _ q_692) (fun _ h9 => h9) rfl eX10_foot_0.2.2.2.2.2.2.2.2.2.2.2.2.1 ?_
    have hm := mgk (wc := (wd_X10_remember cI cC cZ cB cJ a_m oJ uD dY iJ lJ jQ jR jW jK pJ bM aY jO gR gY mK jZ iY bG mJ jB mQ lY eJ bY bW aG jG bQ 0 jY m_length qG uW eY aJ aB bU dN aR aE bJ aW bT gJ dU bL bR bO mY pW rD uQ)) hP aBD 3 rfl rfl rfl
    refine g_callv hP hD hS hA (mixT aBD) (mixF aBD) hm.1 hm.2 (nd_F _) (dis_g _) (g_runV (As := [.ref oJ]) (rest := []) C0 hP hD hS (mixT aBD) hm.1 (nd_T _) 0 10 rfl rfl (c_X10_remember l dC dI cI cC cZ cB cJ a_m oJ uD dY iJ lJ jQ jR jW jK pJ bM aY jO gR gY mK jZ iY bG mJ jB mQ lY eJ bY H.size bW aG jG bQ 0 jY m_length qG uW eY aJ aB bU dN aR aE bJ aW bT gJ dU bL bR bO mY pW rD uQ _ hp) q_787 q_790 q_788 q_789 q_642 h_X10_remember rfl rfl ⟨Nat.le_of_ble_eq_true rfl, Nat.le_of_ble_eq_true rfl⟩ rfl rfl hl.1 rfl (lv_room (Nat.le_of_ble_eq_true rfl)) eX10_foot_0.2.2.2.2.2.2.2.2.2.2.2.2.2.1 ⟨Nat.zero_le _, Nat.zero_le _⟩) (fun u H locs hp hP hD hS => ?_)
    obtain ⟨xZ, zU⟩ := u
    have hPD := PDm (ws' := (wd_X10_foot cI cC cZ cB cJ a_m oJ uD dY iJ lJ jQ jR jW jK pJ bM aY jO gR gY mK jZ iY bG mJ jB mQ lY eJ bY bW aG jG bQ 0 jY m_length qG uW eY aJ aB bU dN aR aE bJ aW xZ gJ dU bL bR bO mY pW rD zU)) hP hD 3 rfl rfl rfl
    have hP := hPD.1
    have hD := hPD.2
    refine lv_aload_n hx hb eX10_foot_0.2.2.2.2.2.2.2.2.2.2.2.2.2.2.1 rfl (lv_at hl 0 rfl) ?_
    refine va_get (D := (dC, dI)) (ci := 10) (v := .ref oJ) (C := RX10) (T := TX10) (N := 51) hx hb hts i_X10 hown hK hP 0 rfl rfl 0 (Nat.le_of_ble_eq_true rfl) (hts _ q_692) (fun _ h9 => h9) rfl eX10_foot_0.2.2.2.2.2.2.2.2.2.2.2.2.2.2.2 ?_
    refine lv_bipush (v := 18) hx hb eX10_foot_28.1 bp_18 ?_
    refine va_iald hx hb hK hP 1 0 rfl rfl (g_in rfl) eX10_foot_28.2.1 ?_
    refine lv_topi (fun v_4 ev_4 => ?_)
    have hp := hp v_4 ev_4
    refine lv_istore_n (lv' := [(2, .int v_4), (0, .ref a_m), (1, .int p0)]) hx hb eX10_foot_28.2.2.1 rfl hl (by decide) rfl (fun ls hl => ?_)
    refine lv_aload_n hx hb eX10_foot_28.2.2.2.1 rfl (lv_at hl 1 rfl) ?_
    refine va_get (D := (dC, dI)) (ci := 10) (v := .ref oJ) (C := RX10) (T := TX10) (N := 51) hx hb hts i_X10 hown hK hP 0 rfl rfl 0 (Nat.le_of_ble_eq_true rfl) (hts _ q_692) (fun _ h9 => h9) rfl eX10_foot_28.2.2.2.2.1 ?_
    refine lv_bipush (v := 18) hx hb eX10_foot_28.2.2.2.2.2.1 bp_18 ?_
    refine lv_iload_n hx hb eX10_foot_28.2.2.2.2.2.2.1 rfl (lv_at hl 2 rfl) ?_
    refine va_iast hx hb hK hP hD hS 1 0 rfl rfl (g_in rfl) eX10_foot_28.2.2.2.2.2.2.2.1 (fun H locs hP hD hS => ?_)
    have hP : va_P (dC, dI) classes (wd_X10_foot cI cC cZ cB cJ a_m oJ uD dY iJ lJ jQ jR jW jK pJ bM aY jO gR gY mK jZ iY bG mJ jB mQ lY eJ bY bW aG jG bQ 0 jY m_length qG uW eY aJ aB bU dN aR aE bJ aW xZ gJ dU bL bR bO mY pW (upd rD (18 : Int32).toNatClampNeg p0) zU) H := hP
    have hD : va_D A (wd_X10_foot cI cC cZ cB cJ a_m oJ uD dY iJ lJ jQ jR jW jK pJ bM aY jO gR gY mK jZ iY bG mJ jB mQ lY eJ bY bW aG jG bQ 0 jY m_length qG uW eY aJ aB bU dN aR aE bJ aW xZ gJ dU bL bR bO mY pW (upd rD (18 : Int32).toNatClampNeg p0) zU) := hD
    refine lv_iload_n hx hb eX10_foot_28.2.2.2.2.2.2.2.2.1 rfl (lv_at hl 0 rfl) ?_
    exact W.iret (v := v_4) hx hb hr (fun t ht hW => ⟨⟨v_4, (0, xZ, (upd rD (18 : Int32).toNatClampNeg p0), zU), rfl, hp, by rw [ht]; exact hP, va_K.moved hW.alike hK, hD⟩, hS.F ht⟩) hS.2.2 eX10_foot_28.2.2.2.2.2.2.2.2.2
  · have hp := hp.2 hc
    refine lv_iconst (v := (-1)) hx hb eX10_foot_0.2.2.2.2.2.2.2.2.1 ic_m1 ?_
    exact W.iret (v := (-1)) hx hb hr (fun t ht hW => ⟨⟨(-1), (0, bT, rD, uQ), rfl, hp, by rw [ht]; exact hP, va_K.moved hW.alike hK, hD⟩, hS.F ht⟩) hS.2.2 eX10_foot_0.2.2.2.2.2.2.2.2.2.1
noncomputable abbrev wd_X10_reachBy (cI cC cZ cB cJ : ClassId) (a_m oJ uD dY iJ lJ jQ jR jW jK pJ bM aY jO gR gY mK jZ iY bG mJ jB mQ lY eJ bY : Nat) (bW aG jG bQ dG : Int32) (jY : Nat) (m_length qG uW eY aJ aB bU dN aR aE bJ aW bT gJ dU bL bR bO mY pW : Int32) (pX : Nat → Int32) : va_W := [(a_m, .inr (10, [.ref oJ, .int bW, .ref uD, .ref dY, .ref iJ, .ref lJ, .int aG, .ref jQ, .ref jR, .ref jW, .ref jK, .int jG, .ref pJ, .int bQ, .int dG, rdv jK jO jY, .int m_length, .int qG, .int uW, .int eY, .ref bM, .ref aY, .int aJ, .int aB, .ref jO, .int bU, .int dN, .int aR, .int aE, .int bJ, .int aW, .ref gR, .int bT, .ref gY, .ref mK, .int gJ, .ref jZ, .int dU, .ref iY, .ref bG, .int bL, .int bR, .int bO, .ref mJ, .ref jB, .ref mQ, .int mY, .int pW, .ref lY, .ref eJ, .ref bY])), (jW, .inl (cI, 5, .inl pX))]
noncomputable abbrev q_X10_reachBy (dC : Nat → ClassId) (dI : Nat → Nat → Nat) (cI cC cZ cB cJ : ClassId) (A : Nat → Prop) (a_m oJ uD dY iJ lJ jQ jR jW jK pJ bM aY jO gR gY mK jZ iY bG mJ jB mQ lY eJ bY : Nat) (bW aG jG bQ dG : Int32) (jY : Nat) (m_length qG uW eY aJ aB bU dN aR aE bJ aW bT gJ dU bL bR bO mY pW : Int32) (pX : Nat → Int32) (post : Int32 → Prop) : Array Value → State → Outcome → State → Prop := va_Qi (fun (r : Int32) (u : Unit) => post r) (fun u t => gB (dC, dI) (tyl cI cC cZ cB cJ) A (wd_X10_reachBy cI cC cZ cB cJ a_m oJ uD dY iJ lJ jQ jR jW jK pJ bM aY jO gR gY mK jZ iY bG mJ jB mQ lY eJ bY bW aG jG bQ dG jY m_length qG uW eY aJ aB bU dN aR aE bJ aW bT gJ dU bL bR bO mY pW pX) t) A
noncomputable abbrev rm_X10_reachBy : Room := { frames := 0, cells := 0, slots := 0, locals := 0 }
noncomputable def wp_X10_reachBy (post : Int32 → Prop) (p0 p1 : Int32) (pX : Nat → Int32) : Prop := ∀ v_1 : Int32, v_1 = pX (0 : Int32).toNatClampNeg → ∀ v_2 : Int32, v_2 = v_1 + (p0 * (pX (1 : Int32).toNatClampNeg)) → post (v_2 + (p1 * (pX (2 : Int32).toNatClampNeg)))
set_option maxHeartbeats 4000000 in
set_option maxRecDepth 100000 in
theorem c_X10_reachBy (l : Launch) (dC : Nat → ClassId) (dI : Nat → Nat → Nat) (cI cC cZ cB cJ : ClassId) (a_m oJ uD dY iJ lJ jQ jR jW jK pJ bM aY jO gR gY mK jZ iY bG mJ jB mQ lY eJ bY sz : Nat) (p0 p1 bW aG jG bQ dG : Int32) (jY : Nat) (m_length qG uW eY aJ aB bU dN aR aE bJ aW bT gJ dU bL bR bO mY pW : Int32) (pX : Nat → Int32) (post : Int32 → Prop) (hw : wp_X10_reachBy post p0 p1 pX) : Met l yX10_reachBy (gw yX10_reachBy cX10_reachBy 3 (some .int)) rm_X10_reachBy (va_Pc [.ref a_m, .int p0, .int p1] (gPre (dC, dI) (tyl cI cC cZ cB cJ) (wd_X10_reachBy cI cC cZ cB cJ a_m oJ uD dY iJ lJ jQ jR jW jK pJ bM aY jO gR gY mK jZ iY bG mJ jB mQ lY eJ bY bW aG jG bQ dG jY m_length qG uW eY aJ aB bU dN aR aE bJ aW bT gJ dU bL bR bO mY pW pX) sz)) (q_X10_reachBy dC dI cI cC cZ cB cJ (va_A (wd_X10_reachBy cI cC cZ cB cJ a_m oJ uD dY iJ lJ jQ jR jW jK pJ bM aY jO gR gY mK jZ iY bG mJ jB mQ lY eJ bY bW aG jG bQ dG jY m_length qG uW eY aJ aB bU dN aR aE bJ aW bT gJ dU bL bR bO mY pW pX) sz) a_m oJ uD dY iJ lJ jQ jR jW jK pJ bM aY jO gR gY mK jZ iY bG mJ jB mQ lY eJ bY bW aG jG bQ dG jY m_length qG uW eY aJ aB bU dN aR aE bJ aW bT gJ dU bL bR bO mY pW pX post) 0 0 (va_A (wd_X10_reachBy cI cC cZ cB cJ a_m oJ uD dY iJ lJ jQ jR jW jK pJ bM aY jO gR gY mK jZ iY bG mJ jB mQ lY eJ bY bW aG jG bQ dG jY m_length qG uW eY aJ aB bU dN aR aE bJ aW bT gJ dU bL bR bO mY pW pX) sz) := by
  refine g_enter (own := RX10) (dC, dI) (tyl cI cC cZ cB cJ) (wd_X10_reachBy cI cC cZ cB cJ a_m oJ uD dY iJ lJ jQ jR jW jK pJ bM aY jO gR gY mK jZ iY bG mJ jB mQ lY eJ bY bW aG jG bQ dG jY m_length qG uW eY aJ aB bU dN aR aE bJ aW bT gJ dU bL bR bO mY pW pX) sz [.ref a_m, .int p0, .int p1] (fun A => q_X10_reachBy dC dI cI cC cZ cB cJ A a_m oJ uD dY iJ lJ jQ jR jW jK pJ bM aY jO gR gY mK jZ iY bG mJ jB mQ lY eJ bY bW aG jG bQ dG jY m_length qG uW eY aJ aB bU dN aR aE bJ aW bT gJ dU bL bR bO mY pW pX post) pn_RX10 rfl (Nat.le_of_ble_eq_true rfl) ?_
  intro p e s m args below meth c A H locs ls C0 hP hD hS hl
  have hl : lv_has ls 3 [(0, .ref a_m), (1, .int p0), (2, .int p1)] := hl
  obtain ⟨hx, hb, hr, hml, hown, hts, hlocks, hA, hK, hN, tL, tM, hZL, hTL, hZM, hTM, hZX⟩ := id C0
  have hp := hw
  unfold wp_X10_reachBy at hp
  refine lv_aload_n hx hb eX10_reachBy_0.1 rfl (lv_at hl 0 rfl) ?_
  refine va_get (D := (dC, dI)) (ci := 10) (v := .ref jW) (C := RX10) (T := TX10) (N := 51) hx hb hts i_X10 hown hK hP 0 rfl rfl 9 (Nat.le_of_ble_eq_true rfl) (hts _ q_765) (fun _ h9 => h9) rfl eX10_reachBy_0.2.1 ?_
  refine lv_iconst (v := 0) hx hb eX10_reachBy_0.2.2.1 ic_0 ?_
  refine va_iald hx hb hK hP 1 0 rfl rfl (g_in rfl) eX10_reachBy_0.2.2.2.1 ?_
  refine lv_topi (fun v_1 ev_1 => ?_)
  have hp := hp v_1 ev_1
  refine lv_iload_n hx hb eX10_reachBy_0.2.2.2.2.1 rfl (lv_at hl 1 rfl) ?_
  refine lv_aload_n hx hb eX10_reachBy_0.2.2.2.2.2.1 rfl (lv_at hl 0 rfl) ?_
  refine va_get (D := (dC, dI)) (ci := 10) (v := .ref jW) (C := RX10) (T := TX10) (N := 51) hx hb hts i_X10 hown hK hP 0 rfl rfl 9 (Nat.le_of_ble_eq_true rfl) (hts _ q_765) (fun _ h9 => h9) rfl eX10_reachBy_0.2.2.2.2.2.2.1 ?_
  refine lv_iconst (v := 1) hx hb eX10_reachBy_0.2.2.2.2.2.2.2.1 ic_1 ?_
  refine va_iald hx hb hK hP 1 0 rfl rfl (g_in rfl) eX10_reachBy_0.2.2.2.2.2.2.2.2.1 ?_
  refine lv_imul hx hb eX10_reachBy_0.2.2.2.2.2.2.2.2.2.1 ?_
  refine lv_iadd hx hb eX10_reachBy_0.2.2.2.2.2.2.2.2.2.2.1 ?_
  refine lv_topi (fun v_2 ev_2 => ?_)
  have hp := hp v_2 ev_2
  refine lv_iload_n hx hb eX10_reachBy_0.2.2.2.2.2.2.2.2.2.2.2.1 rfl (lv_at hl 2 rfl) ?_
  refine lv_aload_n hx hb eX10_reachBy_0.2.2.2.2.2.2.2.2.2.2.2.2.1 rfl (lv_at hl 0 rfl) ?_
  refine va_get (D := (dC, dI)) (ci := 10) (v := .ref jW) (C := RX10) (T := TX10) (N := 51) hx hb hts i_X10 hown hK hP 0 rfl rfl 9 (Nat.le_of_ble_eq_true rfl) (hts _ q_765) (fun _ h9 => h9) rfl eX10_reachBy_0.2.2.2.2.2.2.2.2.2.2.2.2.2.1 ?_
  refine lv_iconst (v := 2) hx hb eX10_reachBy_0.2.2.2.2.2.2.2.2.2.2.2.2.2.2.1 ic_2 ?_
  refine va_iald hx hb hK hP 1 0 rfl rfl (g_in rfl) eX10_reachBy_0.2.2.2.2.2.2.2.2.2.2.2.2.2.2.2 ?_
  refine lv_imul hx hb eX10_reachBy_22.1 ?_
  refine lv_iadd hx hb eX10_reachBy_22.2.1 ?_
  exact W.iret (v := v_2 + (p1 * (pX (2 : Int32).toNatClampNeg))) hx hb hr (fun t ht hW => ⟨⟨v_2 + (p1 * (pX (2 : Int32).toNatClampNeg)), (), rfl, hp, by rw [ht]; exact hP, va_K.moved hW.alike hK, hD⟩, hS.F ht⟩) hS.2.2 eX10_reachBy_22.2.2
noncomputable abbrev wd_X10_isWithin (cI cC cZ cB cJ : ClassId) (a_m oJ uD dY iJ lJ jQ jR jW jK pJ bM aY jO gR gY mK jZ iY bG mJ jB mQ lY eJ bY : Nat) (bW aG jG bQ dG : Int32) (jY : Nat) (m_length qG uW eY aJ aB bU dN aR aE bJ aW bT gJ dU bL bR bO mY pW : Int32) (m_x jA oY pR : Nat → Int32) : va_W := [(a_m, .inr (10, [.ref oJ, .int bW, .ref uD, .ref dY, .ref iJ, .ref lJ, .int aG, .ref jQ, .ref jR, .ref jW, .ref jK, .int jG, .ref pJ, .int bQ, .int dG, rdv jK jO jY, .int m_length, .int qG, .int uW, .int eY, .ref bM, .ref aY, .int aJ, .int aB, .ref jO, .int bU, .int dN, .int aR, .int aE, .int bJ, .int aW, .ref gR, .int bT, .ref gY, .ref mK, .int gJ, .ref jZ, .int dU, .ref iY, .ref bG, .int bL, .int bR, .int bO, .ref mJ, .ref jB, .ref mQ, .int mY, .int pW, .ref lY, .ref eJ, .ref bY])), (uD, .inl (cI, 16, .inl m_x)), (dY, .inl (cI, 16, .inl jA)), (jQ, .inl (cI, 8, .inl oY)), (jR, .inl (cI, 8, .inl pR))]
noncomputable abbrev q_X10_isWithin (dC : Nat → ClassId) (dI : Nat → Nat → Nat) (cI cC cZ cB cJ : ClassId) (A : Nat → Prop) (a_m oJ uD dY iJ lJ jQ jR jW jK pJ bM aY jO gR gY mK jZ iY bG mJ jB mQ lY eJ bY : Nat) (bW aG jG bQ dG : Int32) (jY : Nat) (m_length qG uW eY aJ aB bU dN aR aE bJ aW bT gJ dU bL bR bO mY pW : Int32) (m_x jA oY pR : Nat → Int32) (post : Int32 → Prop) : Array Value → State → Outcome → State → Prop := va_Qi (fun (r : Int32) (u : Unit) => post r) (fun u t => gB (dC, dI) (tyl cI cC cZ cB cJ) A (wd_X10_isWithin cI cC cZ cB cJ a_m oJ uD dY iJ lJ jQ jR jW jK pJ bM aY jO gR gY mK jZ iY bG mJ jB mQ lY eJ bY bW aG jG bQ dG jY m_length qG uW eY aJ aB bU dN aR aE bJ aW bT gJ dU bL bR bO mY pW m_x jA oY pR) t) A
noncomputable abbrev rm_X10_isWithin : Room := { frames := 2, cells := 0, slots := 0, locals := 43 }
noncomputable def wp_X10_isWithin (post : Int32 → Prop) (p0 p1 p2 : Int32) (m_x jA oY pR : Nat → Int32) : Prop := wp_X10_far (fun r_1 => wp_X10_far (fun r_2 => ∀ v_3 : Int32, v_3 = r_1 * r_2 → wp_X10_above (fun r_4 => wp_X10_above (fun r_5 => ∀ v_6 : Int32, v_6 = v_3 + (r_4 * r_5) → ((p2 * p2) < v_6 → post 0) ∧ (¬ (p2 * p2) < v_6 → post 1)) p0 p1 jA pR) p0 p1 jA pR) p0 p1 m_x oY) p0 p1 m_x oY
set_option maxHeartbeats 4000000 in
set_option maxRecDepth 100000 in
theorem c_X10_isWithin (l : Launch) (dC : Nat → ClassId) (dI : Nat → Nat → Nat) (cI cC cZ cB cJ : ClassId) (a_m oJ uD dY iJ lJ jQ jR jW jK pJ bM aY jO gR gY mK jZ iY bG mJ jB mQ lY eJ bY sz : Nat) (p0 p1 p2 bW aG jG bQ dG : Int32) (jY : Nat) (m_length qG uW eY aJ aB bU dN aR aE bJ aW bT gJ dU bL bR bO mY pW : Int32) (m_x jA oY pR : Nat → Int32) (post : Int32 → Prop) (hw : wp_X10_isWithin post p0 p1 p2 m_x jA oY pR) : Met l yX10_isWithin (gw yX10_isWithin cX10_isWithin 4 (some .boolean)) rm_X10_isWithin (va_Pc [.ref a_m, .int p0, .int p1, .int p2] (gPre (dC, dI) (tyl cI cC cZ cB cJ) (wd_X10_isWithin cI cC cZ cB cJ a_m oJ uD dY iJ lJ jQ jR jW jK pJ bM aY jO gR gY mK jZ iY bG mJ jB mQ lY eJ bY bW aG jG bQ dG jY m_length qG uW eY aJ aB bU dN aR aE bJ aW bT gJ dU bL bR bO mY pW m_x jA oY pR) sz)) (q_X10_isWithin dC dI cI cC cZ cB cJ (va_A (wd_X10_isWithin cI cC cZ cB cJ a_m oJ uD dY iJ lJ jQ jR jW jK pJ bM aY jO gR gY mK jZ iY bG mJ jB mQ lY eJ bY bW aG jG bQ dG jY m_length qG uW eY aJ aB bU dN aR aE bJ aW bT gJ dU bL bR bO mY pW m_x jA oY pR) sz) a_m oJ uD dY iJ lJ jQ jR jW jK pJ bM aY jO gR gY mK jZ iY bG mJ jB mQ lY eJ bY bW aG jG bQ dG jY m_length qG uW eY aJ aB bU dN aR aE bJ aW bT gJ dU bL bR bO mY pW m_x jA oY pR post) 0 0 (va_A (wd_X10_isWithin cI cC cZ cB cJ a_m oJ uD dY iJ lJ jQ jR jW jK pJ bM aY jO gR gY mK jZ iY bG mJ jB mQ lY eJ bY bW aG jG bQ dG jY m_length qG uW eY aJ aB bU dN aR aE bJ aW bT gJ dU bL bR bO mY pW m_x jA oY pR) sz) := by
  refine g_enter (own := RX10) (dC, dI) (tyl cI cC cZ cB cJ) (wd_X10_isWithin cI cC cZ cB cJ a_m oJ uD dY iJ lJ jQ jR jW jK pJ bM aY jO gR gY mK jZ iY bG mJ jB mQ lY eJ bY bW aG jG bQ dG jY m_length qG uW eY aJ aB bU dN aR aE bJ aW bT gJ dU bL bR bO mY pW m_x jA oY pR) sz [.ref a_m, .int p0, .int p1, .int p2] (fun A => q_X10_isWithin dC dI cI cC cZ cB cJ A a_m oJ uD dY iJ lJ jQ jR jW jK pJ bM aY jO gR gY mK jZ iY bG mJ jB mQ lY eJ bY bW aG jG bQ dG jY m_length qG uW eY aJ aB bU dN aR aE bJ aW bT gJ dU bL bR bO mY pW m_x jA oY pR post) pn_RX10 rfl (Nat.le_of_ble_eq_true rfl) ?_
  intro p e s m args below meth c A H locs ls C0 hP hD hS hl
  have hl : lv_has ls 4 [(0, .ref a_m), (1, .int p0), (2, .int p1), (3, .int p2)] := hl
  obtain ⟨hx, hb, hr, hml, hown, hts, hlocks, hA, hK, hN, tL, tM, hZL, hTL, hZM, hTM, hZX⟩ := id C0
  have hp := hw
  unfold wp_X10_isWithin at hp
  refine lv_aload_n hx hb eX10_isWithin_0.1 rfl (lv_at hl 0 rfl) ?_
  refine lv_iload_n hx hb eX10_isWithin_0.2.1 rfl (lv_at hl 1 rfl) ?_
  refine lv_iload_n hx hb eX10_isWithin_0.2.2.1 rfl (lv_at hl 2 rfl) ?_
  have hm := mgk (wc := (wd_X10_far cI cC cZ cB cJ a_m oJ uD dY iJ lJ jQ jR jW jK pJ bM aY jO gR gY mK jZ iY bG mJ jB mQ lY eJ bY bW aG jG bQ dG jY m_length qG uW eY aJ aB bU dN aR aE bJ aW bT gJ dU bL bR bO mY pW m_x oY)) hP mk_47 5 rfl rfl rfl
  refine g_calli hP hD hS hA (mixT mk_47) (mixF mk_47) hm.1 hm.2 (nd_F _) (dis_g _) (g_runV (As := [.int p0, .int p1]) (rest := []) C0 hP hD hS (mixT mk_47) hm.1 (nd_T _) 0 10 rfl rfl (c_X10_far l dC dI cI cC cZ cB cJ a_m oJ uD dY iJ lJ jQ jR jW jK pJ bM aY jO gR gY mK jZ iY bG mJ jB mQ lY eJ bY H.size p0 p1 bW aG jG bQ dG jY m_length qG uW eY aJ aB bU dN aR aE bJ aW bT gJ dU bL bR bO mY pW m_x oY _ hp) q_701 q_704 q_702 q_703 q_642 h_X10_far rfl rfl ⟨Nat.le_of_ble_eq_true rfl, Nat.le_of_ble_eq_true rfl⟩ rfl rfl hl.1 rfl (lv_room (Nat.le_of_ble_eq_true rfl)) eX10_isWithin_0.2.2.2.1 ⟨Nat.zero_le _, Nat.zero_le _⟩) (fun r_1 u H locs hp hP hD hS => ?_)
  have hPD := PDm (ws' := (wd_X10_isWithin cI cC cZ cB cJ a_m oJ uD dY iJ lJ jQ jR jW jK pJ bM aY jO gR gY mK jZ iY bG mJ jB mQ lY eJ bY bW aG jG bQ dG jY m_length qG uW eY aJ aB bU dN aR aE bJ aW bT gJ dU bL bR bO mY pW m_x jA oY pR)) hP hD 5 rfl rfl rfl
  have hP := hPD.1
  have hD := hPD.2
  refine lv_aload_n hx hb eX10_isWithin_0.2.2.2.2.1 rfl (lv_at hl 0 rfl) ?_
  refine lv_iload_n hx hb eX10_isWithin_0.2.2.2.2.2.1 rfl (lv_at hl 1 rfl) ?_
  refine lv_iload_n hx hb eX10_isWithin_0.2.2.2.2.2.2.1 rfl (lv_at hl 2 rfl) ?_
  have hm := mgk (wc := (wd_X10_far cI cC cZ cB cJ a_m oJ uD dY iJ lJ jQ jR jW jK pJ bM aY jO gR gY mK jZ iY bG mJ jB mQ lY eJ bY bW aG jG bQ dG jY m_length qG uW eY aJ aB bU dN aR aE bJ aW bT gJ dU bL bR bO mY pW m_x oY)) hP mk_47 5 rfl rfl rfl
  refine g_calli hP hD hS hA (mixT mk_47) (mixF mk_47) hm.1 hm.2 (nd_F _) (dis_g _) (g_runV (As := [.int p0, .int p1]) (rest := [.int r_1]) C0 hP hD hS (mixT mk_47) hm.1 (nd_T _) 0 10 rfl rfl (c_X10_far l dC dI cI cC cZ cB cJ a_m oJ uD dY iJ lJ jQ jR jW jK pJ bM aY jO gR gY mK jZ iY bG mJ jB mQ lY eJ bY H.size p0 p1 bW aG jG bQ dG jY m_length qG uW eY aJ aB bU dN aR aE bJ aW bT gJ dU bL bR bO mY pW m_x oY _ hp) q_701 q_704 q_702 q_703 q_642 h_X10_far rfl rfl ⟨Nat.le_of_ble_eq_true rfl, Nat.le_of_ble_eq_true rfl⟩ rfl rfl hl.1 rfl (lv_room (Nat.le_of_ble_eq_true rfl)) eX10_isWithin_0.2.2.2.2.2.2.2.1 ⟨Nat.zero_le _, Nat.zero_le _⟩) (fun r_2 u H locs hp hP hD hS => ?_)
  have hPD := PDm (ws' := (wd_X10_isWithin cI cC cZ cB cJ a_m oJ uD dY iJ lJ jQ jR jW jK pJ bM aY jO gR gY mK jZ iY bG mJ jB mQ lY eJ bY bW aG jG bQ dG jY m_length qG uW eY aJ aB bU dN aR aE bJ aW bT gJ dU bL bR bO mY pW m_x jA oY pR)) hP hD 5 rfl rfl rfl
  have hP := hPD.1
  have hD := hPD.2
  refine lv_imul hx hb eX10_isWithin_0.2.2.2.2.2.2.2.2.1 ?_
  refine lv_topi (fun v_3 ev_3 => ?_)
  have hp := hp v_3 ev_3
  refine lv_aload_n hx hb eX10_isWithin_0.2.2.2.2.2.2.2.2.2.1 rfl (lv_at hl 0 rfl) ?_
  refine lv_iload_n hx hb eX10_isWithin_0.2.2.2.2.2.2.2.2.2.2.1 rfl (lv_at hl 1 rfl) ?_
  refine lv_iload_n hx hb eX10_isWithin_0.2.2.2.2.2.2.2.2.2.2.2.1 rfl (lv_at hl 2 rfl) ?_
  have hm := mgk (wc := (wd_X10_above cI cC cZ cB cJ a_m oJ uD dY iJ lJ jQ jR jW jK pJ bM aY jO gR gY mK jZ iY bG mJ jB mQ lY eJ bY bW aG jG bQ dG jY m_length qG uW eY aJ aB bU dN aR aE bJ aW bT gJ dU bL bR bO mY pW jA pR)) hP mk_48 5 rfl rfl rfl
  refine g_calli hP hD hS hA (mixT mk_48) (mixF mk_48) hm.1 hm.2 (nd_F _) (dis_g _) (g_runV (As := [.int p0, .int p1]) (rest := [.int v_3]) C0 hP hD hS (mixT mk_48) hm.1 (nd_T _) 0 10 rfl rfl (c_X10_above l dC dI cI cC cZ cB cJ a_m oJ uD dY iJ lJ jQ jR jW jK pJ bM aY jO gR gY mK jZ iY bG mJ jB mQ lY eJ bY H.size p0 p1 bW aG jG bQ dG jY m_length qG uW eY aJ aB bU dN aR aE bJ aW bT gJ dU bL bR bO mY pW jA pR _ hp) q_706 q_709 q_707 q_708 q_642 h_X10_above rfl rfl ⟨Nat.le_of_ble_eq_true rfl, Nat.le_of_ble_eq_true rfl⟩ rfl rfl hl.1 rfl (lv_room (Nat.le_of_ble_eq_true rfl)) eX10_isWithin_0.2.2.2.2.2.2.2.2.2.2.2.2.1 ⟨Nat.zero_le _, Nat.zero_le _⟩) (fun r_4 u H locs hp hP hD hS => ?_)
  have hPD := PDm (ws' := (wd_X10_isWithin cI cC cZ cB cJ a_m oJ uD dY iJ lJ jQ jR jW jK pJ bM aY jO gR gY mK jZ iY bG mJ jB mQ lY eJ bY bW aG jG bQ dG jY m_length qG uW eY aJ aB bU dN aR aE bJ aW bT gJ dU bL bR bO mY pW m_x jA oY pR)) hP hD 5 rfl rfl rfl
  have hP := hPD.1
  have hD := hPD.2
  refine lv_aload_n hx hb eX10_isWithin_0.2.2.2.2.2.2.2.2.2.2.2.2.2.1 rfl (lv_at hl 0 rfl) ?_
  refine lv_iload_n hx hb eX10_isWithin_0.2.2.2.2.2.2.2.2.2.2.2.2.2.2.1 rfl (lv_at hl 1 rfl) ?_
  refine lv_iload_n hx hb eX10_isWithin_0.2.2.2.2.2.2.2.2.2.2.2.2.2.2.2 rfl (lv_at hl 2 rfl) ?_
  have hm := mgk (wc := (wd_X10_above cI cC cZ cB cJ a_m oJ uD dY iJ lJ jQ jR jW jK pJ bM aY jO gR gY mK jZ iY bG mJ jB mQ lY eJ bY bW aG jG bQ dG jY m_length qG uW eY aJ aB bU dN aR aE bJ aW bT gJ dU bL bR bO mY pW jA pR)) hP mk_48 5 rfl rfl rfl
  refine g_calli hP hD hS hA (mixT mk_48) (mixF mk_48) hm.1 hm.2 (nd_F _) (dis_g _) (g_runV (As := [.int p0, .int p1]) (rest := [.int r_4, .int v_3]) C0 hP hD hS (mixT mk_48) hm.1 (nd_T _) 0 10 rfl rfl (c_X10_above l dC dI cI cC cZ cB cJ a_m oJ uD dY iJ lJ jQ jR jW jK pJ bM aY jO gR gY mK jZ iY bG mJ jB mQ lY eJ bY H.size p0 p1 bW aG jG bQ dG jY m_length qG uW eY aJ aB bU dN aR aE bJ aW bT gJ dU bL bR bO mY pW jA pR _ hp) q_706 q_709 q_707 q_708 q_642 h_X10_above rfl rfl ⟨Nat.le_of_ble_eq_true rfl, Nat.le_of_ble_eq_true rfl⟩ rfl rfl hl.1 rfl (lv_room (Nat.le_of_ble_eq_true rfl)) eX10_isWithin_22.1 ⟨Nat.zero_le _, Nat.zero_le _⟩) (fun r_5 u H locs hp hP hD hS => ?_)
  have hPD := PDm (ws' := (wd_X10_isWithin cI cC cZ cB cJ a_m oJ uD dY iJ lJ jQ jR jW jK pJ bM aY jO gR gY mK jZ iY bG mJ jB mQ lY eJ bY bW aG jG bQ dG jY m_length qG uW eY aJ aB bU dN aR aE bJ aW bT gJ dU bL bR bO mY pW m_x jA oY pR)) hP hD 5 rfl rfl rfl
  have hP := hPD.1
  have hD := hPD.2
  refine lv_imul hx hb eX10_isWithin_22.2.1 ?_
  refine lv_iadd hx hb eX10_isWithin_22.2.2.1 ?_
  refine lv_topi (fun v_6 ev_6 => ?_)
  have hp := hp v_6 ev_6
  refine lv_iload_n hx hb eX10_isWithin_22.2.2.2.1 rfl (lv_at hl 3 rfl) ?_
  refine lv_iload_n hx hb eX10_isWithin_22.2.2.2.2.1 rfl (lv_at hl 3 rfl) ?_
  refine lv_imul hx hb eX10_isWithin_22.2.2.2.2.2.1 ?_
  refine lv_icmp_gt (tgt := 37) hx hb eX10_isWithin_22.2.2.2.2.2.2.1 (by decide) (fun hc => ?_) (fun hc => ?_)
  · have hp := hp.1 hc
    refine lv_iconst (v := 0) hx hb eX10_isWithin_22.2.2.2.2.2.2.2.2.2.1 ic_0 ?_
    exact W.zret (v := 0) hx hb hr rfl (fun t ht hW => ⟨⟨0, (), rfl, hp, by rw [ht]; exact hP, va_K.moved hW.alike hK, hD⟩, hS.F ht⟩) hS.2.2 eX10_isWithin_22.2.2.2.2.2.2.2.2.2.2
  · have hp := hp.2 hc
    refine lv_iconst (v := 1) hx hb eX10_isWithin_22.2.2.2.2.2.2.2.1 ic_1 ?_
    refine lv_goto (tgt := 38) hx hb eX10_isWithin_22.2.2.2.2.2.2.2.2.1 (by decide) ?_
    exact W.zret (v := 1) hx hb hr rfl (fun t ht hW => ⟨⟨1, (), rfl, hp, by rw [ht]; exact hP, va_K.moved hW.alike hK, hD⟩, hS.F ht⟩) hS.2.2 eX10_isWithin_22.2.2.2.2.2.2.2.2.2.2
noncomputable abbrev wd_X10_refusesPick (cI cC cZ cB cJ : ClassId) (a_m oJ uD dY iJ lJ jQ jR jW jK pJ bM aY jO gR gY mK jZ iY bG mJ jB mQ lY eJ bY : Nat) (bW aG jG bQ dG : Int32) (jY : Nat) (m_length qG uW eY aJ aB bU dN aR aE bJ aW bT gJ dU bL bR bO mY pW : Int32) (rD m_x jA rW oY pR pX : Nat → Int32) : va_W := [(a_m, .inr (10, [.ref oJ, .int bW, .ref uD, .ref dY, .ref iJ, .ref lJ, .int aG, .ref jQ, .ref jR, .ref jW, .ref jK, .int jG, .ref pJ, .int bQ, .int dG, rdv jK jO jY, .int m_length, .int qG, .int uW, .int eY, .ref bM, .ref aY, .int aJ, .int aB, .ref jO, .int bU, .int dN, .int aR, .int aE, .int bJ, .int aW, .ref gR, .int bT, .ref gY, .ref mK, .int gJ, .ref jZ, .int dU, .ref iY, .ref bG, .int bL, .int bR, .int bO, .ref mJ, .ref jB, .ref mQ, .int mY, .int pW, .ref lY, .ref eJ, .ref bY])), (oJ, .inl (cI, 21, .inl rD)), (uD, .inl (cI, 16, .inl m_x)), (dY, .inl (cI, 16, .inl jA)), (lJ, .inl (cI, 16, .inl rW)), (jQ, .inl (cI, 8, .inl oY)), (jR, .inl (cI, 8, .inl pR)), (jW, .inl (cI, 5, .inl pX))]
noncomputable abbrev q_X10_refusesPick (dC : Nat → ClassId) (dI : Nat → Nat → Nat) (cI cC cZ cB cJ : ClassId) (A : Nat → Prop) (a_m oJ uD dY iJ lJ jQ jR jW jK pJ bM aY jO gR gY mK jZ iY bG mJ jB mQ lY eJ bY : Nat) (bW aG jG bQ dG : Int32) (jY : Nat) (m_length qG uW eY aJ aB bU dN aR aE bJ aW bT gJ dU bL bR bO mY pW : Int32) (rD m_x jA rW oY pR pX : Nat → Int32) (post : Int32 → Prop) : Array Value → State → Outcome → State → Prop := va_Qi (fun (r : Int32) (u : Unit) => post r) (fun u t => gB (dC, dI) (tyl cI cC cZ cB cJ) A (wd_X10_refusesPick cI cC cZ cB cJ a_m oJ uD dY iJ lJ jQ jR jW jK pJ bM aY jO gR gY mK jZ iY bG mJ jB mQ lY eJ bY bW aG jG bQ dG jY m_length qG uW eY aJ aB bU dN aR aE bJ aW bT gJ dU bL bR bO mY pW rD m_x jA rW oY pR pX) t) A
noncomputable abbrev rm_X10_refusesPick : Room := { frames := 3, cells := 0, slots := 0, locals := 66 }
noncomputable def wp_X10_refusesPick (post : Int32 → Prop) (p0 p1 bW : Int32) (rD m_x jA rW oY pR pX : Nat → Int32) : Prop := wp_X10_isFruit (fun r_1 => (r_1 = 0 → post (-1)) ∧ (¬ r_1 = 0 → wp_X10_in (fun r_2 => (¬ r_2 = 0 → vp_in p0 21 ∧ (((rD p0.toNatClampNeg) = 0 → vp_in p0 16 ∧ (∀ v_3 : Int32, v_3 = rW p0.toNatClampNeg → (v_3 ≤ (rD (19 : Int32).toNatClampNeg) → ∀ v_4 : Int32, v_4 = rD (17 : Int32).toNatClampNeg → (v_4 = (-1) → post (-4)) ∧ (¬ v_4 = (-1) → ∀ v_5 : Int32, v_5 = rD (17 : Int32).toNatClampNeg → ∀ v_6 : Int32, v_6 = rD (18 : Int32).toNatClampNeg → wp_X10_reachBy (fun r_7 => wp_X10_isWithin (fun r_8 => (¬ r_8 = 0 → wp_X10_which (fun r_9 => wp_J6_bitCount_0f7a4 (fun r_10 => (r_10 < (pX (4 : Int32).toNatClampNeg) → post 0) ∧ (¬ r_10 < (pX (4 : Int32).toNatClampNeg) → post (-5))) r_9) 1 bW rD) ∧ (r_8 = 0 → post (-4))) p0 v_5 r_7 m_x jA oY pR) v_6 p1 pX)) ∧ (¬ v_3 ≤ (rD (19 : Int32).toNatClampNeg) → post (-3)))) ∧ (¬ (rD p0.toNatClampNeg) = 0 → post (-2)))) ∧ (r_2 = 0 → post (-1))) p1 0 1)) p0 bW
set_option maxHeartbeats 4000000 in
set_option maxRecDepth 100000 in
theorem c_X10_refusesPick (l : Launch) (dC : Nat → ClassId) (dI : Nat → Nat → Nat) (cI cC cZ cB cJ : ClassId) (a_m oJ uD dY iJ lJ jQ jR jW jK pJ bM aY jO gR gY mK jZ iY bG mJ jB mQ lY eJ bY sz : Nat) (p0 p1 bW aG jG bQ dG : Int32) (jY : Nat) (m_length qG uW eY aJ aB bU dN aR aE bJ aW bT gJ dU bL bR bO mY pW : Int32) (rD m_x jA rW oY pR pX : Nat → Int32) (post : Int32 → Prop) (hw : wp_X10_refusesPick post p0 p1 bW rD m_x jA rW oY pR pX) : Met l yX10_refusesPick (gw yX10_refusesPick cX10_refusesPick 3 (some .int)) rm_X10_refusesPick (va_Pc [.ref a_m, .int p0, .int p1] (gPre (dC, dI) (tyl cI cC cZ cB cJ) (wd_X10_refusesPick cI cC cZ cB cJ a_m oJ uD dY iJ lJ jQ jR jW jK pJ bM aY jO gR gY mK jZ iY bG mJ jB mQ lY eJ bY bW aG jG bQ dG jY m_length qG uW eY aJ aB bU dN aR aE bJ aW bT gJ dU bL bR bO mY pW rD m_x jA rW oY pR pX) sz)) (q_X10_refusesPick dC dI cI cC cZ cB cJ (va_A (wd_X10_refusesPick cI cC cZ cB cJ a_m oJ uD dY iJ lJ jQ jR jW jK pJ bM aY jO gR gY mK jZ iY bG mJ jB mQ lY eJ bY bW aG jG bQ dG jY m_length qG uW eY aJ aB bU dN aR aE bJ aW bT gJ dU bL bR bO mY pW rD m_x jA rW oY pR pX) sz) a_m oJ uD dY iJ lJ jQ jR jW jK pJ bM aY jO gR gY mK jZ iY bG mJ jB mQ lY eJ bY bW aG jG bQ dG jY m_length qG uW eY aJ aB bU dN aR aE bJ aW bT gJ dU bL bR bO mY pW rD m_x jA rW oY pR pX post) 0 0 (va_A (wd_X10_refusesPick cI cC cZ cB cJ a_m oJ uD dY iJ lJ jQ jR jW jK pJ bM aY jO gR gY mK jZ iY bG mJ jB mQ lY eJ bY bW aG jG bQ dG jY m_length qG uW eY aJ aB bU dN aR aE bJ aW bT gJ dU bL bR bO mY pW rD m_x jA rW oY pR pX) sz) := by
  refine g_enter (own := RX10) (dC, dI) (tyl cI cC cZ cB cJ) (wd_X10_refusesPick cI cC cZ cB cJ a_m oJ uD dY iJ lJ jQ jR jW jK pJ bM aY jO gR gY mK jZ iY bG mJ jB mQ lY eJ bY bW aG jG bQ dG jY m_length qG uW eY aJ aB bU dN aR aE bJ aW bT gJ dU bL bR bO mY pW rD m_x jA rW oY pR pX) sz [.ref a_m, .int p0, .int p1] (fun A => q_X10_refusesPick dC dI cI cC cZ cB cJ A a_m oJ uD dY iJ lJ jQ jR jW jK pJ bM aY jO gR gY mK jZ iY bG mJ jB mQ lY eJ bY bW aG jG bQ dG jY m_length qG uW eY aJ aB bU dN aR aE bJ aW bT gJ dU bL bR bO mY pW rD m_x jA rW oY pR pX post) pn_RX10 rfl (Nat.le_of_ble_eq_true rfl) ?_
  intro p e s m args below meth c A H locs ls C0 hP hD hS hl
  have hl : lv_has ls 3 [(0, .ref a_m), (1, .int p0), (2, .int p1)] := hl
  obtain ⟨hx, hb, hr, hml, hown, hts, hlocks, hA, hK, hN, tL, tM, hZL, hTL, hZM, hTM, hZX⟩ := id C0
  have hp := hw
  unfold wp_X10_refusesPick at hp
  refine lv_aload_n hx hb eX10_refusesPick_0.1 rfl (lv_at hl 0 rfl) ?_
  refine lv_iload_n hx hb eX10_refusesPick_0.2.1 rfl (lv_at hl 1 rfl) ?_
  have hm := mgk (wc := (wd_X10_isFruit cI cC cZ cB cJ a_m oJ uD dY iJ lJ jQ jR jW jK pJ bM aY jO gR gY mK jZ iY bG mJ jB mQ lY eJ bY bW aG jG bQ dG jY m_length qG uW eY aJ aB bU dN aR aE bJ aW bT gJ dU bL bR bO mY pW)) hP aBV 8 rfl rfl rfl
  refine g_calli hP hD hS hA (mixT aBV) (mixF aBV) hm.1 hm.2 (nd_F _) (dis_g _) (g_runV (As := [.int p0]) (rest := []) C0 hP hD hS (mixT aBV) hm.1 (nd_T _) 0 10 rfl rfl (c_X10_isFruit l dC dI cI cC cZ cB cJ a_m oJ uD dY iJ lJ jQ jR jW jK pJ bM aY jO gR gY mK jZ iY bG mJ jB mQ lY eJ bY H.size p0 bW aG jG bQ dG jY m_length qG uW eY aJ aB bU dN aR aE bJ aW bT gJ dU bL bR bO mY pW _ hp) q_741 q_744 q_742 q_743 q_642 h_X10_isFruit rfl rfl ⟨Nat.le_of_ble_eq_true rfl, Nat.le_of_ble_eq_true rfl⟩ rfl rfl hl.1 rfl (lv_room (Nat.le_of_ble_eq_true rfl)) eX10_refusesPick_0.2.2.1 ⟨Nat.zero_le _, Nat.zero_le _⟩) (fun r_1 u H locs hp hP hD hS => ?_)
  have hPD := PDm (ws' := (wd_X10_refusesPick cI cC cZ cB cJ a_m oJ uD dY iJ lJ jQ jR jW jK pJ bM aY jO gR gY mK jZ iY bG mJ jB mQ lY eJ bY bW aG jG bQ dG jY m_length qG uW eY aJ aB bU dN aR aE bJ aW bT gJ dU bL bR bO mY pW rD m_x jA rW oY pR pX)) hP hD 8 rfl rfl rfl
  have hP := hPD.1
  have hD := hPD.2
  refine lv_if_eq (tgt := 17) hx hb eX10_refusesPick_0.2.2.2.1 (by decide) (fun hc => ?_) (fun hc => ?_)
  · have hp := hp.1 hc
    refine lv_iconst (v := (-1)) hx hb eX10_refusesPick_0.2.2.2.2.2.2.2.2.2.1 ic_m1 ?_
    exact W.iret (v := (-1)) hx hb hr (fun t ht hW => ⟨⟨(-1), (), rfl, hp, by rw [ht]; exact hP, va_K.moved hW.alike hK, hD⟩, hS.F ht⟩) hS.2.2 eX10_refusesPick_0.2.2.2.2.2.2.2.2.2.2.1
  · have hp := hp.2 hc
    refine lv_iload_n hx hb eX10_refusesPick_0.2.2.2.2.1 rfl (lv_at hl 2 rfl) ?_
    refine lv_iconst (v := 0) hx hb eX10_refusesPick_0.2.2.2.2.2.1 ic_0 ?_
    refine lv_iconst (v := 1) hx hb eX10_refusesPick_0.2.2.2.2.2.2.1 ic_1 ?_
    have hm := mgk (wc := (wd_X10_in cI cC cZ cB cJ)) hP aAW 8 rfl rfl rfl
    refine g_calli hP hD hS hA (mixT aAW) (mixF aAW) hm.1 hm.2 (nd_F _) (dis_g _) (g_runS (As := [.int p1, .int 0, .int 1]) (rest := []) C0 hP hD hS (mixT aAW) hm.1 (nd_T _) (c_X10_in l dC dI cI cC cZ cB cJ H.size p1 0 1 _ hp) q_641 q_644 q_643 q_642 h_X10_in rfl rfl ⟨Nat.le_of_ble_eq_true rfl, Nat.le_of_ble_eq_true rfl⟩ rfl rfl hl.1 rfl (lv_room (Nat.le_of_ble_eq_true rfl)) eX10_refusesPick_0.2.2.2.2.2.2.2.1 ⟨Nat.zero_le _, Nat.zero_le _⟩) (fun r_2 u H locs hp hP hD hS => ?_)
    have hPD := PDm (ws' := (wd_X10_refusesPick cI cC cZ cB cJ a_m oJ uD dY iJ lJ jQ jR jW jK pJ bM aY jO gR gY mK jZ iY bG mJ jB mQ lY eJ bY bW aG jG bQ dG jY m_length qG uW eY aJ aB bU dN aR aE bJ aW bT gJ dU bL bR bO mY pW rD m_x jA rW oY pR pX)) hP hD 8 rfl rfl rfl
    have hP := hPD.1
    have hD := hPD.2
    refine lv_if_ne (tgt := 19) hx hb eX10_refusesPick_0.2.2.2.2.2.2.2.2.1 (by decide) (fun hc => ?_) (fun hc => ?_)
    · have hp := hp.1 hc
      refine lv_aload_n hx hb eX10_refusesPick_0.2.2.2.2.2.2.2.2.2.2.2.1 rfl (lv_at hl 0 rfl) ?_
      refine va_get (D := (dC, dI)) (ci := 10) (v := .ref oJ) (C := RX10) (T := TX10) (N := 51) hx hb hts i_X10 hown hK hP 0 rfl rfl 0 (Nat.le_of_ble_eq_true rfl) (hts _ q_692) (fun _ h9 => h9) rfl eX10_refusesPick_0.2.2.2.2.2.2.2.2.2.2.2.2.1 ?_
      refine lv_iload_n hx hb eX10_refusesPick_0.2.2.2.2.2.2.2.2.2.2.2.2.2.1 rfl (lv_at hl 1 rfl) ?_
      have hin := hp.1
      have hp := hp.2
      refine va_iald hx hb hK hP 1 0 rfl rfl hin eX10_refusesPick_0.2.2.2.2.2.2.2.2.2.2.2.2.2.2.1 ?_
      refine lv_if_eq (tgt := 31) hx hb eX10_refusesPick_0.2.2.2.2.2.2.2.2.2.2.2.2.2.2.2 (by decide) (fun hc => ?_) (fun hc => ?_)
      · have hp := hp.1 hc
        refine lv_aload_n hx hb eX10_refusesPick_28.2.2.1 rfl (lv_at hl 0 rfl) ?_
        refine va_get (D := (dC, dI)) (ci := 10) (v := .ref lJ) (C := RX10) (T := TX10) (N := 51) hx hb hts i_X10 hown hK hP 0 rfl rfl 5 (Nat.le_of_ble_eq_true rfl) (hts _ q_691) (fun _ h9 => h9) rfl eX10_refusesPick_28.2.2.2.1 ?_
        refine lv_iload_n hx hb eX10_refusesPick_28.2.2.2.2.1 rfl (lv_at hl 1 rfl) ?_
        have hin := hp.1
        have hp := hp.2
        refine va_iald hx hb hK hP 4 0 rfl rfl hin eX10_refusesPick_28.2.2.2.2.2.1 ?_
        refine lv_topi (fun v_3 ev_3 => ?_)
        have hp := hp v_3 ev_3
        refine lv_aload_n hx hb eX10_refusesPick_28.2.2.2.2.2.2.1 rfl (lv_at hl 0 rfl) ?_
        refine va_get (D := (dC, dI)) (ci := 10) (v := .ref oJ) (C := RX10) (T := TX10) (N := 51) hx hb hts i_X10 hown hK hP 0 rfl rfl 0 (Nat.le_of_ble_eq_true rfl) (hts _ q_692) (fun _ h9 => h9) rfl eX10_refusesPick_28.2.2.2.2.2.2.2.1 ?_
        refine lv_bipush (v := 19) hx hb eX10_refusesPick_28.2.2.2.2.2.2.2.2.1 bp_19 ?_
        refine va_iald hx hb hK hP 1 0 rfl rfl (g_in rfl) eX10_refusesPick_28.2.2.2.2.2.2.2.2.2.1 ?_
        refine lv_icmp_le (tgt := 50) hx hb eX10_refusesPick_28.2.2.2.2.2.2.2.2.2.2.1 (by decide) (fun hc => ?_) (fun hc => ?_)
        · have hp := hp.1 hc
          refine lv_aload_n hx hb eX10_refusesPick_28.2.2.2.2.2.2.2.2.2.2.2.2.2.1 rfl (lv_at hl 0 rfl) ?_
          refine va_get (D := (dC, dI)) (ci := 10) (v := .ref oJ) (C := RX10) (T := TX10) (N := 51) hx hb hts i_X10 hown hK hP 0 rfl rfl 0 (Nat.le_of_ble_eq_true rfl) (hts _ q_692) (fun _ h9 => h9) rfl eX10_refusesPick_28.2.2.2.2.2.2.2.2.2.2.2.2.2.2.1 ?_
          refine lv_bipush (v := 17) hx hb eX10_refusesPick_28.2.2.2.2.2.2.2.2.2.2.2.2.2.2.2 bp_17 ?_
          refine va_iald hx hb hK hP 1 0 rfl rfl (g_in rfl) eX10_refusesPick_56.1 ?_
          refine lv_topi (fun v_4 ev_4 => ?_)
          have hp := hp v_4 ev_4
          refine lv_iconst (v := (-1)) hx hb eX10_refusesPick_56.2.1 ic_m1 ?_
          refine lv_icmp_eq (tgt := 88) hx hb eX10_refusesPick_56.2.2.1 (by decide) (fun hc => ?_) (fun hc => ?_)
          · have hp := hp.1 hc
            refine lv_bipush (v := (-4)) hx hb eX10_refusesPick_82.2.2.1 bp_m4 ?_
            exact W.iret (v := (-4)) hx hb hr (fun t ht hW => ⟨⟨(-4), (), rfl, hp, by rw [ht]; exact hP, va_K.moved hW.alike hK, hD⟩, hS.F ht⟩) hS.2.2 eX10_refusesPick_82.2.2.2.1
          · have hp := hp.2 hc
            refine lv_aload_n hx hb eX10_refusesPick_56.2.2.2.1 rfl (lv_at hl 0 rfl) ?_
            refine lv_iload_n hx hb eX10_refusesPick_56.2.2.2.2.1 rfl (lv_at hl 1 rfl) ?_
            refine lv_aload_n hx hb eX10_refusesPick_56.2.2.2.2.2.1 rfl (lv_at hl 0 rfl) ?_
            refine va_get (D := (dC, dI)) (ci := 10) (v := .ref oJ) (C := RX10) (T := TX10) (N := 51) hx hb hts i_X10 hown hK hP 0 rfl rfl 0 (Nat.le_of_ble_eq_true rfl) (hts _ q_692) (fun _ h9 => h9) rfl eX10_refusesPick_56.2.2.2.2.2.2.1 ?_
            refine lv_bipush (v := 17) hx hb eX10_refusesPick_56.2.2.2.2.2.2.2.1 bp_17 ?_
            refine va_iald hx hb hK hP 1 0 rfl rfl (g_in rfl) eX10_refusesPick_56.2.2.2.2.2.2.2.2.1 ?_
            refine lv_topi (fun v_5 ev_5 => ?_)
            have hp := hp v_5 ev_5
            refine lv_aload_n hx hb eX10_refusesPick_56.2.2.2.2.2.2.2.2.2.1 rfl (lv_at hl 0 rfl) ?_
            refine lv_aload_n hx hb eX10_refusesPick_56.2.2.2.2.2.2.2.2.2.2.1 rfl (lv_at hl 0 rfl) ?_
            refine va_get (D := (dC, dI)) (ci := 10) (v := .ref oJ) (C := RX10) (T := TX10) (N := 51) hx hb hts i_X10 hown hK hP 0 rfl rfl 0 (Nat.le_of_ble_eq_true rfl) (hts _ q_692) (fun _ h9 => h9) rfl eX10_refusesPick_56.2.2.2.2.2.2.2.2.2.2.2.1 ?_
            refine lv_bipush (v := 18) hx hb eX10_refusesPick_56.2.2.2.2.2.2.2.2.2.2.2.2.1 bp_18 ?_
            refine va_iald hx hb hK hP 1 0 rfl rfl (g_in rfl) eX10_refusesPick_56.2.2.2.2.2.2.2.2.2.2.2.2.2.1 ?_
            refine lv_topi (fun v_6 ev_6 => ?_)
            have hp := hp v_6 ev_6
            refine lv_iload_n hx hb eX10_refusesPick_56.2.2.2.2.2.2.2.2.2.2.2.2.2.2.1 rfl (lv_at hl 2 rfl) ?_
            have hm := mgk (wc := (wd_X10_reachBy cI cC cZ cB cJ a_m oJ uD dY iJ lJ jQ jR jW jK pJ bM aY jO gR gY mK jZ iY bG mJ jB mQ lY eJ bY bW aG jG bQ dG jY m_length qG uW eY aJ aB bU dN aR aE bJ aW bT gJ dU bL bR bO mY pW pX)) hP mk_211 8 rfl rfl rfl
            refine g_calli hP hD hS hA (mixT mk_211) (mixF mk_211) hm.1 hm.2 (nd_F _) (dis_g _) (g_runV (As := [.int v_6, .int p1]) (rest := [.int v_5, .int p0, .ref a_m]) C0 hP hD hS (mixT mk_211) hm.1 (nd_T _) 0 10 rfl rfl (c_X10_reachBy l dC dI cI cC cZ cB cJ a_m oJ uD dY iJ lJ jQ jR jW jK pJ bM aY jO gR gY mK jZ iY bG mJ jB mQ lY eJ bY H.size v_6 p1 bW aG jG bQ dG jY m_length qG uW eY aJ aB bU dN aR aE bJ aW bT gJ dU bL bR bO mY pW pX _ hp) q_795 q_798 q_796 q_797 q_642 h_X10_reachBy rfl rfl ⟨Nat.le_of_ble_eq_true rfl, Nat.le_of_ble_eq_true rfl⟩ rfl rfl hl.1 rfl (lv_room (Nat.le_of_ble_eq_true rfl)) eX10_refusesPick_56.2.2.2.2.2.2.2.2.2.2.2.2.2.2.2 ⟨Nat.zero_le _, Nat.zero_le _⟩) (fun r_7 u H locs hp hP hD hS => ?_)
            have hPD := PDm (ws' := (wd_X10_refusesPick cI cC cZ cB cJ a_m oJ uD dY iJ lJ jQ jR jW jK pJ bM aY jO gR gY mK jZ iY bG mJ jB mQ lY eJ bY bW aG jG bQ dG jY m_length qG uW eY aJ aB bU dN aR aE bJ aW bT gJ dU bL bR bO mY pW rD m_x jA rW oY pR pX)) hP hD 8 rfl rfl rfl
            have hP := hPD.1
            have hD := hPD.2
            have hm := mgk (wc := (wd_X10_isWithin cI cC cZ cB cJ a_m oJ uD dY iJ lJ jQ jR jW jK pJ bM aY jO gR gY mK jZ iY bG mJ jB mQ lY eJ bY bW aG jG bQ dG jY m_length qG uW eY aJ aB bU dN aR aE bJ aW bT gJ dU bL bR bO mY pW m_x jA oY pR)) hP mk_212 8 rfl rfl rfl
            refine g_calli hP hD hS hA (mixT mk_212) (mixF mk_212) hm.1 hm.2 (nd_F _) (dis_g _) (g_runV (As := [.int p0, .int v_5, .int r_7]) (rest := []) C0 hP hD hS (mixT mk_212) hm.1 (nd_T _) 0 10 rfl rfl (c_X10_isWithin l dC dI cI cC cZ cB cJ a_m oJ uD dY iJ lJ jQ jR jW jK pJ bM aY jO gR gY mK jZ iY bG mJ jB mQ lY eJ bY H.size p0 v_5 r_7 bW aG jG bQ dG jY m_length qG uW eY aJ aB bU dN aR aE bJ aW bT gJ dU bL bR bO mY pW m_x jA oY pR _ hp) q_799 q_802 q_800 q_801 q_642 h_X10_isWithin rfl rfl ⟨Nat.le_of_ble_eq_true rfl, Nat.le_of_ble_eq_true rfl⟩ rfl rfl hl.1 rfl (lv_room (Nat.le_of_ble_eq_true rfl)) eX10_refusesPick_82.1 ⟨Nat.zero_le _, Nat.zero_le _⟩) (fun r_8 u H locs hp hP hD hS => ?_)
            have hPD := PDm (ws' := (wd_X10_refusesPick cI cC cZ cB cJ a_m oJ uD dY iJ lJ jQ jR jW jK pJ bM aY jO gR gY mK jZ iY bG mJ jB mQ lY eJ bY bW aG jG bQ dG jY m_length qG uW eY aJ aB bU dN aR aE bJ aW bT gJ dU bL bR bO mY pW rD m_x jA rW oY pR pX)) hP hD 8 rfl rfl rfl
            have hP := hPD.1
            have hD := hPD.2
            refine lv_if_ne (tgt := 91) hx hb eX10_refusesPick_82.2.1 (by decide) (fun hc => ?_) (fun hc => ?_)
            · have hp := hp.1 hc
              refine lv_aload_n hx hb eX10_refusesPick_82.2.2.2.2.1 rfl (lv_at hl 0 rfl) ?_
              refine lv_aload_n hx hb eX10_refusesPick_82.2.2.2.2.2.1 rfl (lv_at hl 0 rfl) ?_
              refine va_get (D := (dC, dI)) (ci := 10) (v := .ref oJ) (C := RX10) (T := TX10) (N := 51) hx hb hts i_X10 hown hK hP 0 rfl rfl 0 (Nat.le_of_ble_eq_true rfl) (hts _ q_692) (fun _ h9 => h9) rfl eX10_refusesPick_82.2.2.2.2.2.2.1 ?_
              refine lv_iconst (v := 1) hx hb eX10_refusesPick_82.2.2.2.2.2.2.2.1 ic_1 ?_
              have hm := mgk (wc := (wd_X10_which cI cC cZ cB cJ a_m oJ uD dY iJ lJ jQ jR jW jK pJ bM aY jO gR gY mK jZ iY bG mJ jB mQ lY eJ bY bW aG jG bQ dG jY m_length qG uW eY aJ aB bU dN aR aE bJ aW bT gJ dU bL bR bO mY pW rD)) hP aGn 8 rfl rfl rfl
              refine g_calli hP hD hS hA (mixT aGn) (mixF aGn) hm.1 hm.2 (nd_F _) (dis_g _) (g_runV (As := [.ref oJ, .int 1]) (rest := []) C0 hP hD hS (mixT aGn) hm.1 (nd_T _) 0 10 rfl rfl (c_X10_which l dC dI cI cC cZ cB cJ a_m oJ uD dY iJ lJ jQ jR jW jK pJ bM aY jO gR gY mK jZ iY bG mJ jB mQ lY eJ bY H.size 1 bW aG jG bQ dG jY m_length qG uW eY aJ aB bU dN aR aE bJ aW bT gJ dU bL bR bO mY pW rD _ hp) q_749 q_752 q_750 q_751 q_642 h_X10_which rfl rfl ⟨Nat.le_of_ble_eq_true rfl, Nat.le_of_ble_eq_true rfl⟩ rfl rfl hl.1 rfl (lv_room (Nat.le_of_ble_eq_true rfl)) eX10_refusesPick_82.2.2.2.2.2.2.2.2.1 ⟨Nat.zero_le _, Nat.zero_le _⟩) (fun r_9 u H locs hp hP hD hS => ?_)
              have hPD := PDm (ws' := (wd_X10_refusesPick cI cC cZ cB cJ a_m oJ uD dY iJ lJ jQ jR jW jK pJ bM aY jO gR gY mK jZ iY bG mJ jB mQ lY eJ bY bW aG jG bQ dG jY m_length qG uW eY aJ aB bU dN aR aE bJ aW bT gJ dU bL bR bO mY pW rD m_x jA rW oY pR pX)) hP hD 8 rfl rfl rfl
              have hP := hPD.1
              have hD := hPD.2
              have hm := mgk (wc := (wd_J6_bitCount_0f7a4 cI cC cZ cB cJ)) hP aAW 8 rfl rfl rfl
              refine g_calli hP hD hS hA (mixT aAW) (mixF aAW) hm.1 hm.2 (nd_F _) (dis_g _) (g_runS (As := [.int r_9]) (rest := []) C0 hP hD hS (mixT aAW) hm.1 (nd_T _) (c_J6_bitCount_0f7a4 l dC dI cI cC cZ cB cJ H.size r_9 _ hp) q_320 q_803 q_322 q_321 h_J6_bitCount_0f7a4 rfl rfl ⟨Nat.le_of_ble_eq_true rfl, Nat.le_of_ble_eq_true rfl⟩ rfl rfl hl.1 rfl (lv_room (Nat.le_of_ble_eq_true rfl)) eX10_refusesPick_82.2.2.2.2.2.2.2.2.2.1 ⟨Nat.zero_le _, Nat.zero_le _⟩) (fun r_10 u H locs hp hP hD hS => ?_)
              have hPD := PDm (ws' := (wd_X10_refusesPick cI cC cZ cB cJ a_m oJ uD dY iJ lJ jQ jR jW jK pJ bM aY jO gR gY mK jZ iY bG mJ jB mQ lY eJ bY bW aG jG bQ dG jY m_length qG uW eY aJ aB bU dN aR aE bJ aW bT gJ dU bL bR bO mY pW rD m_x jA rW oY pR pX)) hP hD 8 rfl rfl rfl
              have hP := hPD.1
              have hD := hPD.2
              refine lv_aload_n hx hb eX10_refusesPick_82.2.2.2.2.2.2.2.2.2.2.1 rfl (lv_at hl 0 rfl) ?_
              refine va_get (D := (dC, dI)) (ci := 10) (v := .ref jW) (C := RX10) (T := TX10) (N := 51) hx hb hts i_X10 hown hK hP 0 rfl rfl 9 (Nat.le_of_ble_eq_true rfl) (hts _ q_765) (fun _ h9 => h9) rfl eX10_refusesPick_82.2.2.2.2.2.2.2.2.2.2.2.1 ?_
              refine lv_iconst (v := 4) hx hb eX10_refusesPick_82.2.2.2.2.2.2.2.2.2.2.2.2.1 ic_4 ?_
              refine va_iald hx hb hK hP 7 0 rfl rfl (g_in rfl) eX10_refusesPick_82.2.2.2.2.2.2.2.2.2.2.2.2.2.1 ?_
              refine lv_icmp_lt (tgt := 117) hx hb eX10_refusesPick_82.2.2.2.2.2.2.2.2.2.2.2.2.2.2.1 (by decide) (fun hc => ?_) (fun hc => ?_)
              · have hp := hp.1 hc
                refine lv_iconst (v := 0) hx hb eX10_refusesPick_114.2.1 ic_0 ?_
                exact W.iret (v := 0) hx hb hr (fun t ht hW => ⟨⟨0, (), rfl, hp, by rw [ht]; exact hP, va_K.moved hW.alike hK, hD⟩, hS.F ht⟩) hS.2.2 eX10_refusesPick_114.2.2
              · have hp := hp.2 hc
                refine lv_bipush (v := (-5)) hx hb eX10_refusesPick_82.2.2.2.2.2.2.2.2.2.2.2.2.2.2.2 bp_m5 ?_
                refine lv_goto (tgt := 118) hx hb eX10_refusesPick_114.1 (by decide) ?_
                exact W.iret (v := (-5)) hx hb hr (fun t ht hW => ⟨⟨(-5), (), rfl, hp, by rw [ht]; exact hP, va_K.moved hW.alike hK, hD⟩, hS.F ht⟩) hS.2.2 eX10_refusesPick_114.2.2
            · have hp := hp.2 hc
              refine lv_bipush (v := (-4)) hx hb eX10_refusesPick_82.2.2.1 bp_m4 ?_
              exact W.iret (v := (-4)) hx hb hr (fun t ht hW => ⟨⟨(-4), (), rfl, hp, by rw [ht]; exact hP, va_K.moved hW.alike hK, hD⟩, hS.F ht⟩) hS.2.2 eX10_refusesPick_82.2.2.2.1
        · have hp := hp.2 hc
          refine lv_bipush (v := (-3)) hx hb eX10_refusesPick_28.2.2.2.2.2.2.2.2.2.2.2.1 bp_m3 ?_
          exact W.iret (v := (-3)) hx hb hr (fun t ht hW => ⟨⟨(-3), (), rfl, hp, by rw [ht]; exact hP, va_K.moved hW.alike hK, hD⟩, hS.F ht⟩) hS.2.2 eX10_refusesPick_28.2.2.2.2.2.2.2.2.2.2.2.2.1
      · have hp := hp.2 hc
        refine lv_bipush (v := (-2)) hx hb eX10_refusesPick_28.1 bp_m2 ?_
        exact W.iret (v := (-2)) hx hb hr (fun t ht hW => ⟨⟨(-2), (), rfl, hp, by rw [ht]; exact hP, va_K.moved hW.alike hK, hD⟩, hS.F ht⟩) hS.2.2 eX10_refusesPick_28.2.1
    · have hp := hp.2 hc
      refine lv_iconst (v := (-1)) hx hb eX10_refusesPick_0.2.2.2.2.2.2.2.2.2.1 ic_m1 ?_
      exact W.iret (v := (-1)) hx hb hr (fun t ht hW => ⟨⟨(-1), (), rfl, hp, by rw [ht]; exact hP, va_K.moved hW.alike hK, hD⟩, hS.F ht⟩) hS.2.2 eX10_refusesPick_0.2.2.2.2.2.2.2.2.2.2.1
noncomputable abbrev wd_X10_begin_b2 (cI cC cZ cB cJ : ClassId) (a_m oJ uD dY iJ lJ jQ jR jW jK pJ bM aY jO gR gY mK jZ iY bG mJ jB mQ lY eJ bY : Nat) (bW aG jG bQ dG : Int32) (jY : Nat) (m_length qG uW eY aJ aB bU dN aR aE bJ aW bT gJ dU bL bR bO mY pW : Int32) : va_W := [(a_m, .inr (10, [.ref oJ, .int bW, .ref uD, .ref dY, .ref iJ, .ref lJ, .int aG, .ref jQ, .ref jR, .ref jW, .ref jK, .int jG, .ref pJ, .int bQ, .int dG, rdv jK jO jY, .int m_length, .int qG, .int uW, .int eY, .ref bM, .ref aY, .int aJ, .int aB, .ref jO, .int bU, .int dN, .int aR, .int aE, .int bJ, .int aW, .ref gR, .int bT, .ref gY, .ref mK, .int gJ, .ref jZ, .int dU, .ref iY, .ref bG, .int bL, .int bR, .int bO, .ref mJ, .ref jB, .ref mQ, .int mY, .int pW, .ref lY, .ref eJ, .ref bY]))]
noncomputable abbrev q_X10_begin_b2 (dC : Nat → ClassId) (dI : Nat → Nat → Nat) (cI cC cZ cB cJ : ClassId) (A : Nat → Prop) (a_m oJ uD dY iJ lJ jQ jR jW jK pJ bM aY jO gR gY mK jZ iY bG mJ jB mQ lY eJ bY : Nat) (bW aG jG bQ dG aJ aB bU dN aR aE bJ aW bT gJ dU bL bR bO mY pW : Int32) (post : Nat → Int32 → Int32 → Int32 → Int32 → Prop) : Array Value → State → Outcome → State → Prop := va_Qv (fun (u : Nat × Int32 × Int32 × Int32 × Int32) => post u.1 u.2.1 u.2.2.1 u.2.2.2.1 u.2.2.2.2) (fun u t => gB (dC, dI) (tyl cI cC cZ cB cJ) A (wd_X10_begin_b2 cI cC cZ cB cJ a_m oJ uD dY iJ lJ jQ jR jW jK pJ bM aY jO gR gY mK jZ iY bG mJ jB mQ lY eJ bY bW aG jG bQ dG u.1 u.2.1 u.2.2.1 u.2.2.2.1 u.2.2.2.2 aJ aB bU dN aR aE bJ aW bT gJ dU bL bR bO mY pW) t) A
noncomputable abbrev rm_X10_begin_b2 : Room := { frames := 0, cells := 0, slots := 0, locals := 0 }
noncomputable def wp_X10_begin_b2 (post : Nat → Int32 → Int32 → Int32 → Int32 → Prop) (p1 p2 : Int32) (jY : Nat) (m_length qG uW eY : Int32) : Prop := post 2 p1 p2 0 (-1)
set_option maxHeartbeats 4000000 in
set_option maxRecDepth 100000 in
theorem c_X10_begin_b2 (l : Launch) (dC : Nat → ClassId) (dI : Nat → Nat → Nat) (cI cC cZ cB cJ : ClassId) (a_m oJ uD dY iJ lJ jQ jR jW jK pJ bM aY jO gR gY mK jZ iY bG mJ jB mQ lY eJ bY sz : Nat) (p1 p2 bW aG jG bQ dG : Int32) (jY : Nat) (m_length qG uW eY aJ aB bU dN aR aE bJ aW bT gJ dU bL bR bO mY pW : Int32) (post : Nat → Int32 → Int32 → Int32 → Int32 → Prop) (hw : wp_X10_begin_b2 post p1 p2 jY m_length qG uW eY) : Met l yX10_begin (gw yX10_begin cX10_begin 4 none) rm_X10_begin_b2 (va_Pc [.ref a_m, .ref jO, .int p1, .int p2] (gPre (dC, dI) (tyl cI cC cZ cB cJ) (wd_X10_begin_b2 cI cC cZ cB cJ a_m oJ uD dY iJ lJ jQ jR jW jK pJ bM aY jO gR gY mK jZ iY bG mJ jB mQ lY eJ bY bW aG jG bQ dG jY m_length qG uW eY aJ aB bU dN aR aE bJ aW bT gJ dU bL bR bO mY pW) sz)) (q_X10_begin_b2 dC dI cI cC cZ cB cJ (va_A (wd_X10_begin_b2 cI cC cZ cB cJ a_m oJ uD dY iJ lJ jQ jR jW jK pJ bM aY jO gR gY mK jZ iY bG mJ jB mQ lY eJ bY bW aG jG bQ dG jY m_length qG uW eY aJ aB bU dN aR aE bJ aW bT gJ dU bL bR bO mY pW) sz) a_m oJ uD dY iJ lJ jQ jR jW jK pJ bM aY jO gR gY mK jZ iY bG mJ jB mQ lY eJ bY bW aG jG bQ dG aJ aB bU dN aR aE bJ aW bT gJ dU bL bR bO mY pW post) 0 0 (va_A (wd_X10_begin_b2 cI cC cZ cB cJ a_m oJ uD dY iJ lJ jQ jR jW jK pJ bM aY jO gR gY mK jZ iY bG mJ jB mQ lY eJ bY bW aG jG bQ dG jY m_length qG uW eY aJ aB bU dN aR aE bJ aW bT gJ dU bL bR bO mY pW) sz) := by
  refine g_enter (own := RX10) (dC, dI) (tyl cI cC cZ cB cJ) (wd_X10_begin_b2 cI cC cZ cB cJ a_m oJ uD dY iJ lJ jQ jR jW jK pJ bM aY jO gR gY mK jZ iY bG mJ jB mQ lY eJ bY bW aG jG bQ dG jY m_length qG uW eY aJ aB bU dN aR aE bJ aW bT gJ dU bL bR bO mY pW) sz [.ref a_m, .ref jO, .int p1, .int p2] (fun A => q_X10_begin_b2 dC dI cI cC cZ cB cJ A a_m oJ uD dY iJ lJ jQ jR jW jK pJ bM aY jO gR gY mK jZ iY bG mJ jB mQ lY eJ bY bW aG jG bQ dG aJ aB bU dN aR aE bJ aW bT gJ dU bL bR bO mY pW post) pn_RX10 rfl (Nat.le_of_ble_eq_true rfl) ?_
  intro p e s m args below meth c A H locs ls C0 hP hD hS hl
  have hl : lv_has ls 4 [(0, .ref a_m), (1, .ref jO), (2, .int p1), (3, .int p2)] := hl
  obtain ⟨hx, hb, hr, hml, hown, hts, hlocks, hA, hK, hN, tL, tM, hZL, hTL, hZM, hTM, hZX⟩ := id C0
  have hp := hw
  unfold wp_X10_begin_b2 at hp
  refine lv_aload_n hx hb eX10_begin_0.1 rfl (lv_at hl 0 rfl) ?_
  refine lv_aload_n hx hb eX10_begin_0.2.1 rfl (lv_at hl 1 rfl) ?_
  refine va_put (D := (dC, dI)) (ci := 10) (v := .ref jO) (ty := .array .byte) (C := RX10) (T := TX10) (N := 51) hx hb hts i_X10 tyX10 tyX10_ok nmX10 hown hK hP hD hS 0 rfl rfl 15 (Nat.le_of_ble_eq_true rfl) (hts _ q_645) (fun _ h9 => h9) rfl (tyX10_ok 15 (Nat.le_of_ble_eq_true rfl)) rfl rfl (Nat.le_of_ble_eq_true rfl) eX10_begin_0.2.2.1 (fun H locs hP hD hS => ?_)
  have hP : va_P (dC, dI) classes (wd_X10_begin_b2 cI cC cZ cB cJ a_m oJ uD dY iJ lJ jQ jR jW jK pJ bM aY jO gR gY mK jZ iY bG mJ jB mQ lY eJ bY bW aG jG bQ dG 2 m_length qG uW eY aJ aB bU dN aR aE bJ aW bT gJ dU bL bR bO mY pW) H := hP
  have hD : va_D A (wd_X10_begin_b2 cI cC cZ cB cJ a_m oJ uD dY iJ lJ jQ jR jW jK pJ bM aY jO gR gY mK jZ iY bG mJ jB mQ lY eJ bY bW aG jG bQ dG 2 m_length qG uW eY aJ aB bU dN aR aE bJ aW bT gJ dU bL bR bO mY pW) := hD
  refine lv_aload_n hx hb eX10_begin_0.2.2.2.1 rfl (lv_at hl 0 rfl) ?_
  refine lv_iload_n hx hb eX10_begin_0.2.2.2.2.1 rfl (lv_at hl 2 rfl) ?_
  refine va_put (D := (dC, dI)) (ci := 10) (v := .int p1) (ty := .int) (C := RX10) (T := TX10) (N := 51) hx hb hts i_X10 tyX10 tyX10_ok nmX10 hown hK hP hD hS 0 rfl rfl 16 (Nat.le_of_ble_eq_true rfl) (hts _ q_646) (fun _ h9 => h9) rfl (tyX10_ok 16 (Nat.le_of_ble_eq_true rfl)) rfl rfl (Nat.le_of_ble_eq_true rfl) eX10_begin_0.2.2.2.2.2.1 (fun H locs hP hD hS => ?_)
  have hP : va_P (dC, dI) classes (wd_X10_begin_b2 cI cC cZ cB cJ a_m oJ uD dY iJ lJ jQ jR jW jK pJ bM aY jO gR gY mK jZ iY bG mJ jB mQ lY eJ bY bW aG jG bQ dG 2 p1 qG uW eY aJ aB bU dN aR aE bJ aW bT gJ dU bL bR bO mY pW) H := hP
  have hD : va_D A (wd_X10_begin_b2 cI cC cZ cB cJ a_m oJ uD dY iJ lJ jQ jR jW jK pJ bM aY jO gR gY mK jZ iY bG mJ jB mQ lY eJ bY bW aG jG bQ dG 2 p1 qG uW eY aJ aB bU dN aR aE bJ aW bT gJ dU bL bR bO mY pW) := hD
  refine lv_aload_n hx hb eX10_begin_0.2.2.2.2.2.2.1 rfl (lv_at hl 0 rfl) ?_
  refine lv_iload_n hx hb eX10_begin_0.2.2.2.2.2.2.2.1 rfl (lv_at hl 3 rfl) ?_
  refine va_put (D := (dC, dI)) (ci := 10) (v := .int p2) (ty := .int) (C := RX10) (T := TX10) (N := 51) hx hb hts i_X10 tyX10 tyX10_ok nmX10 hown hK hP hD hS 0 rfl rfl 17 (Nat.le_of_ble_eq_true rfl) (hts _ q_647) (fun _ h9 => h9) rfl (tyX10_ok 17 (Nat.le_of_ble_eq_true rfl)) rfl rfl (Nat.le_of_ble_eq_true rfl) eX10_begin_0.2.2.2.2.2.2.2.2.1 (fun H locs hP hD hS => ?_)
  have hP : va_P (dC, dI) classes (wd_X10_begin_b2 cI cC cZ cB cJ a_m oJ uD dY iJ lJ jQ jR jW jK pJ bM aY jO gR gY mK jZ iY bG mJ jB mQ lY eJ bY bW aG jG bQ dG 2 p1 p2 uW eY aJ aB bU dN aR aE bJ aW bT gJ dU bL bR bO mY pW) H := hP
  have hD : va_D A (wd_X10_begin_b2 cI cC cZ cB cJ a_m oJ uD dY iJ lJ jQ jR jW jK pJ bM aY jO gR gY mK jZ iY bG mJ jB mQ lY eJ bY bW aG jG bQ dG 2 p1 p2 uW eY aJ aB bU dN aR aE bJ aW bT gJ dU bL bR bO mY pW) := hD
  refine lv_aload_n hx hb eX10_begin_0.2.2.2.2.2.2.2.2.2.1 rfl (lv_at hl 0 rfl) ?_
  refine lv_iconst (v := 0) hx hb eX10_begin_0.2.2.2.2.2.2.2.2.2.2.1 ic_0 ?_
  refine va_put (D := (dC, dI)) (ci := 10) (v := .int 0) (ty := .int) (C := RX10) (T := TX10) (N := 51) hx hb hts i_X10 tyX10 tyX10_ok nmX10 hown hK hP hD hS 0 rfl rfl 18 (Nat.le_of_ble_eq_true rfl) (hts _ q_648) (fun _ h9 => h9) rfl (tyX10_ok 18 (Nat.le_of_ble_eq_true rfl)) rfl rfl (Nat.le_of_ble_eq_true rfl) eX10_begin_0.2.2.2.2.2.2.2.2.2.2.2.1 (fun H locs hP hD hS => ?_)
  have hP : va_P (dC, dI) classes (wd_X10_begin_b2 cI cC cZ cB cJ a_m oJ uD dY iJ lJ jQ jR jW jK pJ bM aY jO gR gY mK jZ iY bG mJ jB mQ lY eJ bY bW aG jG bQ dG 2 p1 p2 0 eY aJ aB bU dN aR aE bJ aW bT gJ dU bL bR bO mY pW) H := hP
  have hD : va_D A (wd_X10_begin_b2 cI cC cZ cB cJ a_m oJ uD dY iJ lJ jQ jR jW jK pJ bM aY jO gR gY mK jZ iY bG mJ jB mQ lY eJ bY bW aG jG bQ dG 2 p1 p2 0 eY aJ aB bU dN aR aE bJ aW bT gJ dU bL bR bO mY pW) := hD
  refine lv_aload_n hx hb eX10_begin_0.2.2.2.2.2.2.2.2.2.2.2.2.1 rfl (lv_at hl 0 rfl) ?_
  refine lv_iconst (v := (-1)) hx hb eX10_begin_0.2.2.2.2.2.2.2.2.2.2.2.2.2.1 ic_m1 ?_
  refine va_put (D := (dC, dI)) (ci := 10) (v := .int (-1)) (ty := .int) (C := RX10) (T := TX10) (N := 51) hx hb hts i_X10 tyX10 tyX10_ok nmX10 hown hK hP hD hS 0 rfl rfl 19 (Nat.le_of_ble_eq_true rfl) (hts _ q_649) (fun _ h9 => h9) rfl (tyX10_ok 19 (Nat.le_of_ble_eq_true rfl)) rfl rfl (Nat.le_of_ble_eq_true rfl) eX10_begin_0.2.2.2.2.2.2.2.2.2.2.2.2.2.2.1 (fun H locs hP hD hS => ?_)
  have hP : va_P (dC, dI) classes (wd_X10_begin_b2 cI cC cZ cB cJ a_m oJ uD dY iJ lJ jQ jR jW jK pJ bM aY jO gR gY mK jZ iY bG mJ jB mQ lY eJ bY bW aG jG bQ dG 2 p1 p2 0 (-1) aJ aB bU dN aR aE bJ aW bT gJ dU bL bR bO mY pW) H := hP
  have hD : va_D A (wd_X10_begin_b2 cI cC cZ cB cJ a_m oJ uD dY iJ lJ jQ jR jW jK pJ bM aY jO gR gY mK jZ iY bG mJ jB mQ lY eJ bY bW aG jG bQ dG 2 p1 p2 0 (-1) aJ aB bU dN aR aE bJ aW bT gJ dU bL bR bO mY pW) := hD
  exact W.vret hx hb hr (fun t ht hW => ⟨⟨(2, p1, p2, 0, (-1)), rfl, hp, by rw [ht]; exact hP, va_K.moved hW.alike hK, hD⟩, hS.F ht⟩) hS.2.2 eX10_begin_0.2.2.2.2.2.2.2.2.2.2.2.2.2.2.2
noncomputable abbrev wd_X10_secondsOf (cI cC cZ cB cJ : ClassId) (a_m oJ uD dY iJ lJ jQ jR jW jK pJ bM aY jO gR gY mK jZ iY bG mJ jB mQ lY eJ bY : Nat) (bW aG jG bQ dG : Int32) (jY : Nat) (m_length qG uW eY aJ aB bU dN aR aE bJ aW bT gJ dU bL bR bO mY pW : Int32) (m_x jA pY oY pR rG rQ : Nat → Int32) : va_W := [(a_m, .inr (10, [.ref oJ, .int bW, .ref uD, .ref dY, .ref iJ, .ref lJ, .int aG, .ref jQ, .ref jR, .ref jW, .ref jK, .int jG, .ref pJ, .int bQ, .int dG, rdv jK jO jY, .int m_length, .int qG, .int uW, .int eY, .ref bM, .ref aY, .int aJ, .int aB, .ref jO, .int bU, .int dN, .int aR, .int aE, .int bJ, .int aW, .ref gR, .int bT, .ref gY, .ref mK, .int gJ, .ref jZ, .int dU, .ref iY, .ref bG, .int bL, .int bR, .int bO, .ref mJ, .ref jB, .ref mQ, .int mY, .int pW, .ref lY, .ref eJ, .ref bY])), (uD, .inl (cI, 16, .inl m_x)), (dY, .inl (cI, 16, .inl jA)), (iJ, .inl (cI, 16, .inl pY)), (jQ, .inl (cI, 8, .inl oY)), (jR, .inl (cI, 8, .inl pR)), (jK, .inl (cB, 80, .inl rG)), (jO, .inl (cB, 40, .inl rQ))]
noncomputable abbrev q_X10_secondsOf (dC : Nat → ClassId) (dI : Nat → Nat → Nat) (cI cC cZ cB cJ : ClassId) (A : Nat → Prop) (a_m oJ uD dY iJ lJ jQ jR jW jK pJ bM aY jO gR gY mK jZ iY bG mJ jB mQ lY eJ bY : Nat) (bW aG jG bQ dG aJ aB bU bT gJ dU bL bR bO mY pW : Int32) (m_x jA pY oY pR rG rQ : Nat → Int32) (post : Int32 → Nat → Int32 → Int32 → Int32 → Int32 → Int32 → Int32 → Int32 → Int32 → Int32 → Prop) : Array Value → State → Outcome → State → Prop := va_Qi (fun (r : Int32) (u : Nat × Int32 × Int32 × Int32 × Int32 × Int32 × Int32 × Int32 × Int32 × Int32) => post r u.1 u.2.1 u.2.2.1 u.2.2.2.1 u.2.2.2.2.1 u.2.2.2.2.2.1 u.2.2.2.2.2.2.1 u.2.2.2.2.2.2.2.1 u.2.2.2.2.2.2.2.2.1 u.2.2.2.2.2.2.2.2.2) (fun u t => gB (dC, dI) (tyl cI cC cZ cB cJ) A (wd_X10_secondsOf cI cC cZ cB cJ a_m oJ uD dY iJ lJ jQ jR jW jK pJ bM aY jO gR gY mK jZ iY bG mJ jB mQ lY eJ bY bW aG jG bQ dG u.1 u.2.1 u.2.2.1 u.2.2.2.1 u.2.2.2.2.1 aJ aB bU u.2.2.2.2.2.1 u.2.2.2.2.2.2.1 u.2.2.2.2.2.2.2.1 u.2.2.2.2.2.2.2.2.1 u.2.2.2.2.2.2.2.2.2 bT gJ dU bL bR bO mY pW m_x jA pY oY pR rG rQ) t) A
noncomputable abbrev rm_X10_secondsOf : Room := { frames := 265, cells := 0, slots := 0, locals := 8757 }
section S_X10_secondsOf
variable {p : Program} {l : Launch} {e : Env} {s : State} {m : MethodId} {args : Array Value} {below : List Frame} {meth : Method} {c : Code} {dC : Nat → ClassId} {dI : Nat → Nat → Nat} {cI cC cZ cB cJ : ClassId} {A : Nat → Prop} {a_m oJ uD dY iJ lJ jQ jR jW jK pJ bM aY jO gR gY mK jZ iY bG mJ jB mQ lY eJ bY : Nat} {bW aG jG bQ dG aJ aB bU bT gJ dU bL bR bO mY pW : Int32} {m_x jA pY oY pR rG rQ : Nat → Int32} {post : Int32 → Nat → Int32 → Int32 → Int32 → Int32 → Int32 → Int32 → Int32 → Int32 → Int32 → Prop}
noncomputable def ws_X10_secondsOf_80 (post : Int32 → Nat → Int32 → Int32 → Int32 → Int32 → Int32 → Int32 → Int32 → Int32 → Int32 → Prop) (bU : Int32) (m_x jA pY oY pR rG rQ : Nat → Int32) (x5 : Int32) (jY : Nat) (m_length qG uW eY dN aR aE bJ aW : Int32) : Prop := ∀ v_5 : Int32, v_5 = (if x5 < 99 then x5 else 99) → ∀ v_6 : Int32, v_6 = (if 1 < v_5 then v_5 else 1) → post v_6 jY m_length qG uW eY dN aR aE bJ aW
set_option maxHeartbeats 4000000 in
set_option maxRecDepth 100000 in
theorem ks_X10_secondsOf_80 (C0 : gc cX10_secondsOf (some .int) 6 RX10 (dC, dI) (tyl cI cC cZ cB cJ) A p s m args meth c) : ∀ (x5 : Int32) (jY : Nat) (m_length qG uW eY dN aR aE bJ aW : Int32) (H : Heap) (locs : List Loc) (ls : Array Slot), (ws_X10_secondsOf_80 post bU m_x jA pY oY pR rG rQ) x5 jY m_length qG uW eY dN aR aE bJ aW → va_P (dC, dI) classes (wd_X10_secondsOf cI cC cZ cB cJ a_m oJ uD dY iJ lJ jQ jR jW jK pJ bM aY jO gR gY mK jZ iY bG mJ jB mQ lY eJ bY bW aG jG bQ dG jY m_length qG uW eY aJ aB bU dN aR aE bJ aW bT gJ dU bL bR bO mY pW m_x jA pY oY pR rG rQ) H → va_D A (wd_X10_secondsOf cI cC cZ cB cJ a_m oJ uD dY iJ lJ jQ jR jW jK pJ bM aY jO gR gY mK jZ iY bG mJ jB mQ lY eJ bY bW aG jG bQ dG jY m_length qG uW eY aJ aB bU dN aR aE bJ aW bT gJ dU bL bR bO mY pW m_x jA pY oY pR rG rQ) → va_S A s.heap H locs → lv_has ls 6 [(5, .int x5)] → W p l e rm_X10_secondsOf s m args below meth c H locs 0 0 (MQ below (q_X10_secondsOf dC dI cI cC cZ cB cJ A a_m oJ uD dY iJ lJ jQ jR jW jK pJ bM aY jO gR gY mK jZ iY bG mJ jB mQ lY eJ bY bW aG jG bQ dG aJ aB bU bT gJ dU bL bR bO mY pW m_x jA pY oY pR rG rQ post) args s 0 0 A) (F0 m 80 ls []) := by
  obtain ⟨hx, hb, hr, hml, hown, hts, hlocks, hA, hK, hN, tL, tM, hZL, hTL, hZM, hTM, hZX⟩ := id C0
  intro x5 jY m_length qG uW eY dN aR aE bJ aW H locs ls hp hP hD hS hl
  unfold ws_X10_secondsOf_80 at hp
  refine lv_iconst (v := 1) hx hb eX10_secondsOf_80.1 ic_1 ?_
  refine lv_bipush (v := 99) hx hb eX10_secondsOf_80.2.1 bp_99 ?_
  refine lv_iload hx hb eX10_secondsOf_80.2.2.1 (lv_at hl 0 rfl) ?_
  refine va_mmin hx hb (by rw [hml]; exact hl.1.symm) hown (hts _ q_766) (hts _ q_15) (hts _ q_16) (hts _ q_17) (Nat.le_of_ble_eq_true rfl) (Nat.le_of_ble_eq_true rfl) (Nat.zero_le _) (Nat.zero_le _) eX10_secondsOf_80.2.2.2.1 ?_
  refine lv_topi (fun v_5 ev_5 => ?_)
  have hp := hp v_5 ev_5
  refine va_mmax hx hb (by rw [hml]; exact hl.1.symm) hown (hts _ q_697) (hts _ q_134) (hts _ q_16) (hts _ q_135) (Nat.le_of_ble_eq_true rfl) (Nat.le_of_ble_eq_true rfl) (Nat.zero_le _) (Nat.zero_le _) eX10_secondsOf_80.2.2.2.2.1 ?_
  refine lv_topi (fun v_6 ev_6 => ?_)
  have hp := hp v_6 ev_6
  exact W.iret (v := v_6) hx hb hr (fun t ht hW => ⟨⟨v_6, (jY, m_length, qG, uW, eY, dN, aR, aE, bJ, aW), rfl, hp, by rw [ht]; exact hP, va_K.moved hW.alike hK, hD⟩, hS.F ht⟩) hS.2.2 eX10_secondsOf_80.2.2.2.2.2
end S_X10_secondsOf
noncomputable def wp_X10_secondsOf (post : Int32 → Nat → Int32 → Int32 → Int32 → Int32 → Int32 → Int32 → Int32 → Int32 → Int32 → Prop) (p0 p1 p2 p3 : Int32) (jY : Nat) (m_length qG uW eY bU dN aR aE bJ aW : Int32) (m_x jA pY oY pR rG rQ : Nat → Int32) : Prop := wp_X10_far (fun r_1 => ∀ v_2 : Int32, v_2 = 2 + (r_1 / 4) → wp_X10_above (fun r_3 => ∀ v_4 : Int32, v_4 = v_2 + (r_3 / 2) → (bU ≤ 0 → ws_X10_secondsOf_80 post bU m_x jA pY oY pR rG rQ v_4 jY m_length qG uW eY dN aR aE bJ aW) ∧ (¬ bU ≤ 0 → wp_X10_begin_b2 (fun aB6 aA0 aEE aB2 zZ => wp_X10_heldR (fun r_12 m_at_13 m_wrong_14 => ws_X10_secondsOf_80 post bU m_x jA pY oY pR rG rQ r_12 aB6 aA0 aEE m_at_13 m_wrong_14 0 p0 p1 p2 p3) 0 aB6 aA0 aEE aB2 zZ 1 p0 p1 p2 p3 m_x jA pY oY pR rG rQ) bU 40 jY m_length qG uW eY)) p0 p1 jA pR) p0 p1 m_x oY
set_option maxHeartbeats 4000000 in
set_option maxRecDepth 100000 in
theorem c_X10_secondsOf (l : Launch) (dC : Nat → ClassId) (dI : Nat → Nat → Nat) (cI cC cZ cB cJ : ClassId) (a_m oJ uD dY iJ lJ jQ jR jW jK pJ bM aY jO gR gY mK jZ iY bG mJ jB mQ lY eJ bY sz : Nat) (p0 p1 p2 p3 bW aG jG bQ dG : Int32) (jY : Nat) (m_length qG uW eY aJ aB bU dN aR aE bJ aW bT gJ dU bL bR bO mY pW : Int32) (m_x jA pY oY pR rG rQ : Nat → Int32) (post : Int32 → Nat → Int32 → Int32 → Int32 → Int32 → Int32 → Int32 → Int32 → Int32 → Int32 → Prop) (hw : wp_X10_secondsOf post p0 p1 p2 p3 jY m_length qG uW eY bU dN aR aE bJ aW m_x jA pY oY pR rG rQ) : Met l yX10_secondsOf (gw yX10_secondsOf cX10_secondsOf 6 (some .int)) rm_X10_secondsOf (va_Pc [.ref a_m, .int p0, .int p1, .int p2, .int p3] (gPre (dC, dI) (tyl cI cC cZ cB cJ) (wd_X10_secondsOf cI cC cZ cB cJ a_m oJ uD dY iJ lJ jQ jR jW jK pJ bM aY jO gR gY mK jZ iY bG mJ jB mQ lY eJ bY bW aG jG bQ dG jY m_length qG uW eY aJ aB bU dN aR aE bJ aW bT gJ dU bL bR bO mY pW m_x jA pY oY pR rG rQ) sz)) (q_X10_secondsOf dC dI cI cC cZ cB cJ (va_A (wd_X10_secondsOf cI cC cZ cB cJ a_m oJ uD dY iJ lJ jQ jR jW jK pJ bM aY jO gR gY mK jZ iY bG mJ jB mQ lY eJ bY bW aG jG bQ dG jY m_length qG uW eY aJ aB bU dN aR aE bJ aW bT gJ dU bL bR bO mY pW m_x jA pY oY pR rG rQ) sz) a_m oJ uD dY iJ lJ jQ jR jW jK pJ bM aY jO gR gY mK jZ iY bG mJ jB mQ lY eJ bY bW aG jG bQ dG aJ aB bU bT gJ dU bL bR bO mY pW m_x jA pY oY pR rG rQ post) 0 0 (va_A (wd_X10_secondsOf cI cC cZ cB cJ a_m oJ uD dY iJ lJ jQ jR jW jK pJ bM aY jO gR gY mK jZ iY bG mJ jB mQ lY eJ bY bW aG jG bQ dG jY m_length qG uW eY aJ aB bU dN aR aE bJ aW bT gJ dU bL bR bO mY pW m_x jA pY oY pR rG rQ) sz) := by
  refine g_enter (own := RX10) (dC, dI) (tyl cI cC cZ cB cJ) (wd_X10_secondsOf cI cC cZ cB cJ a_m oJ uD dY iJ lJ jQ jR jW jK pJ bM aY jO gR gY mK jZ iY bG mJ jB mQ lY eJ bY bW aG jG bQ dG jY m_length qG uW eY aJ aB bU dN aR aE bJ aW bT gJ dU bL bR bO mY pW m_x jA pY oY pR rG rQ) sz [.ref a_m, .int p0, .int p1, .int p2, .int p3] (fun A => q_X10_secondsOf dC dI cI cC cZ cB cJ A a_m oJ uD dY iJ lJ jQ jR jW jK pJ bM aY jO gR gY mK jZ iY bG mJ jB mQ lY eJ bY bW aG jG bQ dG aJ aB bU bT gJ dU bL bR bO mY pW m_x jA pY oY pR rG rQ post) pn_RX10 rfl (Nat.le_of_ble_eq_true rfl) ?_
  intro p e s m args below meth c A H locs ls C0 hP hD hS hl
  have hl : lv_has ls 6 [(0, .ref a_m), (1, .int p0), (2, .int p1), (3, .int p2), (4, .int p3)] := hl
  obtain ⟨hx, hb, hr, hml, hown, hts, hlocks, hA, hK, hN, tL, tM, hZL, hTL, hZM, hTM, hZX⟩ := id C0
  have hp := hw
  unfold wp_X10_secondsOf at hp
  refine lv_iconst (v := 2) hx hb eX10_secondsOf_0.1 ic_2 ?_
  refine lv_aload_n hx hb eX10_secondsOf_0.2.1 rfl (lv_at hl 0 rfl) ?_
  refine lv_iload_n hx hb eX10_secondsOf_0.2.2.1 rfl (lv_at hl 1 rfl) ?_
  refine lv_iload_n hx hb eX10_secondsOf_0.2.2.2.1 rfl (lv_at hl 2 rfl) ?_
  have hm := mgk (wc := (wd_X10_far cI cC cZ cB cJ a_m oJ uD dY iJ lJ jQ jR jW jK pJ bM aY jO gR gY mK jZ iY bG mJ jB mQ lY eJ bY bW aG jG bQ dG jY m_length qG uW eY aJ aB bU dN aR aE bJ aW bT gJ dU bL bR bO mY pW m_x oY)) hP mk_214 8 rfl rfl rfl
  refine g_calli hP hD hS hA (mixT mk_214) (mixF mk_214) hm.1 hm.2 (nd_F _) (dis_g _) (g_runV (As := [.int p0, .int p1]) (rest := [.int 2]) C0 hP hD hS (mixT mk_214) hm.1 (nd_T _) 0 10 rfl rfl (c_X10_far l dC dI cI cC cZ cB cJ a_m oJ uD dY iJ lJ jQ jR jW jK pJ bM aY jO gR gY mK jZ iY bG mJ jB mQ lY eJ bY H.size p0 p1 bW aG jG bQ dG jY m_length qG uW eY aJ aB bU dN aR aE bJ aW bT gJ dU bL bR bO mY pW m_x oY _ hp) q_701 q_704 q_702 q_703 q_642 h_X10_far rfl rfl ⟨Nat.le_of_ble_eq_true rfl, Nat.le_of_ble_eq_true rfl⟩ rfl rfl hl.1 rfl (lv_room (Nat.le_of_ble_eq_true rfl)) eX10_secondsOf_0.2.2.2.2.1 ⟨Nat.zero_le _, Nat.zero_le _⟩) (fun r_1 u H locs hp hP hD hS => ?_)
  have hPD := PDm (ws' := (wd_X10_secondsOf cI cC cZ cB cJ a_m oJ uD dY iJ lJ jQ jR jW jK pJ bM aY jO gR gY mK jZ iY bG mJ jB mQ lY eJ bY bW aG jG bQ dG jY m_length qG uW eY aJ aB bU dN aR aE bJ aW bT gJ dU bL bR bO mY pW m_x jA pY oY pR rG rQ)) hP hD 8 rfl rfl rfl
  have hP := hPD.1
  have hD := hPD.2
  refine lv_iconst (v := 4) hx hb eX10_secondsOf_0.2.2.2.2.2.1 ic_4 ?_
  refine lv_idiv hx hb eX10_secondsOf_0.2.2.2.2.2.2.1 (by decide) ?_
  refine lv_iadd hx hb eX10_secondsOf_0.2.2.2.2.2.2.2.1 ?_
  refine lv_topi (fun v_2 ev_2 => ?_)
  have hp := hp v_2 ev_2
  refine lv_aload_n hx hb eX10_secondsOf_0.2.2.2.2.2.2.2.2.1 rfl (lv_at hl 0 rfl) ?_
  refine lv_iload_n hx hb eX10_secondsOf_0.2.2.2.2.2.2.2.2.2.1 rfl (lv_at hl 1 rfl) ?_
  refine lv_iload_n hx hb eX10_secondsOf_0.2.2.2.2.2.2.2.2.2.2.1 rfl (lv_at hl 2 rfl) ?_
  have hm := mgk (wc := (wd_X10_above cI cC cZ cB cJ a_m oJ uD dY iJ lJ jQ jR jW jK pJ bM aY jO gR gY mK jZ iY bG mJ jB mQ lY eJ bY bW aG jG bQ dG jY m_length qG uW eY aJ aB bU dN aR aE bJ aW bT gJ dU bL bR bO mY pW jA pR)) hP mk_215 8 rfl rfl rfl
  refine g_calli hP hD hS hA (mixT mk_215) (mixF mk_215) hm.1 hm.2 (nd_F _) (dis_g _) (g_runV (As := [.int p0, .int p1]) (rest := [.int v_2]) C0 hP hD hS (mixT mk_215) hm.1 (nd_T _) 0 10 rfl rfl (c_X10_above l dC dI cI cC cZ cB cJ a_m oJ uD dY iJ lJ jQ jR jW jK pJ bM aY jO gR gY mK jZ iY bG mJ jB mQ lY eJ bY H.size p0 p1 bW aG jG bQ dG jY m_length qG uW eY aJ aB bU dN aR aE bJ aW bT gJ dU bL bR bO mY pW jA pR _ hp) q_706 q_709 q_707 q_708 q_642 h_X10_above rfl rfl ⟨Nat.le_of_ble_eq_true rfl, Nat.le_of_ble_eq_true rfl⟩ rfl rfl hl.1 rfl (lv_room (Nat.le_of_ble_eq_true rfl)) eX10_secondsOf_0.2.2.2.2.2.2.2.2.2.2.2.1 ⟨Nat.zero_le _, Nat.zero_le _⟩) (fun r_3 u H locs hp hP hD hS => ?_)
  have hPD := PDm (ws' := (wd_X10_secondsOf cI cC cZ cB cJ a_m oJ uD dY iJ lJ jQ jR jW jK pJ bM aY jO gR gY mK jZ iY bG mJ jB mQ lY eJ bY bW aG jG bQ dG jY m_length qG uW eY aJ aB bU dN aR aE bJ aW bT gJ dU bL bR bO mY pW m_x jA pY oY pR rG rQ)) hP hD 8 rfl rfl rfl
  have hP := hPD.1
  have hD := hPD.2
  refine lv_iconst (v := 2) hx hb eX10_secondsOf_0.2.2.2.2.2.2.2.2.2.2.2.2.1 ic_2 ?_
  refine lv_idiv hx hb eX10_secondsOf_0.2.2.2.2.2.2.2.2.2.2.2.2.2.1 (by decide) ?_
  refine lv_iadd hx hb eX10_secondsOf_0.2.2.2.2.2.2.2.2.2.2.2.2.2.2.1 ?_
  refine lv_topi (fun v_4 ev_4 => ?_)
  have hp := hp v_4 ev_4
  refine lv_istore (lv' := [(5, .int v_4), (0, .ref a_m), (1, .int p0), (2, .int p1), (3, .int p2), (4, .int p3)]) hx hb eX10_secondsOf_0.2.2.2.2.2.2.2.2.2.2.2.2.2.2.2 hl (by decide) rfl (fun ls hl => ?_)
  refine lv_aload_n hx hb eX10_secondsOf_21.1 rfl (lv_at hl 1 rfl) ?_
  refine va_get (D := (dC, dI)) (ci := 10) (v := .int bU) (C := RX10) (T := TX10) (N := 51) hx hb hts i_X10 hown hK hP 0 rfl rfl 25 (Nat.le_of_ble_eq_true rfl) (hts _ q_732) (fun _ h9 => h9) rfl eX10_secondsOf_21.2.1 ?_
  refine lv_if_le (tgt := 80) hx hb eX10_secondsOf_21.2.2.1 (by decide) (fun hc => ?_) (fun hc => ?_)
  · have hp := hp.1 hc
    exact ks_X10_secondsOf_80 C0 v_4 jY m_length qG uW eY dN aR aE bJ aW H locs ls hp hP hD hS (lv_sub hl [0] rfl)
  · have hp := hp.2 hc
    refine lv_aload_n hx hb eX10_secondsOf_21.2.2.2.1 rfl (lv_at hl 1 rfl) ?_
    refine lv_aload_n hx hb eX10_secondsOf_21.2.2.2.2.1 rfl (lv_at hl 1 rfl) ?_
    refine va_get (D := (dC, dI)) (ci := 10) (v := .ref jO) (C := RX10) (T := TX10) (N := 51) hx hb hts i_X10 hown hK hP 0 rfl rfl 24 (Nat.le_of_ble_eq_true rfl) (hts _ q_733) (fun _ h9 => h9) rfl eX10_secondsOf_21.2.2.2.2.2.1 ?_
    refine lv_aload_n hx hb eX10_secondsOf_21.2.2.2.2.2.2.1 rfl (lv_at hl 1 rfl) ?_
    refine va_get (D := (dC, dI)) (ci := 10) (v := .int bU) (C := RX10) (T := TX10) (N := 51) hx hb hts i_X10 hown hK hP 0 rfl rfl 25 (Nat.le_of_ble_eq_true rfl) (hts _ q_732) (fun _ h9 => h9) rfl eX10_secondsOf_21.2.2.2.2.2.2.2.1 ?_
    refine lv_bipush (v := 40) hx hb eX10_secondsOf_21.2.2.2.2.2.2.2.2.1 bp_40 ?_
    have hm := mgk (wc := (wd_X10_begin_b2 cI cC cZ cB cJ a_m oJ uD dY iJ lJ jQ jR jW jK pJ bM aY jO gR gY mK jZ iY bG mJ jB mQ lY eJ bY bW aG jG bQ dG jY m_length qG uW eY aJ aB bU dN aR aE bJ aW bT gJ dU bL bR bO mY pW)) hP aBV 8 rfl rfl rfl
    refine g_callv hP hD hS hA (mixT aBV) (mixF aBV) hm.1 hm.2 (nd_F _) (dis_g _) (g_runV (As := [.ref jO, .int bU, .int 40]) (rest := []) C0 hP hD hS (mixT aBV) hm.1 (nd_T _) 0 10 rfl rfl (c_X10_begin_b2 l dC dI cI cC cZ cB cJ a_m oJ uD dY iJ lJ jQ jR jW jK pJ bM aY jO gR gY mK jZ iY bG mJ jB mQ lY eJ bY H.size bU 40 bW aG jG bQ dG jY m_length qG uW eY aJ aB bU dN aR aE bJ aW bT gJ dU bL bR bO mY pW _ hp) q_680 q_683 q_681 q_682 q_642 h_X10_begin rfl rfl ⟨Nat.le_of_ble_eq_true rfl, Nat.le_of_ble_eq_true rfl⟩ rfl rfl hl.1 rfl (lv_room (Nat.le_of_ble_eq_true rfl)) eX10_secondsOf_21.2.2.2.2.2.2.2.2.2.1 ⟨Nat.zero_le _, Nat.zero_le _⟩) (fun u H locs hp hP hD hS => ?_)
    obtain ⟨aB6, aA0, aEE, aB2, zZ⟩ := u
    have hPD := PDm (ws' := (wd_X10_secondsOf cI cC cZ cB cJ a_m oJ uD dY iJ lJ jQ jR jW jK pJ bM aY jO gR gY mK jZ iY bG mJ jB mQ lY eJ bY bW aG jG bQ dG aB6 aA0 aEE aB2 zZ aJ aB bU dN aR aE bJ aW bT gJ dU bL bR bO mY pW m_x jA pY oY pR rG rQ)) hP hD 8 rfl rfl rfl
    have hP := hPD.1
    have hD := hPD.2
    refine lv_aload_n hx hb eX10_secondsOf_21.2.2.2.2.2.2.2.2.2.2.1 rfl (lv_at hl 1 rfl) ?_
    refine lv_iconst (v := 1) hx hb eX10_secondsOf_21.2.2.2.2.2.2.2.2.2.2.2.1 ic_1 ?_
    refine va_put (D := (dC, dI)) (ci := 10) (v := .int 1) (ty := .boolean) (C := RX10) (T := TX10) (N := 51) hx hb hts i_X10 tyX10 tyX10_ok nmX10 hown hK hP hD hS 0 rfl rfl 26 (Nat.le_of_ble_eq_true rfl) (hts _ q_711) (fun _ h9 => h9) rfl (tyX10_ok 26 (Nat.le_of_ble_eq_true rfl)) rfl rfl (Nat.le_of_ble_eq_true rfl) eX10_secondsOf_21.2.2.2.2.2.2.2.2.2.2.2.2.1 (fun H locs hP hD hS => ?_)
    have hP : va_P (dC, dI) classes (wd_X10_secondsOf cI cC cZ cB cJ a_m oJ uD dY iJ lJ jQ jR jW jK pJ bM aY jO gR gY mK jZ iY bG mJ jB mQ lY eJ bY bW aG jG bQ dG aB6 aA0 aEE aB2 zZ aJ aB bU 1 aR aE bJ aW bT gJ dU bL bR bO mY pW m_x jA pY oY pR rG rQ) H := hP
    have hD : va_D A (wd_X10_secondsOf cI cC cZ cB cJ a_m oJ uD dY iJ lJ jQ jR jW jK pJ bM aY jO gR gY mK jZ iY bG mJ jB mQ lY eJ bY bW aG jG bQ dG aB6 aA0 aEE aB2 zZ aJ aB bU 1 aR aE bJ aW bT gJ dU bL bR bO mY pW m_x jA pY oY pR rG rQ) := hD
    refine lv_aload_n hx hb eX10_secondsOf_21.2.2.2.2.2.2.2.2.2.2.2.2.2.1 rfl (lv_at hl 1 rfl) ?_
    refine lv_iload_n hx hb eX10_secondsOf_21.2.2.2.2.2.2.2.2.2.2.2.2.2.2.1 rfl (lv_at hl 2 rfl) ?_
    refine va_put (D := (dC, dI)) (ci := 10) (v := .int p0) (ty := .int) (C := RX10) (T := TX10) (N := 51) hx hb hts i_X10 tyX10 tyX10_ok nmX10 hown hK hP hD hS 0 rfl rfl 27 (Nat.le_of_ble_eq_true rfl) (hts _ q_699) (fun _ h9 => h9) rfl (tyX10_ok 27 (Nat.le_of_ble_eq_true rfl)) rfl rfl (Nat.le_of_ble_eq_true rfl) eX10_secondsOf_21.2.2.2.2.2.2.2.2.2.2.2.2.2.2.2 (fun H locs hP hD hS => ?_)
    have hP : va_P (dC, dI) classes (wd_X10_secondsOf cI cC cZ cB cJ a_m oJ uD dY iJ lJ jQ jR jW jK pJ bM aY jO gR gY mK jZ iY bG mJ jB mQ lY eJ bY bW aG jG bQ dG aB6 aA0 aEE aB2 zZ aJ aB bU 1 p0 aE bJ aW bT gJ dU bL bR bO mY pW m_x jA pY oY pR rG rQ) H := hP
    have hD : va_D A (wd_X10_secondsOf cI cC cZ cB cJ a_m oJ uD dY iJ lJ jQ jR jW jK pJ bM aY jO gR gY mK jZ iY bG mJ jB mQ lY eJ bY bW aG jG bQ dG aB6 aA0 aEE aB2 zZ aJ aB bU 1 p0 aE bJ aW bT gJ dU bL bR bO mY pW m_x jA pY oY pR rG rQ) := hD
    refine lv_aload_n hx hb eX10_secondsOf_52.1 rfl (lv_at hl 1 rfl) ?_
    refine lv_iload_n hx hb eX10_secondsOf_52.2.1 rfl (lv_at hl 3 rfl) ?_
    refine va_put (D := (dC, dI)) (ci := 10) (v := .int p1) (ty := .int) (C := RX10) (T := TX10) (N := 51) hx hb hts i_X10 tyX10 tyX10_ok nmX10 hown hK hP hD hS 0 rfl rfl 28 (Nat.le_of_ble_eq_true rfl) (hts _ q_700) (fun _ h9 => h9) rfl (tyX10_ok 28 (Nat.le_of_ble_eq_true rfl)) rfl rfl (Nat.le_of_ble_eq_true rfl) eX10_secondsOf_52.2.2.1 (fun H locs hP hD hS => ?_)
    have hP : va_P (dC, dI) classes (wd_X10_secondsOf cI cC cZ cB cJ a_m oJ uD dY iJ lJ jQ jR jW jK pJ bM aY jO gR gY mK jZ iY bG mJ jB mQ lY eJ bY bW aG jG bQ dG aB6 aA0 aEE aB2 zZ aJ aB bU 1 p0 p1 bJ aW bT gJ dU bL bR bO mY pW m_x jA pY oY pR rG rQ) H := hP
    have hD : va_D A (wd_X10_secondsOf cI cC cZ cB cJ a_m oJ uD dY iJ lJ jQ jR jW jK pJ bM aY jO gR gY mK jZ iY bG mJ jB mQ lY eJ bY bW aG jG bQ dG aB6 aA0 aEE aB2 zZ aJ aB bU 1 p0 p1 bJ aW bT gJ dU bL bR bO mY pW m_x jA pY oY pR rG rQ) := hD
    refine lv_aload_n hx hb eX10_secondsOf_52.2.2.2.1 rfl (lv_at hl 1 rfl) ?_
    refine lv_iload_n hx hb eX10_secondsOf_52.2.2.2.2.1 rfl (lv_at hl 4 rfl) ?_
    refine va_put (D := (dC, dI)) (ci := 10) (v := .int p2) (ty := .int) (C := RX10) (T := TX10) (N := 51) hx hb hts i_X10 tyX10 tyX10_ok nmX10 hown hK hP hD hS 0 rfl rfl 29 (Nat.le_of_ble_eq_true rfl) (hts _ q_710) (fun _ h9 => h9) rfl (tyX10_ok 29 (Nat.le_of_ble_eq_true rfl)) rfl rfl (Nat.le_of_ble_eq_true rfl) eX10_secondsOf_52.2.2.2.2.2.1 (fun H locs hP hD hS => ?_)
    have hP : va_P (dC, dI) classes (wd_X10_secondsOf cI cC cZ cB cJ a_m oJ uD dY iJ lJ jQ jR jW jK pJ bM aY jO gR gY mK jZ iY bG mJ jB mQ lY eJ bY bW aG jG bQ dG aB6 aA0 aEE aB2 zZ aJ aB bU 1 p0 p1 p2 aW bT gJ dU bL bR bO mY pW m_x jA pY oY pR rG rQ) H := hP
    have hD : va_D A (wd_X10_secondsOf cI cC cZ cB cJ a_m oJ uD dY iJ lJ jQ jR jW jK pJ bM aY jO gR gY mK jZ iY bG mJ jB mQ lY eJ bY bW aG jG bQ dG aB6 aA0 aEE aB2 zZ aJ aB bU 1 p0 p1 p2 aW bT gJ dU bL bR bO mY pW m_x jA pY oY pR rG rQ) := hD
    refine lv_aload_n hx hb eX10_secondsOf_52.2.2.2.2.2.2.1 rfl (lv_at hl 1 rfl) ?_
    refine lv_iload hx hb eX10_secondsOf_52.2.2.2.2.2.2.2.1 (lv_at hl 5 rfl) ?_
    refine va_put (D := (dC, dI)) (ci := 10) (v := .int p3) (ty := .int) (C := RX10) (T := TX10) (N := 51) hx hb hts i_X10 tyX10 tyX10_ok nmX10 hown hK hP hD hS 0 rfl rfl 30 (Nat.le_of_ble_eq_true rfl) (hts _ q_705) (fun _ h9 => h9) rfl (tyX10_ok 30 (Nat.le_of_ble_eq_true rfl)) rfl rfl (Nat.le_of_ble_eq_true rfl) eX10_secondsOf_52.2.2.2.2.2.2.2.2.1 (fun H locs hP hD hS => ?_)
    have hP : va_P (dC, dI) classes (wd_X10_secondsOf cI cC cZ cB cJ a_m oJ uD dY iJ lJ jQ jR jW jK pJ bM aY jO gR gY mK jZ iY bG mJ jB mQ lY eJ bY bW aG jG bQ dG aB6 aA0 aEE aB2 zZ aJ aB bU 1 p0 p1 p2 p3 bT gJ dU bL bR bO mY pW m_x jA pY oY pR rG rQ) H := hP
    have hD : va_D A (wd_X10_secondsOf cI cC cZ cB cJ a_m oJ uD dY iJ lJ jQ jR jW jK pJ bM aY jO gR gY mK jZ iY bG mJ jB mQ lY eJ bY bW aG jG bQ dG aB6 aA0 aEE aB2 zZ aJ aB bU 1 p0 p1 p2 p3 bT gJ dU bL bR bO mY pW m_x jA pY oY pR rG rQ) := hD
    refine lv_aload_n hx hb eX10_secondsOf_52.2.2.2.2.2.2.2.2.2.1 rfl (lv_at hl 1 rfl) ?_
    refine lv_iconst (v := 0) hx hb eX10_secondsOf_52.2.2.2.2.2.2.2.2.2.2.1 ic_0 ?_
    have hm := mgk (wc := (wd_X10_heldR cI cC cZ cB cJ a_m oJ uD dY iJ lJ jQ jR jW jK pJ bM aY jO gR gY mK jZ iY bG mJ jB mQ lY eJ bY bW aG jG bQ dG aB6 aA0 aEE aB2 zZ aJ aB bU 1 p0 p1 p2 p3 bT gJ dU bL bR bO mY pW m_x jA pY oY pR rG rQ)) hP aAY 8 rfl rfl rfl
    refine g_calli hP hD hS hA (mixT aAY) (mixF aAY) hm.1 hm.2 (nd_F _) (dis_g _) (g_runV (As := [.int 0]) (rest := []) C0 hP hD hS (mixT aAY) hm.1 (nd_T _) 0 10 rfl rfl (c_X10_heldR l dC dI cI cC cZ cB cJ a_m oJ uD dY iJ lJ jQ jR jW jK pJ bM aY jO gR gY mK jZ iY bG mJ jB mQ lY eJ bY H.size 0 bW aG jG bQ dG aB6 aA0 aEE aB2 zZ aJ aB bU 1 p0 p1 p2 p3 bT gJ dU bL bR bO mY pW m_x jA pY oY pR rG rQ _ hp) q_716 q_719 q_717 q_718 q_642 h_X10_held rfl rfl ⟨Nat.le_of_ble_eq_true rfl, Nat.le_of_ble_eq_true rfl⟩ rfl rfl hl.1 rfl (lv_room (Nat.le_of_ble_eq_true rfl)) eX10_secondsOf_52.2.2.2.2.2.2.2.2.2.2.2.1 ⟨Nat.zero_le _, Nat.zero_le _⟩) (fun r_12 u H locs hp hP hD hS => ?_)
    obtain ⟨m_at_13, m_wrong_14⟩ := u
    have hPD := PDm (ws' := (wd_X10_secondsOf cI cC cZ cB cJ a_m oJ uD dY iJ lJ jQ jR jW jK pJ bM aY jO gR gY mK jZ iY bG mJ jB mQ lY eJ bY bW aG jG bQ dG aB6 aA0 aEE m_at_13 m_wrong_14 aJ aB bU 1 p0 p1 p2 p3 bT gJ dU bL bR bO mY pW m_x jA pY oY pR rG rQ)) hP hD 8 rfl rfl rfl
    have hP := hPD.1
    have hD := hPD.2
    refine lv_istore (lv' := [(5, .int r_12), (0, .ref a_m), (1, .int p0), (2, .int p1), (3, .int p2), (4, .int p3)]) hx hb eX10_secondsOf_52.2.2.2.2.2.2.2.2.2.2.2.2.1 hl (by decide) rfl (fun ls hl => ?_)
    refine lv_aload_n hx hb eX10_secondsOf_52.2.2.2.2.2.2.2.2.2.2.2.2.2.1 rfl (lv_at hl 1 rfl) ?_
    refine lv_iconst (v := 0) hx hb eX10_secondsOf_52.2.2.2.2.2.2.2.2.2.2.2.2.2.2.1 ic_0 ?_
    refine va_put (D := (dC, dI)) (ci := 10) (v := .int 0) (ty := .boolean) (C := RX10) (T := TX10) (N := 51) hx hb hts i_X10 tyX10 tyX10_ok nmX10 hown hK hP hD hS 0 rfl rfl 26 (Nat.le_of_ble_eq_true rfl) (hts _ q_711) (fun _ h9 => h9) rfl (tyX10_ok 26 (Nat.le_of_ble_eq_true rfl)) rfl rfl (Nat.le_of_ble_eq_true rfl) eX10_secondsOf_52.2.2.2.2.2.2.2.2.2.2.2.2.2.2.2 (fun H locs hP hD hS => ?_)
    have hP : va_P (dC, dI) classes (wd_X10_secondsOf cI cC cZ cB cJ a_m oJ uD dY iJ lJ jQ jR jW jK pJ bM aY jO gR gY mK jZ iY bG mJ jB mQ lY eJ bY bW aG jG bQ dG aB6 aA0 aEE m_at_13 m_wrong_14 aJ aB bU 0 p0 p1 p2 p3 bT gJ dU bL bR bO mY pW m_x jA pY oY pR rG rQ) H := hP
    have hD : va_D A (wd_X10_secondsOf cI cC cZ cB cJ a_m oJ uD dY iJ lJ jQ jR jW jK pJ bM aY jO gR gY mK jZ iY bG mJ jB mQ lY eJ bY bW aG jG bQ dG aB6 aA0 aEE m_at_13 m_wrong_14 aJ aB bU 0 p0 p1 p2 p3 bT gJ dU bL bR bO mY pW m_x jA pY oY pR rG rQ) := hD
    exact ks_X10_secondsOf_80 C0 r_12 aB6 aA0 aEE m_at_13 m_wrong_14 0 p0 p1 p2 p3 H locs ls hp hP hD hS (lv_sub hl [0] rfl)
noncomputable abbrev wd_X10_goPick (cI cC cZ cB cJ : ClassId) (a_m oJ uD dY iJ lJ jQ jR jW jK pJ bM aY jO gR gY mK jZ iY bG mJ jB mQ lY eJ bY : Nat) (bW aG jG bQ dG : Int32) (jY : Nat) (m_length qG uW eY aJ aB bU dN aR aE bJ aW bT gJ dU bL bR bO mY pW : Int32) (rD m_x jA pY oY pR rG rQ : Nat → Int32) : va_W := [(a_m, .inr (10, [.ref oJ, .int bW, .ref uD, .ref dY, .ref iJ, .ref lJ, .int aG, .ref jQ, .ref jR, .ref jW, .ref jK, .int jG, .ref pJ, .int bQ, .int dG, rdv jK jO jY, .int m_length, .int qG, .int uW, .int eY, .ref bM, .ref aY, .int aJ, .int aB, .ref jO, .int bU, .int dN, .int aR, .int aE, .int bJ, .int aW, .ref gR, .int bT, .ref gY, .ref mK, .int gJ, .ref jZ, .int dU, .ref iY, .ref bG, .int bL, .int bR, .int bO, .ref mJ, .ref jB, .ref mQ, .int mY, .int pW, .ref lY, .ref eJ, .ref bY])), (oJ, .inl (cI, 21, .inl rD)), (uD, .inl (cI, 16, .inl m_x)), (dY, .inl (cI, 16, .inl jA)), (iJ, .inl (cI, 16, .inl pY)), (jQ, .inl (cI, 8, .inl oY)), (jR, .inl (cI, 8, .inl pR)), (jK, .inl (cB, 80, .inl rG)), (jO, .inl (cB, 40, .inl rQ))]
noncomputable abbrev q_X10_goPick (dC : Nat → ClassId) (dI : Nat → Nat → Nat) (cI cC cZ cB cJ : ClassId) (A : Nat → Prop) (a_m oJ uD dY iJ lJ jQ jR jW jK pJ bM aY jO gR gY mK jZ iY bG mJ jB mQ lY eJ bY : Nat) (bW aG jG bQ dG aJ aB bU bT gJ dU bL bR bO mY pW : Int32) (m_x jA pY oY pR rG rQ : Nat → Int32) (post : Int32 → Nat → Int32 → Int32 → Int32 → Int32 → Int32 → Int32 → Int32 → Int32 → Int32 → (Nat → Int32) → Prop) : Array Value → State → Outcome → State → Prop := va_Qi (fun (r : Int32) (u : Nat × Int32 × Int32 × Int32 × Int32 × Int32 × Int32 × Int32 × Int32 × Int32 × (Nat → Int32)) => post r u.1 u.2.1 u.2.2.1 u.2.2.2.1 u.2.2.2.2.1 u.2.2.2.2.2.1 u.2.2.2.2.2.2.1 u.2.2.2.2.2.2.2.1 u.2.2.2.2.2.2.2.2.1 u.2.2.2.2.2.2.2.2.2.1 u.2.2.2.2.2.2.2.2.2.2) (fun u t => gB (dC, dI) (tyl cI cC cZ cB cJ) A (wd_X10_goPick cI cC cZ cB cJ a_m oJ uD dY iJ lJ jQ jR jW jK pJ bM aY jO gR gY mK jZ iY bG mJ jB mQ lY eJ bY bW aG jG bQ dG u.1 u.2.1 u.2.2.1 u.2.2.2.1 u.2.2.2.2.1 aJ aB bU u.2.2.2.2.2.1 u.2.2.2.2.2.2.1 u.2.2.2.2.2.2.2.1 u.2.2.2.2.2.2.2.2.1 u.2.2.2.2.2.2.2.2.2.1 bT gJ dU bL bR bO mY pW u.2.2.2.2.2.2.2.2.2.2 m_x jA pY oY pR rG rQ) t) A
noncomputable abbrev rm_X10_goPick : Room := { frames := 266, cells := 0, slots := 0, locals := 8782 }
noncomputable def wp_X10_goPick (post : Int32 → Nat → Int32 → Int32 → Int32 → Int32 → Int32 → Int32 → Int32 → Int32 → Int32 → (Nat → Int32) → Prop) (p0 p1 bW : Int32) (jY : Nat) (m_length qG uW eY bU dN aR aE bJ aW : Int32) (rD m_x jA pY oY pR rG rQ : Nat → Int32) : Prop := ∀ v_1 : Int32, v_1 = rD (17 : Int32).toNatClampNeg → wp_X10_which (fun r_2 => wp_J6_bitCount_0f7a4 (fun r_3 => wp_X10_secondsOf (fun r_4 aAA zQ aA6 aBm zO yR yD xV yL yF => ∀ v_15 : Int32, v_15 = rD (16 : Int32).toNatClampNeg → wp_X10_which (fun r_16 => wp_X10_below (fun r_17 => ∀ v_18 : Int32, v_18 = v_15 ||| r_17 → vp_in p0 21 ∧ (wp_X10_passBy (fun m_now_19 => post r_4 aAA zQ aA6 aBm zO yR yD xV yL yF m_now_19) r_4 (upd (upd rD (16 : Int32).toNatClampNeg v_18) p0.toNatClampNeg 1))) p0 r_16 bW m_x jA) 0 bW rD) p0 v_1 p1 r_3 jY m_length qG uW eY bU dN aR aE bJ aW m_x jA pY oY pR rG rQ) r_2) 1 bW rD
set_option maxHeartbeats 4000000 in
set_option maxRecDepth 100000 in
theorem c_X10_goPick (l : Launch) (dC : Nat → ClassId) (dI : Nat → Nat → Nat) (cI cC cZ cB cJ : ClassId) (a_m oJ uD dY iJ lJ jQ jR jW jK pJ bM aY jO gR gY mK jZ iY bG mJ jB mQ lY eJ bY sz : Nat) (p0 p1 bW aG jG bQ dG : Int32) (jY : Nat) (m_length qG uW eY aJ aB bU dN aR aE bJ aW bT gJ dU bL bR bO mY pW : Int32) (rD m_x jA pY oY pR rG rQ : Nat → Int32) (post : Int32 → Nat → Int32 → Int32 → Int32 → Int32 → Int32 → Int32 → Int32 → Int32 → Int32 → (Nat → Int32) → Prop) (hw : wp_X10_goPick post p0 p1 bW jY m_length qG uW eY bU dN aR aE bJ aW rD m_x jA pY oY pR rG rQ) : Met l yX10_goPick (gw yX10_goPick cX10_goPick 4 (some .int)) rm_X10_goPick (va_Pc [.ref a_m, .int p0, .int p1] (gPre (dC, dI) (tyl cI cC cZ cB cJ) (wd_X10_goPick cI cC cZ cB cJ a_m oJ uD dY iJ lJ jQ jR jW jK pJ bM aY jO gR gY mK jZ iY bG mJ jB mQ lY eJ bY bW aG jG bQ dG jY m_length qG uW eY aJ aB bU dN aR aE bJ aW bT gJ dU bL bR bO mY pW rD m_x jA pY oY pR rG rQ) sz)) (q_X10_goPick dC dI cI cC cZ cB cJ (va_A (wd_X10_goPick cI cC cZ cB cJ a_m oJ uD dY iJ lJ jQ jR jW jK pJ bM aY jO gR gY mK jZ iY bG mJ jB mQ lY eJ bY bW aG jG bQ dG jY m_length qG uW eY aJ aB bU dN aR aE bJ aW bT gJ dU bL bR bO mY pW rD m_x jA pY oY pR rG rQ) sz) a_m oJ uD dY iJ lJ jQ jR jW jK pJ bM aY jO gR gY mK jZ iY bG mJ jB mQ lY eJ bY bW aG jG bQ dG aJ aB bU bT gJ dU bL bR bO mY pW m_x jA pY oY pR rG rQ post) 0 0 (va_A (wd_X10_goPick cI cC cZ cB cJ a_m oJ uD dY iJ lJ jQ jR jW jK pJ bM aY jO gR gY mK jZ iY bG mJ jB mQ lY eJ bY bW aG jG bQ dG jY m_length qG uW eY aJ aB bU dN aR aE bJ aW bT gJ dU bL bR bO mY pW rD m_x jA pY oY pR rG rQ) sz) := by
  refine g_enter (own := RX10) (dC, dI) (tyl cI cC cZ cB cJ) (wd_X10_goPick cI cC cZ cB cJ a_m oJ uD dY iJ lJ jQ jR jW jK pJ bM aY jO gR gY mK jZ iY bG mJ jB mQ lY eJ bY bW aG jG bQ dG jY m_length qG uW eY aJ aB bU dN aR aE bJ aW bT gJ dU bL bR bO mY pW rD m_x jA pY oY pR rG rQ) sz [.ref a_m, .int p0, .int p1] (fun A => q_X10_goPick dC dI cI cC cZ cB cJ A a_m oJ uD dY iJ lJ jQ jR jW jK pJ bM aY jO gR gY mK jZ iY bG mJ jB mQ lY eJ bY bW aG jG bQ dG aJ aB bU bT gJ dU bL bR bO mY pW m_x jA pY oY pR rG rQ post) pn_RX10 rfl (Nat.le_of_ble_eq_true rfl) ?_
  intro p e s m args below meth c A H locs ls C0 hP hD hS hl
  have hl : lv_has ls 4 [(0, .ref a_m), (1, .int p0), (2, .int p1)] := hl
  obtain ⟨hx, hb, hr, hml, hown, hts, hlocks, hA, hK, hN, tL, tM, hZL, hTL, hZM, hTM, hZX⟩ := id C0
  have hp := hw
  unfold wp_X10_goPick at hp
  refine lv_aload_n hx hb eX10_goPick_0.1 rfl (lv_at hl 0 rfl) ?_
  refine lv_iload_n hx hb eX10_goPick_0.2.1 rfl (lv_at hl 1 rfl) ?_
  refine lv_aload_n hx hb eX10_goPick_0.2.2.1 rfl (lv_at hl 0 rfl) ?_
  refine va_get (D := (dC, dI)) (ci := 10) (v := .ref oJ) (C := RX10) (T := TX10) (N := 51) hx hb hts i_X10 hown hK hP 0 rfl rfl 0 (Nat.le_of_ble_eq_true rfl) (hts _ q_692) (fun _ h9 => h9) rfl eX10_goPick_0.2.2.2.1 ?_
  refine lv_bipush (v := 17) hx hb eX10_goPick_0.2.2.2.2.1 bp_17 ?_
  refine va_iald hx hb hK hP 1 0 rfl rfl (g_in rfl) eX10_goPick_0.2.2.2.2.2.1 ?_
  refine lv_topi (fun v_1 ev_1 => ?_)
  have hp := hp v_1 ev_1
  refine lv_iload_n hx hb eX10_goPick_0.2.2.2.2.2.2.1 rfl (lv_at hl 2 rfl) ?_
  refine lv_aload_n hx hb eX10_goPick_0.2.2.2.2.2.2.2.1 rfl (lv_at hl 0 rfl) ?_
  refine lv_aload_n hx hb eX10_goPick_0.2.2.2.2.2.2.2.2.1 rfl (lv_at hl 0 rfl) ?_
  refine va_get (D := (dC, dI)) (ci := 10) (v := .ref oJ) (C := RX10) (T := TX10) (N := 51) hx hb hts i_X10 hown hK hP 0 rfl rfl 0 (Nat.le_of_ble_eq_true rfl) (hts _ q_692) (fun _ h9 => h9) rfl eX10_goPick_0.2.2.2.2.2.2.2.2.2.1 ?_
  refine lv_iconst (v := 1) hx hb eX10_goPick_0.2.2.2.2.2.2.2.2.2.2.1 ic_1 ?_
  have hm := mgk (wc := (wd_X10_which cI cC cZ cB cJ a_m oJ uD dY iJ lJ jQ jR jW jK pJ bM aY jO gR gY mK jZ iY bG mJ jB mQ lY eJ bY bW aG jG bQ dG jY m_length qG uW eY aJ aB bU dN aR aE bJ aW bT gJ dU bL bR bO mY pW rD)) hP mk_5 9 rfl rfl rfl
  refine g_calli hP hD hS hA (mixT mk_5) (mixF mk_5) hm.1 hm.2 (nd_F _) (dis_g _) (g_runV (As := [.ref oJ, .int 1]) (rest := [.int p1, .int v_1, .int p0, .ref a_m]) C0 hP hD hS (mixT mk_5) hm.1 (nd_T _) 0 10 rfl rfl (c_X10_which l dC dI cI cC cZ cB cJ a_m oJ uD dY iJ lJ jQ jR jW jK pJ bM aY jO gR gY mK jZ iY bG mJ jB mQ lY eJ bY H.size 1 bW aG jG bQ dG jY m_length qG uW eY aJ aB bU dN aR aE bJ aW bT gJ dU bL bR bO mY pW rD _ hp) q_749 q_752 q_750 q_751 q_642 h_X10_which rfl rfl ⟨Nat.le_of_ble_eq_true rfl, Nat.le_of_ble_eq_true rfl⟩ rfl rfl hl.1 rfl (lv_room (Nat.le_of_ble_eq_true rfl)) eX10_goPick_0.2.2.2.2.2.2.2.2.2.2.2.1 ⟨Nat.zero_le _, Nat.zero_le _⟩) (fun r_2 u H locs hp hP hD hS => ?_)
  have hPD := PDm (ws' := (wd_X10_goPick cI cC cZ cB cJ a_m oJ uD dY iJ lJ jQ jR jW jK pJ bM aY jO gR gY mK jZ iY bG mJ jB mQ lY eJ bY bW aG jG bQ dG jY m_length qG uW eY aJ aB bU dN aR aE bJ aW bT gJ dU bL bR bO mY pW rD m_x jA pY oY pR rG rQ)) hP hD 9 rfl rfl rfl
  have hP := hPD.1
  have hD := hPD.2
  have hm := mgk (wc := (wd_J6_bitCount_0f7a4 cI cC cZ cB cJ)) hP mk_76 9 rfl rfl rfl
  refine g_calli hP hD hS hA (mixT mk_76) (mixF mk_76) hm.1 hm.2 (nd_F _) (dis_g _) (g_runS (As := [.int r_2]) (rest := [.int p1, .int v_1, .int p0, .ref a_m]) C0 hP hD hS (mixT mk_76) hm.1 (nd_T _) (c_J6_bitCount_0f7a4 l dC dI cI cC cZ cB cJ H.size r_2 _ hp) q_320 q_803 q_322 q_321 h_J6_bitCount_0f7a4 rfl rfl ⟨Nat.le_of_ble_eq_true rfl, Nat.le_of_ble_eq_true rfl⟩ rfl rfl hl.1 rfl (lv_room (Nat.le_of_ble_eq_true rfl)) eX10_goPick_0.2.2.2.2.2.2.2.2.2.2.2.2.1 ⟨Nat.zero_le _, Nat.zero_le _⟩) (fun r_3 u H locs hp hP hD hS => ?_)
  have hPD := PDm (ws' := (wd_X10_goPick cI cC cZ cB cJ a_m oJ uD dY iJ lJ jQ jR jW jK pJ bM aY jO gR gY mK jZ iY bG mJ jB mQ lY eJ bY bW aG jG bQ dG jY m_length qG uW eY aJ aB bU dN aR aE bJ aW bT gJ dU bL bR bO mY pW rD m_x jA pY oY pR rG rQ)) hP hD 9 rfl rfl rfl
  have hP := hPD.1
  have hD := hPD.2
  have hm := mgk (wc := (wd_X10_secondsOf cI cC cZ cB cJ a_m oJ uD dY iJ lJ jQ jR jW jK pJ bM aY jO gR gY mK jZ iY bG mJ jB mQ lY eJ bY bW aG jG bQ dG jY m_length qG uW eY aJ aB bU dN aR aE bJ aW bT gJ dU bL bR bO mY pW m_x jA pY oY pR rG rQ)) hP mk_216 9 rfl rfl rfl
  refine g_calli hP hD hS hA (mixT mk_216) (mixF mk_216) hm.1 hm.2 (nd_F _) (dis_g _) (g_runV (As := [.int p0, .int v_1, .int p1, .int r_3]) (rest := []) C0 hP hD hS (mixT mk_216) hm.1 (nd_T _) 0 10 rfl rfl (c_X10_secondsOf l dC dI cI cC cZ cB cJ a_m oJ uD dY iJ lJ jQ jR jW jK pJ bM aY jO gR gY mK jZ iY bG mJ jB mQ lY eJ bY H.size p0 v_1 p1 r_3 bW aG jG bQ dG jY m_length qG uW eY aJ aB bU dN aR aE bJ aW bT gJ dU bL bR bO mY pW m_x jA pY oY pR rG rQ _ hp) q_804 q_807 q_805 q_806 q_642 h_X10_secondsOf rfl rfl ⟨Nat.le_of_ble_eq_true rfl, Nat.le_of_ble_eq_true rfl⟩ rfl rfl hl.1 rfl (lv_room (Nat.le_of_ble_eq_true rfl)) eX10_goPick_0.2.2.2.2.2.2.2.2.2.2.2.2.2.1 ⟨Nat.zero_le _, Nat.zero_le _⟩) (fun r_4 u H locs hp hP hD hS => ?_)
  obtain ⟨aAA, zQ, aA6, aBm, zO, yR, yD, xV, yL, yF⟩ := u
  have hPD := PDm (ws' := (wd_X10_goPick cI cC cZ cB cJ a_m oJ uD dY iJ lJ jQ jR jW jK pJ bM aY jO gR gY mK jZ iY bG mJ jB mQ lY eJ bY bW aG jG bQ dG aAA zQ aA6 aBm zO aJ aB bU yR yD xV yL yF bT gJ dU bL bR bO mY pW rD m_x jA pY oY pR rG rQ)) hP hD 9 rfl rfl rfl
  have hP := hPD.1
  have hD := hPD.2
  refine lv_istore_n (lv' := [(3, .int r_4), (0, .ref a_m), (1, .int p0), (2, .int p1)]) hx hb eX10_goPick_0.2.2.2.2.2.2.2.2.2.2.2.2.2.2.1 rfl hl (by decide) rfl (fun ls hl => ?_)
  refine lv_aload_n hx hb eX10_goPick_0.2.2.2.2.2.2.2.2.2.2.2.2.2.2.2 rfl (lv_at hl 1 rfl) ?_
  refine va_get (D := (dC, dI)) (ci := 10) (v := .ref oJ) (C := RX10) (T := TX10) (N := 51) hx hb hts i_X10 hown hK hP 0 rfl rfl 0 (Nat.le_of_ble_eq_true rfl) (hts _ q_692) (fun _ h9 => h9) rfl eX10_goPick_27.1 ?_
  refine lv_bipush (v := 16) hx hb eX10_goPick_27.2.1 bp_16 ?_
  refine lv_dup2_11 hx hb eX10_goPick_27.2.2.1 rfl rfl ?_
  refine va_iald hx hb hK hP 1 0 rfl rfl (g_in rfl) eX10_goPick_27.2.2.2.1 ?_
  refine lv_topi (fun v_15 ev_15 => ?_)
  have hp := hp v_15 ev_15
  refine lv_aload_n hx hb eX10_goPick_27.2.2.2.2.1 rfl (lv_at hl 1 rfl) ?_
  refine lv_iload_n hx hb eX10_goPick_27.2.2.2.2.2.1 rfl (lv_at hl 2 rfl) ?_
  refine lv_aload_n hx hb eX10_goPick_27.2.2.2.2.2.2.1 rfl (lv_at hl 1 rfl) ?_
  refine lv_aload_n hx hb eX10_goPick_27.2.2.2.2.2.2.2.1 rfl (lv_at hl 1 rfl) ?_
  refine va_get (D := (dC, dI)) (ci := 10) (v := .ref oJ) (C := RX10) (T := TX10) (N := 51) hx hb hts i_X10 hown hK hP 0 rfl rfl 0 (Nat.le_of_ble_eq_true rfl) (hts _ q_692) (fun _ h9 => h9) rfl eX10_goPick_27.2.2.2.2.2.2.2.2.1 ?_
  refine lv_iconst (v := 0) hx hb eX10_goPick_27.2.2.2.2.2.2.2.2.2.1 ic_0 ?_
  have hm := mgk (wc := (wd_X10_which cI cC cZ cB cJ a_m oJ uD dY iJ lJ jQ jR jW jK pJ bM aY jO gR gY mK jZ iY bG mJ jB mQ lY eJ bY bW aG jG bQ dG aAA zQ aA6 aBm zO aJ aB bU yR yD xV yL yF bT gJ dU bL bR bO mY pW rD)) hP mk_5 9 rfl rfl rfl
  refine g_calli hP hD hS hA (mixT mk_5) (mixF mk_5) hm.1 hm.2 (nd_F _) (dis_g _) (g_runV (As := [.ref oJ, .int 0]) (rest := [.int p0, .ref a_m, .int v_15, .int 16, .ref oJ]) C0 hP hD hS (mixT mk_5) hm.1 (nd_T _) 0 10 rfl rfl (c_X10_which l dC dI cI cC cZ cB cJ a_m oJ uD dY iJ lJ jQ jR jW jK pJ bM aY jO gR gY mK jZ iY bG mJ jB mQ lY eJ bY H.size 0 bW aG jG bQ dG aAA zQ aA6 aBm zO aJ aB bU yR yD xV yL yF bT gJ dU bL bR bO mY pW rD _ hp) q_749 q_752 q_750 q_751 q_642 h_X10_which rfl rfl ⟨Nat.le_of_ble_eq_true rfl, Nat.le_of_ble_eq_true rfl⟩ rfl rfl hl.1 rfl (lv_room (Nat.le_of_ble_eq_true rfl)) eX10_goPick_27.2.2.2.2.2.2.2.2.2.2.1 ⟨Nat.zero_le _, Nat.zero_le _⟩) (fun r_16 u H locs hp hP hD hS => ?_)
  have hPD := PDm (ws' := (wd_X10_goPick cI cC cZ cB cJ a_m oJ uD dY iJ lJ jQ jR jW jK pJ bM aY jO gR gY mK jZ iY bG mJ jB mQ lY eJ bY bW aG jG bQ dG aAA zQ aA6 aBm zO aJ aB bU yR yD xV yL yF bT gJ dU bL bR bO mY pW rD m_x jA pY oY pR rG rQ)) hP hD 9 rfl rfl rfl
  have hP := hPD.1
  have hD := hPD.2
  have hm := mgk (wc := (wd_X10_below cI cC cZ cB cJ a_m oJ uD dY iJ lJ jQ jR jW jK pJ bM aY jO gR gY mK jZ iY bG mJ jB mQ lY eJ bY bW aG jG bQ dG aAA zQ aA6 aBm zO aJ aB bU yR yD xV yL yF bT gJ dU bL bR bO mY pW m_x jA)) hP mk_217 9 rfl rfl rfl
  refine g_calli hP hD hS hA (mixT mk_217) (mixF mk_217) hm.1 hm.2 (nd_F _) (dis_g _) (g_runV (As := [.int p0, .int r_16]) (rest := [.int v_15, .int 16, .ref oJ]) C0 hP hD hS (mixT mk_217) hm.1 (nd_T _) 0 10 rfl rfl (c_X10_below l dC dI cI cC cZ cB cJ a_m oJ uD dY iJ lJ jQ jR jW jK pJ bM aY jO gR gY mK jZ iY bG mJ jB mQ lY eJ bY H.size p0 r_16 bW aG jG bQ dG aAA zQ aA6 aBm zO aJ aB bU yR yD xV yL yF bT gJ dU bL bR bO mY pW m_x jA _ hp) q_753 q_756 q_754 q_755 q_642 h_X10_below rfl rfl ⟨Nat.le_of_ble_eq_true rfl, Nat.le_of_ble_eq_true rfl⟩ rfl rfl hl.1 rfl (lv_room (Nat.le_of_ble_eq_true rfl)) eX10_goPick_27.2.2.2.2.2.2.2.2.2.2.2.1 ⟨Nat.zero_le _, Nat.zero_le _⟩) (fun r_17 u H locs hp hP hD hS => ?_)
  have hPD := PDm (ws' := (wd_X10_goPick cI cC cZ cB cJ a_m oJ uD dY iJ lJ jQ jR jW jK pJ bM aY jO gR gY mK jZ iY bG mJ jB mQ lY eJ bY bW aG jG bQ dG aAA zQ aA6 aBm zO aJ aB bU yR yD xV yL yF bT gJ dU bL bR bO mY pW rD m_x jA pY oY pR rG rQ)) hP hD 9 rfl rfl rfl
  have hP := hPD.1
  have hD := hPD.2
  refine lv_ior hx hb eX10_goPick_27.2.2.2.2.2.2.2.2.2.2.2.2.1 ?_
  refine lv_topi (fun v_18 ev_18 => ?_)
  have hp := hp v_18 ev_18
  refine va_iast hx hb hK hP hD hS 1 0 rfl rfl (g_in rfl) eX10_goPick_27.2.2.2.2.2.2.2.2.2.2.2.2.2.1 (fun H locs hP hD hS => ?_)
  have hP : va_P (dC, dI) classes (wd_X10_goPick cI cC cZ cB cJ a_m oJ uD dY iJ lJ jQ jR jW jK pJ bM aY jO gR gY mK jZ iY bG mJ jB mQ lY eJ bY bW aG jG bQ dG aAA zQ aA6 aBm zO aJ aB bU yR yD xV yL yF bT gJ dU bL bR bO mY pW (upd rD (16 : Int32).toNatClampNeg v_18) m_x jA pY oY pR rG rQ) H := hP
  have hD : va_D A (wd_X10_goPick cI cC cZ cB cJ a_m oJ uD dY iJ lJ jQ jR jW jK pJ bM aY jO gR gY mK jZ iY bG mJ jB mQ lY eJ bY bW aG jG bQ dG aAA zQ aA6 aBm zO aJ aB bU yR yD xV yL yF bT gJ dU bL bR bO mY pW (upd rD (16 : Int32).toNatClampNeg v_18) m_x jA pY oY pR rG rQ) := hD
  refine lv_aload_n hx hb eX10_goPick_27.2.2.2.2.2.2.2.2.2.2.2.2.2.2.1 rfl (lv_at hl 1 rfl) ?_
  refine va_get (D := (dC, dI)) (ci := 10) (v := .ref oJ) (C := RX10) (T := TX10) (N := 51) hx hb hts i_X10 hown hK hP 0 rfl rfl 0 (Nat.le_of_ble_eq_true rfl) (hts _ q_692) (fun _ h9 => h9) rfl eX10_goPick_27.2.2.2.2.2.2.2.2.2.2.2.2.2.2.2 ?_
  refine lv_iload_n hx hb eX10_goPick_54.1 rfl (lv_at hl 2 rfl) ?_
  refine lv_iconst (v := 1) hx hb eX10_goPick_54.2.1 ic_1 ?_
  have hin := hp.1
  have hp := hp.2
  refine va_iast hx hb hK hP hD hS 1 0 rfl rfl hin eX10_goPick_54.2.2.1 (fun H locs hP hD hS => ?_)
  have hP : va_P (dC, dI) classes (wd_X10_goPick cI cC cZ cB cJ a_m oJ uD dY iJ lJ jQ jR jW jK pJ bM aY jO gR gY mK jZ iY bG mJ jB mQ lY eJ bY bW aG jG bQ dG aAA zQ aA6 aBm zO aJ aB bU yR yD xV yL yF bT gJ dU bL bR bO mY pW (upd (upd rD (16 : Int32).toNatClampNeg v_18) p0.toNatClampNeg 1) m_x jA pY oY pR rG rQ) H := hP
  have hD : va_D A (wd_X10_goPick cI cC cZ cB cJ a_m oJ uD dY iJ lJ jQ jR jW jK pJ bM aY jO gR gY mK jZ iY bG mJ jB mQ lY eJ bY bW aG jG bQ dG aAA zQ aA6 aBm zO aJ aB bU yR yD xV yL yF bT gJ dU bL bR bO mY pW (upd (upd rD (16 : Int32).toNatClampNeg v_18) p0.toNatClampNeg 1) m_x jA pY oY pR rG rQ) := hD
  refine lv_aload_n hx hb eX10_goPick_54.2.2.2.1 rfl (lv_at hl 1 rfl) ?_
  refine lv_iload_n hx hb eX10_goPick_54.2.2.2.2.1 rfl (lv_at hl 0 rfl) ?_
  have hm := mgk (wc := (wd_X10_passBy cI cC cZ cB cJ a_m oJ uD dY iJ lJ jQ jR jW jK pJ bM aY jO gR gY mK jZ iY bG mJ jB mQ lY eJ bY bW aG jG bQ dG aAA zQ aA6 aBm zO aJ aB bU yR yD xV yL yF bT gJ dU bL bR bO mY pW (upd (upd rD (16 : Int32).toNatClampNeg v_18) p0.toNatClampNeg 1))) hP mk_5 9 rfl rfl rfl
  refine g_callv hP hD hS hA (mixT mk_5) (mixF mk_5) hm.1 hm.2 (nd_F _) (dis_g _) (g_runV (As := [.int r_4]) (rest := []) C0 hP hD hS (mixT mk_5) hm.1 (nd_T _) 0 10 rfl rfl (c_X10_passBy l dC dI cI cC cZ cB cJ a_m oJ uD dY iJ lJ jQ jR jW jK pJ bM aY jO gR gY mK jZ iY bG mJ jB mQ lY eJ bY H.size r_4 bW aG jG bQ dG aAA zQ aA6 aBm zO aJ aB bU yR yD xV yL yF bT gJ dU bL bR bO mY pW (upd (upd rD (16 : Int32).toNatClampNeg v_18) p0.toNatClampNeg 1) _ hp) q_779 q_782 q_780 q_781 q_642 h_X10_passBy rfl rfl ⟨Nat.le_of_ble_eq_true rfl, Nat.le_of_ble_eq_true rfl⟩ rfl rfl hl.1 rfl (lv_room (Nat.le_of_ble_eq_true rfl)) eX10_goPick_54.2.2.2.2.2.1 ⟨Nat.zero_le _, Nat.zero_le _⟩) (fun u H locs hp hP hD hS => ?_)
  obtain ⟨m_now_19, rfl⟩ : ∃ z, z = u := ⟨_, rfl⟩
  have hPD := PDm (ws' := (wd_X10_goPick cI cC cZ cB cJ a_m oJ uD dY iJ lJ jQ jR jW jK pJ bM aY jO gR gY mK jZ iY bG mJ jB mQ lY eJ bY bW aG jG bQ dG aAA zQ aA6 aBm zO aJ aB bU yR yD xV yL yF bT gJ dU bL bR bO mY pW m_now_19 m_x jA pY oY pR rG rQ)) hP hD 9 rfl rfl rfl
  have hP := hPD.1
  have hD := hPD.2
  refine lv_iload_n hx hb eX10_goPick_54.2.2.2.2.2.2.1 rfl (lv_at hl 0 rfl) ?_
  exact W.iret (v := r_4) hx hb hr (fun t ht hW => ⟨⟨r_4, (aAA, zQ, aA6, aBm, zO, yR, yD, xV, yL, yF, m_now_19), rfl, hp, by rw [ht]; exact hP, va_K.moved hW.alike hK, hD⟩, hS.F ht⟩) hS.2.2 eX10_goPick_54.2.2.2.2.2.2.2
noncomputable abbrev wd_X10_pick (cI cC cZ cB cJ : ClassId) (a_m oJ uD dY iJ lJ jQ jR jW jK pJ bM aY jO gR gY mK jZ iY bG mJ jB mQ lY eJ bY : Nat) (bW aG jG bQ dG : Int32) (jY : Nat) (m_length qG uW eY aJ aB bU dN aR aE bJ aW bT gJ dU bL bR bO mY pW : Int32) (rD m_x jA pY rW oY pR pX rG rQ uQ : Nat → Int32) : va_W := [(a_m, .inr (10, [.ref oJ, .int bW, .ref uD, .ref dY, .ref iJ, .ref lJ, .int aG, .ref jQ, .ref jR, .ref jW, .ref jK, .int jG, .ref pJ, .int bQ, .int dG, rdv jK jO jY, .int m_length, .int qG, .int uW, .int eY, .ref bM, .ref aY, .int aJ, .int aB, .ref jO, .int bU, .int dN, .int aR, .int aE, .int bJ, .int aW, .ref gR, .int bT, .ref gY, .ref mK, .int gJ, .ref jZ, .int dU, .ref iY, .ref bG, .int bL, .int bR, .int bO, .ref mJ, .ref jB, .ref mQ, .int mY, .int pW, .ref lY, .ref eJ, .ref bY])), (oJ, .inl (cI, 21, .inl rD)), (uD, .inl (cI, 16, .inl m_x)), (dY, .inl (cI, 16, .inl jA)), (iJ, .inl (cI, 16, .inl pY)), (lJ, .inl (cI, 16, .inl rW)), (jQ, .inl (cI, 8, .inl oY)), (jR, .inl (cI, 8, .inl pR)), (jW, .inl (cI, 5, .inl pX)), (jK, .inl (cB, 80, .inl rG)), (jO, .inl (cB, 40, .inl rQ)), (gR, .inl (cI, 252, .inl uQ))]
noncomputable abbrev q_X10_pick (dC : Nat → ClassId) (dI : Nat → Nat → Nat) (cI cC cZ cB cJ : ClassId) (A : Nat → Prop) (a_m oJ uD dY iJ lJ jQ jR jW jK pJ bM aY jO gR gY mK jZ iY bG mJ jB mQ lY eJ bY : Nat) (bW aG jG bQ aJ aB bU gJ dU bL bR bO mY pW : Int32) (m_x jA pY rW oY pR pX rG rQ : Nat → Int32) (post : Int32 → Int32 → Nat → Int32 → Int32 → Int32 → Int32 → Int32 → Int32 → Int32 → Int32 → Int32 → Int32 → (Nat → Int32) → (Nat → Int32) → Prop) : Array Value → State → Outcome → State → Prop := va_Qi (fun (r : Int32) (u : Int32 × Nat × Int32 × Int32 × Int32 × Int32 × Int32 × Int32 × Int32 × Int32 × Int32 × Int32 × (Nat → Int32) × (Nat → Int32)) => post r u.1 u.2.1 u.2.2.1 u.2.2.2.1 u.2.2.2.2.1 u.2.2.2.2.2.1 u.2.2.2.2.2.2.1 u.2.2.2.2.2.2.2.1 u.2.2.2.2.2.2.2.2.1 u.2.2.2.2.2.2.2.2.2.1 u.2.2.2.2.2.2.2.2.2.2.1 u.2.2.2.2.2.2.2.2.2.2.2.1 u.2.2.2.2.2.2.2.2.2.2.2.2.1 u.2.2.2.2.2.2.2.2.2.2.2.2.2) (fun u t => gB (dC, dI) (tyl cI cC cZ cB cJ) A (wd_X10_pick cI cC cZ cB cJ a_m oJ uD dY iJ lJ jQ jR jW jK pJ bM aY jO gR gY mK jZ iY bG mJ jB mQ lY eJ bY bW aG jG bQ u.1 u.2.1 u.2.2.1 u.2.2.2.1 u.2.2.2.2.1 u.2.2.2.2.2.1 aJ aB bU u.2.2.2.2.2.2.1 u.2.2.2.2.2.2.2.1 u.2.2.2.2.2.2.2.2.1 u.2.2.2.2.2.2.2.2.2.1 u.2.2.2.2.2.2.2.2.2.2.1 u.2.2.2.2.2.2.2.2.2.2.2.1 gJ dU bL bR bO mY pW u.2.2.2.2.2.2.2.2.2.2.2.2.1 m_x jA pY rW oY pR pX rG rQ u.2.2.2.2.2.2.2.2.2.2.2.2.2) t) A
noncomputable abbrev rm_X10_pick : Room := { frames := 267, cells := 0, slots := 0, locals := 8805 }
noncomputable def wp_X10_pick (post : Int32 → Int32 → Nat → Int32 → Int32 → Int32 → Int32 → Int32 → Int32 → Int32 → Int32 → Int32 → Int32 → (Nat → Int32) → (Nat → Int32) → Prop) (p0 p1 bW dG : Int32) (jY : Nat) (m_length qG uW eY bU dN aR aE bJ aW bT : Int32) (rD m_x jA pY rW oY pR pX rG rQ uQ : Nat → Int32) : Prop := wp_X10_refusesPick (fun r_1 => (0 ≤ r_1 → wp_X10_remember (fun xZ zU => wp_X10_goPick (fun r_4 aAA zQ aA6 aBm zO yR yD xV yL yF m_now_15 => post r_4 0 aAA zQ aA6 aBm zO yR yD xV yL yF xZ m_now_15 zU) p0 p1 bW jY m_length qG uW eY bU dN aR aE bJ aW rD m_x jA pY oY pR rG rQ) bT rD uQ) ∧ (¬ 0 ≤ r_1 → post r_1 0 jY m_length qG uW eY dN aR aE bJ aW bT rD uQ)) p0 p1 bW rD m_x jA rW oY pR pX
set_option maxHeartbeats 4000000 in
set_option maxRecDepth 100000 in
theorem c_X10_pick (l : Launch) (dC : Nat → ClassId) (dI : Nat → Nat → Nat) (cI cC cZ cB cJ : ClassId) (a_m oJ uD dY iJ lJ jQ jR jW jK pJ bM aY jO gR gY mK jZ iY bG mJ jB mQ lY eJ bY sz : Nat) (p0 p1 bW aG jG bQ dG : Int32) (jY : Nat) (m_length qG uW eY aJ aB bU dN aR aE bJ aW bT gJ dU bL bR bO mY pW : Int32) (rD m_x jA pY rW oY pR pX rG rQ uQ : Nat → Int32) (post : Int32 → Int32 → Nat → Int32 → Int32 → Int32 → Int32 → Int32 → Int32 → Int32 → Int32 → Int32 → Int32 → (Nat → Int32) → (Nat → Int32) → Prop) (hw : wp_X10_pick post p0 p1 bW dG jY m_length qG uW eY bU dN aR aE bJ aW bT rD m_x jA pY rW oY pR pX rG rQ uQ) : Met l yX10_pick (gw yX10_pick cX10_pick 4 (some .int)) rm_X10_pick (va_Pc [.ref a_m, .int p0, .int p1] (gPre (dC, dI) (tyl cI cC cZ cB cJ) (wd_X10_pick cI cC cZ cB cJ a_m oJ uD dY iJ lJ jQ jR jW jK pJ bM aY jO gR gY mK jZ iY bG mJ jB mQ lY eJ bY bW aG jG bQ dG jY m_length qG uW eY aJ aB bU dN aR aE bJ aW bT gJ dU bL bR bO mY pW rD m_x jA pY rW oY pR pX rG rQ uQ) sz)) (q_X10_pick dC dI cI cC cZ cB cJ (va_A (wd_X10_pick cI cC cZ cB cJ a_m oJ uD dY iJ lJ jQ jR jW jK pJ bM aY jO gR gY mK jZ iY bG mJ jB mQ lY eJ bY bW aG jG bQ dG jY m_length qG uW eY aJ aB bU dN aR aE bJ aW bT gJ dU bL bR bO mY pW rD m_x jA pY rW oY pR pX rG rQ uQ) sz) a_m oJ uD dY iJ lJ jQ jR jW jK pJ bM aY jO gR gY mK jZ iY bG mJ jB mQ lY eJ bY bW aG jG bQ aJ aB bU gJ dU bL bR bO mY pW m_x jA pY rW oY pR pX rG rQ post) 0 0 (va_A (wd_X10_pick cI cC cZ cB cJ a_m oJ uD dY iJ lJ jQ jR jW jK pJ bM aY jO gR gY mK jZ iY bG mJ jB mQ lY eJ bY bW aG jG bQ dG jY m_length qG uW eY aJ aB bU dN aR aE bJ aW bT gJ dU bL bR bO mY pW rD m_x jA pY rW oY pR pX rG rQ uQ) sz) := by
  refine g_enter (own := RX10) (dC, dI) (tyl cI cC cZ cB cJ) (wd_X10_pick cI cC cZ cB cJ a_m oJ uD dY iJ lJ jQ jR jW jK pJ bM aY jO gR gY mK jZ iY bG mJ jB mQ lY eJ bY bW aG jG bQ dG jY m_length qG uW eY aJ aB bU dN aR aE bJ aW bT gJ dU bL bR bO mY pW rD m_x jA pY rW oY pR pX rG rQ uQ) sz [.ref a_m, .int p0, .int p1] (fun A => q_X10_pick dC dI cI cC cZ cB cJ A a_m oJ uD dY iJ lJ jQ jR jW jK pJ bM aY jO gR gY mK jZ iY bG mJ jB mQ lY eJ bY bW aG jG bQ aJ aB bU gJ dU bL bR bO mY pW m_x jA pY rW oY pR pX rG rQ post) pn_RX10 rfl (Nat.le_of_ble_eq_true rfl) ?_
  intro p e s m args below meth c A H locs ls C0 hP hD hS hl
  have hl : lv_has ls 4 [(0, .ref a_m), (1, .int p0), (2, .int p1)] := hl
  obtain ⟨hx, hb, hr, hml, hown, hts, hlocks, hA, hK, hN, tL, tM, hZL, hTL, hZM, hTM, hZX⟩ := id C0
  have hp := hw
  unfold wp_X10_pick at hp
  refine lv_aload_n hx hb eX10_pick_0.1 rfl (lv_at hl 0 rfl) ?_
  refine lv_iconst (v := 0) hx hb eX10_pick_0.2.1 ic_0 ?_
  refine va_put (D := (dC, dI)) (ci := 10) (v := .int 0) (ty := .int) (C := RX10) (T := TX10) (N := 51) hx hb hts i_X10 tyX10 tyX10_ok nmX10 hown hK hP hD hS 0 rfl rfl 14 (Nat.le_of_ble_eq_true rfl) (hts _ q_638) (fun _ h9 => h9) rfl (tyX10_ok 14 (Nat.le_of_ble_eq_true rfl)) rfl rfl (Nat.le_of_ble_eq_true rfl) eX10_pick_0.2.2.1 (fun H locs hP hD hS => ?_)
  have hP : va_P (dC, dI) classes (wd_X10_pick cI cC cZ cB cJ a_m oJ uD dY iJ lJ jQ jR jW jK pJ bM aY jO gR gY mK jZ iY bG mJ jB mQ lY eJ bY bW aG jG bQ 0 jY m_length qG uW eY aJ aB bU dN aR aE bJ aW bT gJ dU bL bR bO mY pW rD m_x jA pY rW oY pR pX rG rQ uQ) H := hP
  have hD : va_D A (wd_X10_pick cI cC cZ cB cJ a_m oJ uD dY iJ lJ jQ jR jW jK pJ bM aY jO gR gY mK jZ iY bG mJ jB mQ lY eJ bY bW aG jG bQ 0 jY m_length qG uW eY aJ aB bU dN aR aE bJ aW bT gJ dU bL bR bO mY pW rD m_x jA pY rW oY pR pX rG rQ uQ) := hD
  refine lv_aload_n hx hb eX10_pick_0.2.2.2.1 rfl (lv_at hl 0 rfl) ?_
  refine lv_iload_n hx hb eX10_pick_0.2.2.2.2.1 rfl (lv_at hl 1 rfl) ?_
  refine lv_iload_n hx hb eX10_pick_0.2.2.2.2.2.1 rfl (lv_at hl 2 rfl) ?_
  have hm := mgk (wc := (wd_X10_refusesPick cI cC cZ cB cJ a_m oJ uD dY iJ lJ jQ jR jW jK pJ bM aY jO gR gY mK jZ iY bG mJ jB mQ lY eJ bY bW aG jG bQ 0 jY m_length qG uW eY aJ aB bU dN aR aE bJ aW bT gJ dU bL bR bO mY pW rD m_x jA rW oY pR pX)) hP mk_218 12 rfl rfl rfl
  refine g_calli hP hD hS hA (mixT mk_218) (mixF mk_218) hm.1 hm.2 (nd_F _) (dis_g _) (g_runV (As := [.int p0, .int p1]) (rest := []) C0 hP hD hS (mixT mk_218) hm.1 (nd_T _) 0 10 rfl rfl (c_X10_refusesPick l dC dI cI cC cZ cB cJ a_m oJ uD dY iJ lJ jQ jR jW jK pJ bM aY jO gR gY mK jZ iY bG mJ jB mQ lY eJ bY H.size p0 p1 bW aG jG bQ 0 jY m_length qG uW eY aJ aB bU dN aR aE bJ aW bT gJ dU bL bR bO mY pW rD m_x jA rW oY pR pX _ hp) q_808 q_811 q_809 q_810 q_642 h_X10_refusesPick rfl rfl ⟨Nat.le_of_ble_eq_true rfl, Nat.le_of_ble_eq_true rfl⟩ rfl rfl hl.1 rfl (lv_room (Nat.le_of_ble_eq_true rfl)) eX10_pick_0.2.2.2.2.2.2.1 ⟨Nat.zero_le _, Nat.zero_le _⟩) (fun r_1 u H locs hp hP hD hS => ?_)
  have hPD := PDm (ws' := (wd_X10_pick cI cC cZ cB cJ a_m oJ uD dY iJ lJ jQ jR jW jK pJ bM aY jO gR gY mK jZ iY bG mJ jB mQ lY eJ bY bW aG jG bQ 0 jY m_length qG uW eY aJ aB bU dN aR aE bJ aW bT gJ dU bL bR bO mY pW rD m_x jA pY rW oY pR pX rG rQ uQ)) hP hD 12 rfl rfl rfl
  have hP := hPD.1
  have hD := hPD.2
  refine lv_istore_n (lv' := [(3, .int r_1), (0, .ref a_m), (1, .int p0), (2, .int p1)]) hx hb eX10_pick_0.2.2.2.2.2.2.2.1 rfl hl (by decide) rfl (fun ls hl => ?_)
  refine lv_iload_n hx hb eX10_pick_0.2.2.2.2.2.2.2.2.1 rfl (lv_at hl 0 rfl) ?_
  refine lv_if_ge (tgt := 18) hx hb eX10_pick_0.2.2.2.2.2.2.2.2.2.1 (by decide) (fun hc => ?_) (fun hc => ?_)
  · have hp := hp.1 hc
    refine lv_aload_n hx hb eX10_pick_0.2.2.2.2.2.2.2.2.2.2.2.2.1 rfl (lv_at hl 1 rfl) ?_
    refine lv_aload_n hx hb eX10_pick_0.2.2.2.2.2.2.2.2.2.2.2.2.2.1 rfl (lv_at hl 1 rfl) ?_
    refine va_get (D := (dC, dI)) (ci := 10) (v := .ref oJ) (C := RX10) (T := TX10) (N := 51) hx hb hts i_X10 hown hK hP 0 rfl rfl 0 (Nat.le_of_ble_eq_true rfl) (hts _ q_692) (fun _ h9 => h9) rfl eX10_pick_0.2.2.2.2.2.2.2.2.2.2.2.2.2.2.1 ?_
    have hm := mgk (wc := (wd_X10_remember cI cC cZ cB cJ a_m oJ uD dY iJ lJ jQ jR jW jK pJ bM aY jO gR gY mK jZ iY bG mJ jB mQ lY eJ bY bW aG jG bQ 0 jY m_length qG uW eY aJ aB bU dN aR aE bJ aW bT gJ dU bL bR bO mY pW rD uQ)) hP mk_219 12 rfl rfl rfl
    refine g_callv hP hD hS hA (mixT mk_219) (mixF mk_219) hm.1 hm.2 (nd_F _) (dis_g _) (g_runV (As := [.ref oJ]) (rest := []) C0 hP hD hS (mixT mk_219) hm.1 (nd_T _) 0 10 rfl rfl (c_X10_remember l dC dI cI cC cZ cB cJ a_m oJ uD dY iJ lJ jQ jR jW jK pJ bM aY jO gR gY mK jZ iY bG mJ jB mQ lY eJ bY H.size bW aG jG bQ 0 jY m_length qG uW eY aJ aB bU dN aR aE bJ aW bT gJ dU bL bR bO mY pW rD uQ _ hp) q_787 q_790 q_788 q_789 q_642 h_X10_remember rfl rfl ⟨Nat.le_of_ble_eq_true rfl, Nat.le_of_ble_eq_true rfl⟩ rfl rfl hl.1 rfl (lv_room (Nat.le_of_ble_eq_true rfl)) eX10_pick_0.2.2.2.2.2.2.2.2.2.2.2.2.2.2.2 ⟨Nat.zero_le _, Nat.zero_le _⟩) (fun u H locs hp hP hD hS => ?_)
    obtain ⟨xZ, zU⟩ := u
    have hPD := PDm (ws' := (wd_X10_pick cI cC cZ cB cJ a_m oJ uD dY iJ lJ jQ jR jW jK pJ bM aY jO gR gY mK jZ iY bG mJ jB mQ lY eJ bY bW aG jG bQ 0 jY m_length qG uW eY aJ aB bU dN aR aE bJ aW xZ gJ dU bL bR bO mY pW rD m_x jA pY rW oY pR pX rG rQ zU)) hP hD 12 rfl rfl rfl
    have hP := hPD.1
    have hD := hPD.2
    refine lv_aload_n hx hb eX10_pick_26.1 rfl (lv_at hl 1 rfl) ?_
    refine lv_iload_n hx hb eX10_pick_26.2.1 rfl (lv_at hl 2 rfl) ?_
    refine lv_iload_n hx hb eX10_pick_26.2.2.1 rfl (lv_at hl 3 rfl) ?_
    have hm := mgk (wc := (wd_X10_goPick cI cC cZ cB cJ a_m oJ uD dY iJ lJ jQ jR jW jK pJ bM aY jO gR gY mK jZ iY bG mJ jB mQ lY eJ bY bW aG jG bQ 0 jY m_length qG uW eY aJ aB bU dN aR aE bJ aW xZ gJ dU bL bR bO mY pW rD m_x jA pY oY pR rG rQ)) hP mk_220 12 rfl rfl rfl
    refine g_calli hP hD hS hA (mixT mk_220) (mixF mk_220) hm.1 hm.2 (nd_F _) (dis_g _) (g_runV (As := [.int p0, .int p1]) (rest := []) C0 hP hD hS (mixT mk_220) hm.1 (nd_T _) 0 10 rfl rfl (c_X10_goPick l dC dI cI cC cZ cB cJ a_m oJ uD dY iJ lJ jQ jR jW jK pJ bM aY jO gR gY mK jZ iY bG mJ jB mQ lY eJ bY H.size p0 p1 bW aG jG bQ 0 jY m_length qG uW eY aJ aB bU dN aR aE bJ aW xZ gJ dU bL bR bO mY pW rD m_x jA pY oY pR rG rQ _ hp) q_812 q_815 q_813 q_814 q_642 h_X10_goPick rfl rfl ⟨Nat.le_of_ble_eq_true rfl, Nat.le_of_ble_eq_true rfl⟩ rfl rfl hl.1 rfl (lv_room (Nat.le_of_ble_eq_true rfl)) eX10_pick_26.2.2.2.1 ⟨Nat.zero_le _, Nat.zero_le _⟩) (fun r_4 u H locs hp hP hD hS => ?_)
    obtain ⟨aAA, zQ, aA6, aBm, zO, yR, yD, xV, yL, yF, m_now_15⟩ := u
    have hPD := PDm (ws' := (wd_X10_pick cI cC cZ cB cJ a_m oJ uD dY iJ lJ jQ jR jW jK pJ bM aY jO gR gY mK jZ iY bG mJ jB mQ lY eJ bY bW aG jG bQ 0 aAA zQ aA6 aBm zO aJ aB bU yR yD xV yL yF xZ gJ dU bL bR bO mY pW m_now_15 m_x jA pY rW oY pR pX rG rQ zU)) hP hD 12 rfl rfl rfl
    have hP := hPD.1
    have hD := hPD.2
    exact W.iret (v := r_4) hx hb hr (fun t ht hW => ⟨⟨r_4, (0, aAA, zQ, aA6, aBm, zO, yR, yD, xV, yL, yF, xZ, m_now_15, zU), rfl, hp, by rw [ht]; exact hP, va_K.moved hW.alike hK, hD⟩, hS.F ht⟩) hS.2.2 eX10_pick_26.2.2.2.2
  · have hp := hp.2 hc
    refine lv_iload_n hx hb eX10_pick_0.2.2.2.2.2.2.2.2.2.2.1 rfl (lv_at hl 0 rfl) ?_
    exact W.iret (v := r_1) hx hb hr (fun t ht hW => ⟨⟨r_1, (0, jY, m_length, qG, uW, eY, dN, aR, aE, bJ, aW, bT, rD, uQ), rfl, hp, by rw [ht]; exact hP, va_K.moved hW.alike hK, hD⟩, hS.F ht⟩) hS.2.2 eX10_pick_0.2.2.2.2.2.2.2.2.2.2.2.1
noncomputable abbrev wd_X10_canDown (cI cC cZ cB cJ : ClassId) (a_m oJ uD dY iJ lJ jQ jR jW jK pJ bM aY jO gR gY mK jZ iY bG mJ jB mQ lY eJ bY : Nat) (bW aG jG bQ dG : Int32) (jY : Nat) (m_length qG uW eY aJ aB bU dN aR aE bJ aW bT gJ dU bL bR bO mY pW : Int32) (rD : Nat → Int32) : va_W := [(a_m, .inr (10, [.ref oJ, .int bW, .ref uD, .ref dY, .ref iJ, .ref lJ, .int aG, .ref jQ, .ref jR, .ref jW, .ref jK, .int jG, .ref pJ, .int bQ, .int dG, rdv jK jO jY, .int m_length, .int qG, .int uW, .int eY, .ref bM, .ref aY, .int aJ, .int aB, .ref jO, .int bU, .int dN, .int aR, .int aE, .int bJ, .int aW, .ref gR, .int bT, .ref gY, .ref mK, .int gJ, .ref jZ, .int dU, .ref iY, .ref bG, .int bL, .int bR, .int bO, .ref mJ, .ref jB, .ref mQ, .int mY, .int pW, .ref lY, .ref eJ, .ref bY])), (oJ, .inl (cI, 21, .inl rD))]
noncomputable abbrev q_X10_canDown (dC : Nat → ClassId) (dI : Nat → Nat → Nat) (cI cC cZ cB cJ : ClassId) (A : Nat → Prop) (a_m oJ uD dY iJ lJ jQ jR jW jK pJ bM aY jO gR gY mK jZ iY bG mJ jB mQ lY eJ bY : Nat) (bW aG jG bQ dG : Int32) (jY : Nat) (m_length qG uW eY aJ aB bU dN aR aE bJ aW bT gJ dU bL bR bO mY pW : Int32) (rD : Nat → Int32) (post : Int32 → Prop) : Array Value → State → Outcome → State → Prop := va_Qi (fun (r : Int32) (u : Unit) => post r) (fun u t => gB (dC, dI) (tyl cI cC cZ cB cJ) A (wd_X10_canDown cI cC cZ cB cJ a_m oJ uD dY iJ lJ jQ jR jW jK pJ bM aY jO gR gY mK jZ iY bG mJ jB mQ lY eJ bY bW aG jG bQ dG jY m_length qG uW eY aJ aB bU dN aR aE bJ aW bT gJ dU bL bR bO mY pW rD) t) A
noncomputable abbrev rm_X10_canDown : Room := { frames := 1, cells := 0, slots := 0, locals := 24 }
noncomputable def wp_X10_canDown (post : Int32 → Prop) (bW : Int32) (rD : Nat → Int32) : Prop := ∀ v_1 : Int32, v_1 = rD (17 : Int32).toNatClampNeg → (v_1 = (-1) → post 0) ∧ (¬ v_1 = (-1) → wp_X10_which (fun r_2 => (r_2 = 0 → post 0) ∧ (¬ r_2 = 0 → post 1)) 1 bW rD)
set_option maxHeartbeats 4000000 in
set_option maxRecDepth 100000 in
theorem c_X10_canDown (l : Launch) (dC : Nat → ClassId) (dI : Nat → Nat → Nat) (cI cC cZ cB cJ : ClassId) (a_m oJ uD dY iJ lJ jQ jR jW jK pJ bM aY jO gR gY mK jZ iY bG mJ jB mQ lY eJ bY sz : Nat) (bW aG jG bQ dG : Int32) (jY : Nat) (m_length qG uW eY aJ aB bU dN aR aE bJ aW bT gJ dU bL bR bO mY pW : Int32) (rD : Nat → Int32) (post : Int32 → Prop) (hw : wp_X10_canDown post bW rD) : Met l yX10_canDown (gw yX10_canDown cX10_canDown 1 (some .boolean)) rm_X10_canDown (va_Pc [.ref a_m] (gPre (dC, dI) (tyl cI cC cZ cB cJ) (wd_X10_canDown cI cC cZ cB cJ a_m oJ uD dY iJ lJ jQ jR jW jK pJ bM aY jO gR gY mK jZ iY bG mJ jB mQ lY eJ bY bW aG jG bQ dG jY m_length qG uW eY aJ aB bU dN aR aE bJ aW bT gJ dU bL bR bO mY pW rD) sz)) (q_X10_canDown dC dI cI cC cZ cB cJ (va_A (wd_X10_canDown cI cC cZ cB cJ a_m oJ uD dY iJ lJ jQ jR jW jK pJ bM aY jO gR gY mK jZ iY bG mJ jB mQ lY eJ bY bW aG jG bQ dG jY m_length qG uW eY aJ aB bU dN aR aE bJ aW bT gJ dU bL bR bO mY pW rD) sz) a_m oJ uD dY iJ lJ jQ jR jW jK pJ bM aY jO gR gY mK jZ iY bG mJ jB mQ lY eJ bY bW aG jG bQ dG jY m_length qG uW eY aJ aB bU dN aR aE bJ aW bT gJ dU bL bR bO mY pW rD post) 0 0 (va_A (wd_X10_canDown cI cC cZ cB cJ a_m oJ uD dY iJ lJ jQ jR jW jK pJ bM aY jO gR gY mK jZ iY bG mJ jB mQ lY eJ bY bW aG jG bQ dG jY m_length qG uW eY aJ aB bU dN aR aE bJ aW bT gJ dU bL bR bO mY pW rD) sz) := by
  refine g_enter (own := RX10) (dC, dI) (tyl cI cC cZ cB cJ) (wd_X10_canDown cI cC cZ cB cJ a_m oJ uD dY iJ lJ jQ jR jW jK pJ bM aY jO gR gY mK jZ iY bG mJ jB mQ lY eJ bY bW aG jG bQ dG jY m_length qG uW eY aJ aB bU dN aR aE bJ aW bT gJ dU bL bR bO mY pW rD) sz [.ref a_m] (fun A => q_X10_canDown dC dI cI cC cZ cB cJ A a_m oJ uD dY iJ lJ jQ jR jW jK pJ bM aY jO gR gY mK jZ iY bG mJ jB mQ lY eJ bY bW aG jG bQ dG jY m_length qG uW eY aJ aB bU dN aR aE bJ aW bT gJ dU bL bR bO mY pW rD post) pn_RX10 rfl (Nat.le_of_ble_eq_true rfl) ?_
  intro p e s m args below meth c A H locs ls C0 hP hD hS hl
  have hl : lv_has ls 1 [(0, .ref a_m)] := hl
  obtain ⟨hx, hb, hr, hml, hown, hts, hlocks, hA, hK, hN, tL, tM, hZL, hTL, hZM, hTM, hZX⟩ := id C0
  have hp := hw
  unfold wp_X10_canDown at hp
  refine lv_aload_n hx hb eX10_canDown_0.1 rfl (lv_at hl 0 rfl) ?_
  refine va_get (D := (dC, dI)) (ci := 10) (v := .ref oJ) (C := RX10) (T := TX10) (N := 51) hx hb hts i_X10 hown hK hP 0 rfl rfl 0 (Nat.le_of_ble_eq_true rfl) (hts _ q_692) (fun _ h9 => h9) rfl eX10_canDown_0.2.1 ?_
  refine lv_bipush (v := 17) hx hb eX10_canDown_0.2.2.1 bp_17 ?_
  refine va_iald hx hb hK hP 1 0 rfl rfl (g_in rfl) eX10_canDown_0.2.2.2.1 ?_
  refine lv_topi (fun v_1 ev_1 => ?_)
  have hp := hp v_1 ev_1
  refine lv_iconst (v := (-1)) hx hb eX10_canDown_0.2.2.2.2.1 ic_m1 ?_
  refine lv_icmp_eq (tgt := 27) hx hb eX10_canDown_0.2.2.2.2.2.1 (by decide) (fun hc => ?_) (fun hc => ?_)
  · have hp := hp.1 hc
    refine lv_iconst (v := 0) hx hb eX10_canDown_0.2.2.2.2.2.2.2.2.2.2.2.2.2.2.1 ic_0 ?_
    exact W.zret (v := 0) hx hb hr rfl (fun t ht hW => ⟨⟨0, (), rfl, hp, by rw [ht]; exact hP, va_K.moved hW.alike hK, hD⟩, hS.F ht⟩) hS.2.2 eX10_canDown_0.2.2.2.2.2.2.2.2.2.2.2.2.2.2.2
  · have hp := hp.2 hc
    refine lv_aload_n hx hb eX10_canDown_0.2.2.2.2.2.2.1 rfl (lv_at hl 0 rfl) ?_
    refine lv_aload_n hx hb eX10_canDown_0.2.2.2.2.2.2.2.1 rfl (lv_at hl 0 rfl) ?_
    refine va_get (D := (dC, dI)) (ci := 10) (v := .ref oJ) (C := RX10) (T := TX10) (N := 51) hx hb hts i_X10 hown hK hP 0 rfl rfl 0 (Nat.le_of_ble_eq_true rfl) (hts _ q_692) (fun _ h9 => h9) rfl eX10_canDown_0.2.2.2.2.2.2.2.2.1 ?_
    refine lv_iconst (v := 1) hx hb eX10_canDown_0.2.2.2.2.2.2.2.2.2.1 ic_1 ?_
    refine g_calli (wc := (wd_X10_which cI cC cZ cB cJ a_m oJ uD dY iJ lJ jQ jR jW jK pJ bM aY jO gR gY mK jZ iY bG mJ jB mQ lY eJ bY bW aG jG bQ dG jY m_length qG uW eY aJ aB bU dN aR aE bJ aW bT gJ dU bL bR bO mY pW rD)) hP hD hS hA [0, 1] [] rfl rfl rfl rfl (g_runV (As := [.ref oJ, .int 1]) (rest := []) C0 hP hD hS [0, 1] rfl rfl 0 10 rfl rfl (c_X10_which l dC dI cI cC cZ cB cJ a_m oJ uD dY iJ lJ jQ jR jW jK pJ bM aY jO gR gY mK jZ iY bG mJ jB mQ lY eJ bY H.size 1 bW aG jG bQ dG jY m_length qG uW eY aJ aB bU dN aR aE bJ aW bT gJ dU bL bR bO mY pW rD _ hp) q_749 q_752 q_750 q_751 q_642 h_X10_which rfl rfl ⟨Nat.le_of_ble_eq_true rfl, Nat.le_of_ble_eq_true rfl⟩ rfl rfl hl.1 rfl (lv_room (Nat.le_of_ble_eq_true rfl)) eX10_canDown_0.2.2.2.2.2.2.2.2.2.2.1 ⟨Nat.zero_le _, Nat.zero_le _⟩) (fun r_2 u H locs hp hP hD hS => ?_)
    have hPD := PDs (ws' := (wd_X10_canDown cI cC cZ cB cJ a_m oJ uD dY iJ lJ jQ jR jW jK pJ bM aY jO gR gY mK jZ iY bG mJ jB mQ lY eJ bY bW aG jG bQ dG jY m_length qG uW eY aJ aB bU dN aR aE bJ aW bT gJ dU bL bR bO mY pW rD)) hP hD [0, 1] (by decide) rfl
    have hP := hPD.1
    have hD := hPD.2
    refine lv_if_eq (tgt := 27) hx hb eX10_canDown_0.2.2.2.2.2.2.2.2.2.2.2.1 (by decide) (fun hc => ?_) (fun hc => ?_)
    · have hp := hp.1 hc
      refine lv_iconst (v := 0) hx hb eX10_canDown_0.2.2.2.2.2.2.2.2.2.2.2.2.2.2.1 ic_0 ?_
      exact W.zret (v := 0) hx hb hr rfl (fun t ht hW => ⟨⟨0, (), rfl, hp, by rw [ht]; exact hP, va_K.moved hW.alike hK, hD⟩, hS.F ht⟩) hS.2.2 eX10_canDown_0.2.2.2.2.2.2.2.2.2.2.2.2.2.2.2
    · have hp := hp.2 hc
      refine lv_iconst (v := 1) hx hb eX10_canDown_0.2.2.2.2.2.2.2.2.2.2.2.2.1 ic_1 ?_
      refine lv_goto (tgt := 28) hx hb eX10_canDown_0.2.2.2.2.2.2.2.2.2.2.2.2.2.1 (by decide) ?_
      exact W.zret (v := 1) hx hb hr rfl (fun t ht hW => ⟨⟨1, (), rfl, hp, by rw [ht]; exact hP, va_K.moved hW.alike hK, hD⟩, hS.F ht⟩) hS.2.2 eX10_canDown_0.2.2.2.2.2.2.2.2.2.2.2.2.2.2.2
noncomputable abbrev wd_X10_goDown (cI cC cZ cB cJ : ClassId) (a_m oJ uD dY iJ lJ jQ jR jW jK pJ bM aY jO gR gY mK jZ iY bG mJ jB mQ lY eJ bY : Nat) (bW aG jG bQ dG : Int32) (jY : Nat) (m_length qG uW eY aJ aB bU dN aR aE bJ aW bT gJ dU bL bR bO mY pW : Int32) (rD pR : Nat → Int32) : va_W := [(a_m, .inr (10, [.ref oJ, .int bW, .ref uD, .ref dY, .ref iJ, .ref lJ, .int aG, .ref jQ, .ref jR, .ref jW, .ref jK, .int jG, .ref pJ, .int bQ, .int dG, rdv jK jO jY, .int m_length, .int qG, .int uW, .int eY, .ref bM, .ref aY, .int aJ, .int aB, .ref jO, .int bU, .int dN, .int aR, .int aE, .int bJ, .int aW, .ref gR, .int bT, .ref gY, .ref mK, .int gJ, .ref jZ, .int dU, .ref iY, .ref bG, .int bL, .int bR, .int bO, .ref mJ, .ref jB, .ref mQ, .int mY, .int pW, .ref lY, .ref eJ, .ref bY])), (oJ, .inl (cI, 21, .inl rD)), (jR, .inl (cI, 8, .inl pR))]
noncomputable abbrev q_X10_goDown (dC : Nat → ClassId) (dI : Nat → Nat → Nat) (cI cC cZ cB cJ : ClassId) (A : Nat → Prop) (a_m oJ uD dY iJ lJ jQ jR jW jK pJ bM aY jO gR gY mK jZ iY bG mJ jB mQ lY eJ bY : Nat) (bW aG jG bQ dG : Int32) (jY : Nat) (m_length qG uW eY aJ aB bU dN aR aE bJ aW bT gJ dU bL bR bO mY pW : Int32) (pR : Nat → Int32) (post : Int32 → (Nat → Int32) → Prop) : Array Value → State → Outcome → State → Prop := va_Qi (fun (r : Int32) (u : (Nat → Int32)) => post r u) (fun u t => gB (dC, dI) (tyl cI cC cZ cB cJ) A (wd_X10_goDown cI cC cZ cB cJ a_m oJ uD dY iJ lJ jQ jR jW jK pJ bM aY jO gR gY mK jZ iY bG mJ jB mQ lY eJ bY bW aG jG bQ dG jY m_length qG uW eY aJ aB bU dN aR aE bJ aW bT gJ dU bL bR bO mY pW u pR) t) A
noncomputable abbrev rm_X10_goDown : Room := { frames := 2, cells := 0, slots := 0, locals := 42 }
noncomputable def wp_X10_goDown (post : Int32 → (Nat → Int32) → Prop) (bW : Int32) (rD pR : Nat → Int32) : Prop := ∀ v_1 : Int32, v_1 = rD (17 : Int32).toNatClampNeg → wp_X10_downOf (fun r_2 => wp_X10_passBy (fun m_now_3 => wp_X10_empty (fun r_4 aBj => post r_4 aBj) bW m_now_3) r_2 rD) v_1 pR
set_option maxHeartbeats 4000000 in
set_option maxRecDepth 100000 in
theorem c_X10_goDown (l : Launch) (dC : Nat → ClassId) (dI : Nat → Nat → Nat) (cI cC cZ cB cJ : ClassId) (a_m oJ uD dY iJ lJ jQ jR jW jK pJ bM aY jO gR gY mK jZ iY bG mJ jB mQ lY eJ bY sz : Nat) (bW aG jG bQ dG : Int32) (jY : Nat) (m_length qG uW eY aJ aB bU dN aR aE bJ aW bT gJ dU bL bR bO mY pW : Int32) (rD pR : Nat → Int32) (post : Int32 → (Nat → Int32) → Prop) (hw : wp_X10_goDown post bW rD pR) : Met l yX10_goDown (gw yX10_goDown cX10_goDown 1 (some .int)) rm_X10_goDown (va_Pc [.ref a_m] (gPre (dC, dI) (tyl cI cC cZ cB cJ) (wd_X10_goDown cI cC cZ cB cJ a_m oJ uD dY iJ lJ jQ jR jW jK pJ bM aY jO gR gY mK jZ iY bG mJ jB mQ lY eJ bY bW aG jG bQ dG jY m_length qG uW eY aJ aB bU dN aR aE bJ aW bT gJ dU bL bR bO mY pW rD pR) sz)) (q_X10_goDown dC dI cI cC cZ cB cJ (va_A (wd_X10_goDown cI cC cZ cB cJ a_m oJ uD dY iJ lJ jQ jR jW jK pJ bM aY jO gR gY mK jZ iY bG mJ jB mQ lY eJ bY bW aG jG bQ dG jY m_length qG uW eY aJ aB bU dN aR aE bJ aW bT gJ dU bL bR bO mY pW rD pR) sz) a_m oJ uD dY iJ lJ jQ jR jW jK pJ bM aY jO gR gY mK jZ iY bG mJ jB mQ lY eJ bY bW aG jG bQ dG jY m_length qG uW eY aJ aB bU dN aR aE bJ aW bT gJ dU bL bR bO mY pW pR post) 0 0 (va_A (wd_X10_goDown cI cC cZ cB cJ a_m oJ uD dY iJ lJ jQ jR jW jK pJ bM aY jO gR gY mK jZ iY bG mJ jB mQ lY eJ bY bW aG jG bQ dG jY m_length qG uW eY aJ aB bU dN aR aE bJ aW bT gJ dU bL bR bO mY pW rD pR) sz) := by
  refine g_enter (own := RX10) (dC, dI) (tyl cI cC cZ cB cJ) (wd_X10_goDown cI cC cZ cB cJ a_m oJ uD dY iJ lJ jQ jR jW jK pJ bM aY jO gR gY mK jZ iY bG mJ jB mQ lY eJ bY bW aG jG bQ dG jY m_length qG uW eY aJ aB bU dN aR aE bJ aW bT gJ dU bL bR bO mY pW rD pR) sz [.ref a_m] (fun A => q_X10_goDown dC dI cI cC cZ cB cJ A a_m oJ uD dY iJ lJ jQ jR jW jK pJ bM aY jO gR gY mK jZ iY bG mJ jB mQ lY eJ bY bW aG jG bQ dG jY m_length qG uW eY aJ aB bU dN aR aE bJ aW bT gJ dU bL bR bO mY pW pR post) pn_RX10 rfl (Nat.le_of_ble_eq_true rfl) ?_
  intro p e s m args below meth c A H locs ls C0 hP hD hS hl
  have hl : lv_has ls 1 [(0, .ref a_m)] := hl
  obtain ⟨hx, hb, hr, hml, hown, hts, hlocks, hA, hK, hN, tL, tM, hZL, hTL, hZM, hTM, hZX⟩ := id C0
  have hp := hw
  unfold wp_X10_goDown at hp
  refine lv_aload_n hx hb eX10_goDown_0.1 rfl (lv_at hl 0 rfl) ?_
  refine lv_aload_n hx hb eX10_goDown_0.2.1 rfl (lv_at hl 0 rfl) ?_
  refine lv_aload_n hx hb eX10_goDown_0.2.2.1 rfl (lv_at hl 0 rfl) ?_
  refine va_get (D := (dC, dI)) (ci := 10) (v := .ref oJ) (C := RX10) (T := TX10) (N := 51) hx hb hts i_X10 hown hK hP 0 rfl rfl 0 (Nat.le_of_ble_eq_true rfl) (hts _ q_692) (fun _ h9 => h9) rfl eX10_goDown_0.2.2.2.1 ?_
  refine lv_bipush (v := 17) hx hb eX10_goDown_0.2.2.2.2.1 bp_17 ?_
  refine va_iald hx hb hK hP 1 0 rfl rfl (g_in rfl) eX10_goDown_0.2.2.2.2.2.1 ?_
  refine lv_topi (fun v_1 ev_1 => ?_)
  have hp := hp v_1 ev_1
  have hm := mgk (wc := (wd_X10_downOf cI cC cZ cB cJ a_m oJ uD dY iJ lJ jQ jR jW jK pJ bM aY jO gR gY mK jZ iY bG mJ jB mQ lY eJ bY bW aG jG bQ dG jY m_length qG uW eY aJ aB bU dN aR aE bJ aW bT gJ dU bL bR bO mY pW pR)) hP aGw 3 rfl rfl rfl
  refine g_calli hP hD hS hA (mixT aGw) (mixF aGw) hm.1 hm.2 (nd_F _) (dis_g _) (g_runV (As := [.int v_1]) (rest := [.ref a_m]) C0 hP hD hS (mixT aGw) hm.1 (nd_T _) 0 10 rfl rfl (c_X10_downOf l dC dI cI cC cZ cB cJ a_m oJ uD dY iJ lJ jQ jR jW jK pJ bM aY jO gR gY mK jZ iY bG mJ jB mQ lY eJ bY H.size v_1 bW aG jG bQ dG jY m_length qG uW eY aJ aB bU dN aR aE bJ aW bT gJ dU bL bR bO mY pW pR _ hp) q_761 q_764 q_762 q_763 q_642 h_X10_downOf rfl rfl ⟨Nat.le_of_ble_eq_true rfl, Nat.le_of_ble_eq_true rfl⟩ rfl rfl hl.1 rfl (lv_room (Nat.le_of_ble_eq_true rfl)) eX10_goDown_0.2.2.2.2.2.2.1 ⟨Nat.zero_le _, Nat.zero_le _⟩) (fun r_2 u H locs hp hP hD hS => ?_)
  have hPD := PDm (ws' := (wd_X10_goDown cI cC cZ cB cJ a_m oJ uD dY iJ lJ jQ jR jW jK pJ bM aY jO gR gY mK jZ iY bG mJ jB mQ lY eJ bY bW aG jG bQ dG jY m_length qG uW eY aJ aB bU dN aR aE bJ aW bT gJ dU bL bR bO mY pW rD pR)) hP hD 3 rfl rfl rfl
  have hP := hPD.1
  have hD := hPD.2
  have hm := mgk (wc := (wd_X10_passBy cI cC cZ cB cJ a_m oJ uD dY iJ lJ jQ jR jW jK pJ bM aY jO gR gY mK jZ iY bG mJ jB mQ lY eJ bY bW aG jG bQ dG jY m_length qG uW eY aJ aB bU dN aR aE bJ aW bT gJ dU bL bR bO mY pW rD)) hP aCj 3 rfl rfl rfl
  refine g_callv hP hD hS hA (mixT aCj) (mixF aCj) hm.1 hm.2 (nd_F _) (dis_g _) (g_runV (As := [.int r_2]) (rest := []) C0 hP hD hS (mixT aCj) hm.1 (nd_T _) 0 10 rfl rfl (c_X10_passBy l dC dI cI cC cZ cB cJ a_m oJ uD dY iJ lJ jQ jR jW jK pJ bM aY jO gR gY mK jZ iY bG mJ jB mQ lY eJ bY H.size r_2 bW aG jG bQ dG jY m_length qG uW eY aJ aB bU dN aR aE bJ aW bT gJ dU bL bR bO mY pW rD _ hp) q_779 q_782 q_780 q_781 q_642 h_X10_passBy rfl rfl ⟨Nat.le_of_ble_eq_true rfl, Nat.le_of_ble_eq_true rfl⟩ rfl rfl hl.1 rfl (lv_room (Nat.le_of_ble_eq_true rfl)) eX10_goDown_0.2.2.2.2.2.2.2.1 ⟨Nat.zero_le _, Nat.zero_le _⟩) (fun u H locs hp hP hD hS => ?_)
  obtain ⟨m_now_3, rfl⟩ : ∃ z, z = u := ⟨_, rfl⟩
  have hPD := PDm (ws' := (wd_X10_goDown cI cC cZ cB cJ a_m oJ uD dY iJ lJ jQ jR jW jK pJ bM aY jO gR gY mK jZ iY bG mJ jB mQ lY eJ bY bW aG jG bQ dG jY m_length qG uW eY aJ aB bU dN aR aE bJ aW bT gJ dU bL bR bO mY pW m_now_3 pR)) hP hD 3 rfl rfl rfl
  have hP := hPD.1
  have hD := hPD.2
  refine lv_aload_n hx hb eX10_goDown_0.2.2.2.2.2.2.2.2.1 rfl (lv_at hl 0 rfl) ?_
  have hm := mgk (wc := (wd_X10_empty cI cC cZ cB cJ a_m oJ uD dY iJ lJ jQ jR jW jK pJ bM aY jO gR gY mK jZ iY bG mJ jB mQ lY eJ bY bW aG jG bQ dG jY m_length qG uW eY aJ aB bU dN aR aE bJ aW bT gJ dU bL bR bO mY pW m_now_3)) hP aCj 3 rfl rfl rfl
  refine g_calli hP hD hS hA (mixT aCj) (mixF aCj) hm.1 hm.2 (nd_F _) (dis_g _) (g_runV (As := []) (rest := []) C0 hP hD hS (mixT aCj) hm.1 (nd_T _) 0 10 rfl rfl (c_X10_empty l dC dI cI cC cZ cB cJ a_m oJ uD dY iJ lJ jQ jR jW jK pJ bM aY jO gR gY mK jZ iY bG mJ jB mQ lY eJ bY H.size bW aG jG bQ dG jY m_length qG uW eY aJ aB bU dN aR aE bJ aW bT gJ dU bL bR bO mY pW m_now_3 _ hp) q_775 q_778 q_776 q_777 q_642 h_X10_empty rfl rfl ⟨Nat.le_of_ble_eq_true rfl, Nat.le_of_ble_eq_true rfl⟩ rfl rfl hl.1 rfl (lv_room (Nat.le_of_ble_eq_true rfl)) eX10_goDown_0.2.2.2.2.2.2.2.2.2.1 ⟨Nat.zero_le _, Nat.zero_le _⟩) (fun r_4 u H locs hp hP hD hS => ?_)
  obtain ⟨aBj, rfl⟩ : ∃ z, z = u := ⟨_, rfl⟩
  have hPD := PDm (ws' := (wd_X10_goDown cI cC cZ cB cJ a_m oJ uD dY iJ lJ jQ jR jW jK pJ bM aY jO gR gY mK jZ iY bG mJ jB mQ lY eJ bY bW aG jG bQ dG jY m_length qG uW eY aJ aB bU dN aR aE bJ aW bT gJ dU bL bR bO mY pW aBj pR)) hP hD 3 rfl rfl rfl
  have hP := hPD.1
  have hD := hPD.2
  exact W.iret (v := r_4) hx hb hr (fun t ht hW => ⟨⟨r_4, aBj, rfl, hp, by rw [ht]; exact hP, va_K.moved hW.alike hK, hD⟩, hS.F ht⟩) hS.2.2 eX10_goDown_0.2.2.2.2.2.2.2.2.2.2
noncomputable abbrev wd_X10_down (cI cC cZ cB cJ : ClassId) (a_m oJ uD dY iJ lJ jQ jR jW jK pJ bM aY jO gR gY mK jZ iY bG mJ jB mQ lY eJ bY : Nat) (bW aG jG bQ dG : Int32) (jY : Nat) (m_length qG uW eY aJ aB bU dN aR aE bJ aW bT gJ dU bL bR bO mY pW : Int32) (rD pR uQ : Nat → Int32) : va_W := [(a_m, .inr (10, [.ref oJ, .int bW, .ref uD, .ref dY, .ref iJ, .ref lJ, .int aG, .ref jQ, .ref jR, .ref jW, .ref jK, .int jG, .ref pJ, .int bQ, .int dG, rdv jK jO jY, .int m_length, .int qG, .int uW, .int eY, .ref bM, .ref aY, .int aJ, .int aB, .ref jO, .int bU, .int dN, .int aR, .int aE, .int bJ, .int aW, .ref gR, .int bT, .ref gY, .ref mK, .int gJ, .ref jZ, .int dU, .ref iY, .ref bG, .int bL, .int bR, .int bO, .ref mJ, .ref jB, .ref mQ, .int mY, .int pW, .ref lY, .ref eJ, .ref bY])), (oJ, .inl (cI, 21, .inl rD)), (jR, .inl (cI, 8, .inl pR)), (gR, .inl (cI, 252, .inl uQ))]
noncomputable abbrev q_X10_down (dC : Nat → ClassId) (dI : Nat → Nat → Nat) (cI cC cZ cB cJ : ClassId) (A : Nat → Prop) (a_m oJ uD dY iJ lJ jQ jR jW jK pJ bM aY jO gR gY mK jZ iY bG mJ jB mQ lY eJ bY : Nat) (bW aG jG bQ : Int32) (jY : Nat) (m_length qG uW eY aJ aB bU dN aR aE bJ aW gJ dU bL bR bO mY pW : Int32) (pR : Nat → Int32) (post : Int32 → Int32 → Int32 → (Nat → Int32) → (Nat → Int32) → Prop) : Array Value → State → Outcome → State → Prop := va_Qi (fun (r : Int32) (u : Int32 × Int32 × (Nat → Int32) × (Nat → Int32)) => post r u.1 u.2.1 u.2.2.1 u.2.2.2) (fun u t => gB (dC, dI) (tyl cI cC cZ cB cJ) A (wd_X10_down cI cC cZ cB cJ a_m oJ uD dY iJ lJ jQ jR jW jK pJ bM aY jO gR gY mK jZ iY bG mJ jB mQ lY eJ bY bW aG jG bQ u.1 jY m_length qG uW eY aJ aB bU dN aR aE bJ aW u.2.1 gJ dU bL bR bO mY pW u.2.2.1 pR u.2.2.2) t) A
noncomputable abbrev rm_X10_down : Room := { frames := 3, cells := 0, slots := 0, locals := 62 }
noncomputable def wp_X10_down (post : Int32 → Int32 → Int32 → (Nat → Int32) → (Nat → Int32) → Prop) (bW dG bT : Int32) (rD pR uQ : Nat → Int32) : Prop := wp_X10_canDown (fun r_1 => (¬ r_1 = 0 → wp_X10_remember (fun xZ zU => wp_X10_goDown (fun r_4 aBj => post r_4 0 xZ aBj zU) bW rD pR) bT rD uQ) ∧ (r_1 = 0 → post (-2) 0 bT rD uQ)) bW rD
set_option maxHeartbeats 4000000 in
set_option maxRecDepth 100000 in
theorem c_X10_down (l : Launch) (dC : Nat → ClassId) (dI : Nat → Nat → Nat) (cI cC cZ cB cJ : ClassId) (a_m oJ uD dY iJ lJ jQ jR jW jK pJ bM aY jO gR gY mK jZ iY bG mJ jB mQ lY eJ bY sz : Nat) (bW aG jG bQ dG : Int32) (jY : Nat) (m_length qG uW eY aJ aB bU dN aR aE bJ aW bT gJ dU bL bR bO mY pW : Int32) (rD pR uQ : Nat → Int32) (post : Int32 → Int32 → Int32 → (Nat → Int32) → (Nat → Int32) → Prop) (hw : wp_X10_down post bW dG bT rD pR uQ) : Met l yX10_down (gw yX10_down cX10_down 1 (some .int)) rm_X10_down (va_Pc [.ref a_m] (gPre (dC, dI) (tyl cI cC cZ cB cJ) (wd_X10_down cI cC cZ cB cJ a_m oJ uD dY iJ lJ jQ jR jW jK pJ bM aY jO gR gY mK jZ iY bG mJ jB mQ lY eJ bY bW aG jG bQ dG jY m_length qG uW eY aJ aB bU dN aR aE bJ aW bT gJ dU bL bR bO mY pW rD pR uQ) sz)) (q_X10_down dC dI cI cC cZ cB cJ (va_A (wd_X10_down cI cC cZ cB cJ a_m oJ uD dY iJ lJ jQ jR jW jK pJ bM aY jO gR gY mK jZ iY bG mJ jB mQ lY eJ bY bW aG jG bQ dG jY m_length qG uW eY aJ aB bU dN aR aE bJ aW bT gJ dU bL bR bO mY pW rD pR uQ) sz) a_m oJ uD dY iJ lJ jQ jR jW jK pJ bM aY jO gR gY mK jZ iY bG mJ jB mQ lY eJ bY bW aG jG bQ jY m_length qG uW eY aJ aB bU dN aR aE bJ aW gJ dU bL bR bO mY pW pR post) 0 0 (va_A (wd_X10_down cI cC cZ cB cJ a_m oJ uD dY iJ lJ jQ jR jW jK pJ bM aY jO gR gY mK jZ iY bG mJ jB mQ lY eJ bY bW aG jG bQ dG jY m_length qG uW eY aJ aB bU dN aR aE bJ aW bT gJ dU bL bR bO mY pW rD pR uQ) sz) := by
  refine g_enter (own := RX10) (dC, dI) (tyl cI cC cZ cB cJ) (wd_X10_down cI cC cZ cB cJ a_m oJ uD dY iJ lJ jQ jR jW jK pJ bM aY jO gR gY mK jZ iY bG mJ jB mQ lY eJ bY bW aG jG bQ dG jY m_length qG uW eY aJ aB bU dN aR aE bJ aW bT gJ dU bL bR bO mY pW rD pR uQ) sz [.ref a_m] (fun A => q_X10_down dC dI cI cC cZ cB cJ A a_m oJ uD dY iJ lJ jQ jR jW jK pJ bM aY jO gR gY mK jZ iY bG mJ jB mQ lY eJ bY bW aG jG bQ jY m_length qG uW eY aJ aB bU dN aR aE bJ aW gJ dU bL bR bO mY pW pR post) pn_RX10 rfl (Nat.le_of_ble_eq_true rfl) ?_
  intro p e s m args below meth c A H locs ls C0 hP hD hS hl
  have hl : lv_has ls 1 [(0, .ref a_m)] := hl
  obtain ⟨hx, hb, hr, hml, hown, hts, hlocks, hA, hK, hN, tL, tM, hZL, hTL, hZM, hTM, hZX⟩ := id C0
  have hp := hw
  unfold wp_X10_down at hp
  refine lv_aload_n hx hb eX10_down_0.1 rfl (lv_at hl 0 rfl) ?_
  refine lv_iconst (v := 0) hx hb eX10_down_0.2.1 ic_0 ?_
  refine va_put (D := (dC, dI)) (ci := 10) (v := .int 0) (ty := .int) (C := RX10) (T := TX10) (N := 51) hx hb hts i_X10 tyX10 tyX10_ok nmX10 hown hK hP hD hS 0 rfl rfl 14 (Nat.le_of_ble_eq_true rfl) (hts _ q_638) (fun _ h9 => h9) rfl (tyX10_ok 14 (Nat.le_of_ble_eq_true rfl)) rfl rfl (Nat.le_of_ble_eq_true rfl) eX10_down_0.2.2.1 (fun H locs hP hD hS => ?_)
  have hP : va_P (dC, dI) classes (wd_X10_down cI cC cZ cB cJ a_m oJ uD dY iJ lJ jQ jR jW jK pJ bM aY jO gR gY mK jZ iY bG mJ jB mQ lY eJ bY bW aG jG bQ 0 jY m_length qG uW eY aJ aB bU dN aR aE bJ aW bT gJ dU bL bR bO mY pW rD pR uQ) H := hP
  have hD : va_D A (wd_X10_down cI cC cZ cB cJ a_m oJ uD dY iJ lJ jQ jR jW jK pJ bM aY jO gR gY mK jZ iY bG mJ jB mQ lY eJ bY bW aG jG bQ 0 jY m_length qG uW eY aJ aB bU dN aR aE bJ aW bT gJ dU bL bR bO mY pW rD pR uQ) := hD
  refine lv_aload_n hx hb eX10_down_0.2.2.2.1 rfl (lv_at hl 0 rfl) ?_
  have hm := mgk (wc := (wd_X10_canDown cI cC cZ cB cJ a_m oJ uD dY iJ lJ jQ jR jW jK pJ bM aY jO gR gY mK jZ iY bG mJ jB mQ lY eJ bY bW aG jG bQ 0 jY m_length qG uW eY aJ aB bU dN aR aE bJ aW bT gJ dU bL bR bO mY pW rD)) hP mk_1 4 rfl rfl rfl
  refine g_calli hP hD hS hA (mixT mk_1) (mixF mk_1) hm.1 hm.2 (nd_F _) (dis_g _) (g_runV (As := []) (rest := []) C0 hP hD hS (mixT mk_1) hm.1 (nd_T _) 0 10 rfl rfl (c_X10_canDown l dC dI cI cC cZ cB cJ a_m oJ uD dY iJ lJ jQ jR jW jK pJ bM aY jO gR gY mK jZ iY bG mJ jB mQ lY eJ bY H.size bW aG jG bQ 0 jY m_length qG uW eY aJ aB bU dN aR aE bJ aW bT gJ dU bL bR bO mY pW rD _ hp) q_816 q_819 q_817 q_818 q_642 h_X10_canDown rfl rfl ⟨Nat.le_of_ble_eq_true rfl, Nat.le_of_ble_eq_true rfl⟩ rfl rfl hl.1 rfl (lv_room (Nat.le_of_ble_eq_true rfl)) eX10_down_0.2.2.2.2.1 ⟨Nat.zero_le _, Nat.zero_le _⟩) (fun r_1 u H locs hp hP hD hS => ?_)
  have hPD := PDm (ws' := (wd_X10_down cI cC cZ cB cJ a_m oJ uD dY iJ lJ jQ jR jW jK pJ bM aY jO gR gY mK jZ iY bG mJ jB mQ lY eJ bY bW aG jG bQ 0 jY m_length qG uW eY aJ aB bU dN aR aE bJ aW bT gJ dU bL bR bO mY pW rD pR uQ)) hP hD 4 rfl rfl rfl
  have hP := hPD.1
  have hD := hPD.2
  refine lv_if_ne (tgt := 15) hx hb eX10_down_0.2.2.2.2.2.1 (by decide) (fun hc => ?_) (fun hc => ?_)
  · have hp := hp.1 hc
    refine lv_aload_n hx hb eX10_down_0.2.2.2.2.2.2.2.2.1 rfl (lv_at hl 0 rfl) ?_
    refine lv_aload_n hx hb eX10_down_0.2.2.2.2.2.2.2.2.2.1 rfl (lv_at hl 0 rfl) ?_
    refine va_get (D := (dC, dI)) (ci := 10) (v := .ref oJ) (C := RX10) (T := TX10) (N := 51) hx hb hts i_X10 hown hK hP 0 rfl rfl 0 (Nat.le_of_ble_eq_true rfl) (hts _ q_692) (fun _ h9 => h9) rfl eX10_down_0.2.2.2.2.2.2.2.2.2.2.1 ?_
    have hm := mgk (wc := (wd_X10_remember cI cC cZ cB cJ a_m oJ uD dY iJ lJ jQ jR jW jK pJ bM aY jO gR gY mK jZ iY bG mJ jB mQ lY eJ bY bW aG jG bQ 0 jY m_length qG uW eY aJ aB bU dN aR aE bJ aW bT gJ dU bL bR bO mY pW rD uQ)) hP mk_180 4 rfl rfl rfl
    refine g_callv hP hD hS hA (mixT mk_180) (mixF mk_180) hm.1 hm.2 (nd_F _) (dis_g _) (g_runV (As := [.ref oJ]) (rest := []) C0 hP hD hS (mixT mk_180) hm.1 (nd_T _) 0 10 rfl rfl (c_X10_remember l dC dI cI cC cZ cB cJ a_m oJ uD dY iJ lJ jQ jR jW jK pJ bM aY jO gR gY mK jZ iY bG mJ jB mQ lY eJ bY H.size bW aG jG bQ 0 jY m_length qG uW eY aJ aB bU dN aR aE bJ aW bT gJ dU bL bR bO mY pW rD uQ _ hp) q_787 q_790 q_788 q_789 q_642 h_X10_remember rfl rfl ⟨Nat.le_of_ble_eq_true rfl, Nat.le_of_ble_eq_true rfl⟩ rfl rfl hl.1 rfl (lv_room (Nat.le_of_ble_eq_true rfl)) eX10_down_0.2.2.2.2.2.2.2.2.2.2.2.1 ⟨Nat.zero_le _, Nat.zero_le _⟩) (fun u H locs hp hP hD hS => ?_)
    obtain ⟨xZ, zU⟩ := u
    have hPD := PDm (ws' := (wd_X10_down cI cC cZ cB cJ a_m oJ uD dY iJ lJ jQ jR jW jK pJ bM aY jO gR gY mK jZ iY bG mJ jB mQ lY eJ bY bW aG jG bQ 0 jY m_length qG uW eY aJ aB bU dN aR aE bJ aW xZ gJ dU bL bR bO mY pW rD pR zU)) hP hD 4 rfl rfl rfl
    have hP := hPD.1
    have hD := hPD.2
    refine lv_aload_n hx hb eX10_down_0.2.2.2.2.2.2.2.2.2.2.2.2.1 rfl (lv_at hl 0 rfl) ?_
    have hm := mgk (wc := (wd_X10_goDown cI cC cZ cB cJ a_m oJ uD dY iJ lJ jQ jR jW jK pJ bM aY jO gR gY mK jZ iY bG mJ jB mQ lY eJ bY bW aG jG bQ 0 jY m_length qG uW eY aJ aB bU dN aR aE bJ aW xZ gJ dU bL bR bO mY pW rD pR)) hP aJN 4 rfl rfl rfl
    refine g_calli hP hD hS hA (mixT aJN) (mixF aJN) hm.1 hm.2 (nd_F _) (dis_g _) (g_runV (As := []) (rest := []) C0 hP hD hS (mixT aJN) hm.1 (nd_T _) 0 10 rfl rfl (c_X10_goDown l dC dI cI cC cZ cB cJ a_m oJ uD dY iJ lJ jQ jR jW jK pJ bM aY jO gR gY mK jZ iY bG mJ jB mQ lY eJ bY H.size bW aG jG bQ 0 jY m_length qG uW eY aJ aB bU dN aR aE bJ aW xZ gJ dU bL bR bO mY pW rD pR _ hp) q_820 q_823 q_821 q_822 q_642 h_X10_goDown rfl rfl ⟨Nat.le_of_ble_eq_true rfl, Nat.le_of_ble_eq_true rfl⟩ rfl rfl hl.1 rfl (lv_room (Nat.le_of_ble_eq_true rfl)) eX10_down_0.2.2.2.2.2.2.2.2.2.2.2.2.2.1 ⟨Nat.zero_le _, Nat.zero_le _⟩) (fun r_4 u H locs hp hP hD hS => ?_)
    obtain ⟨aBj, rfl⟩ : ∃ z, z = u := ⟨_, rfl⟩
    have hPD := PDm (ws' := (wd_X10_down cI cC cZ cB cJ a_m oJ uD dY iJ lJ jQ jR jW jK pJ bM aY jO gR gY mK jZ iY bG mJ jB mQ lY eJ bY bW aG jG bQ 0 jY m_length qG uW eY aJ aB bU dN aR aE bJ aW xZ gJ dU bL bR bO mY pW aBj pR zU)) hP hD 4 rfl rfl rfl
    have hP := hPD.1
    have hD := hPD.2
    exact W.iret (v := r_4) hx hb hr (fun t ht hW => ⟨⟨r_4, (0, xZ, aBj, zU), rfl, hp, by rw [ht]; exact hP, va_K.moved hW.alike hK, hD⟩, hS.F ht⟩) hS.2.2 eX10_down_0.2.2.2.2.2.2.2.2.2.2.2.2.2.2
  · have hp := hp.2 hc
    refine lv_bipush (v := (-2)) hx hb eX10_down_0.2.2.2.2.2.2.1 bp_m2 ?_
    exact W.iret (v := (-2)) hx hb hr (fun t ht hW => ⟨⟨(-2), (0, bT, rD, uQ), rfl, hp, by rw [ht]; exact hP, va_K.moved hW.alike hK, hD⟩, hS.F ht⟩) hS.2.2 eX10_down_0.2.2.2.2.2.2.2.1
noncomputable abbrev wd_X10_ripeOnes (cI cC cZ cB cJ : ClassId) (a_m oJ uD dY iJ lJ jQ jR jW jK pJ bM aY jO gR gY mK jZ iY bG mJ jB mQ lY eJ bY : Nat) (bW aG jG bQ dG : Int32) (jY : Nat) (m_length qG uW eY aJ aB bU dN aR aE bJ aW bT gJ dU bL bR bO mY pW : Int32) (rW : Nat → Int32) : va_W := [(a_m, .inr (10, [.ref oJ, .int bW, .ref uD, .ref dY, .ref iJ, .ref lJ, .int aG, .ref jQ, .ref jR, .ref jW, .ref jK, .int jG, .ref pJ, .int bQ, .int dG, rdv jK jO jY, .int m_length, .int qG, .int uW, .int eY, .ref bM, .ref aY, .int aJ, .int aB, .ref jO, .int bU, .int dN, .int aR, .int aE, .int bJ, .int aW, .ref gR, .int bT, .ref gY, .ref mK, .int gJ, .ref jZ, .int dU, .ref iY, .ref bG, .int bL, .int bR, .int bO, .ref mJ, .ref jB, .ref mQ, .int mY, .int pW, .ref lY, .ref eJ, .ref bY])), (lJ, .inl (cI, 16, .inl rW))]
noncomputable abbrev q_X10_ripeOnes (dC : Nat → ClassId) (dI : Nat → Nat → Nat) (cI cC cZ cB cJ : ClassId) (A : Nat → Prop) (a_m oJ uD dY iJ lJ jQ jR jW jK pJ bM aY jO gR gY mK jZ iY bG mJ jB mQ lY eJ bY : Nat) (bW aG jG bQ dG : Int32) (jY : Nat) (m_length qG uW eY aJ aB bU dN aR aE bJ aW bT gJ dU bL bR bO mY pW : Int32) (rW : Nat → Int32) (post : Int32 → Prop) : Array Value → State → Outcome → State → Prop := va_Qi (fun (r : Int32) (u : Unit) => post r) (fun u t => gB (dC, dI) (tyl cI cC cZ cB cJ) A (wd_X10_ripeOnes cI cC cZ cB cJ a_m oJ uD dY iJ lJ jQ jR jW jK pJ bM aY jO gR gY mK jZ iY bG mJ jB mQ lY eJ bY bW aG jG bQ dG jY m_length qG uW eY aJ aB bU dN aR aE bJ aW bT gJ dU bL bR bO mY pW rW) t) A
noncomputable abbrev rm_X10_ripeOnes : Room := { frames := 0, cells := 0, slots := 0, locals := 0 }
section S_X10_ripeOnes
variable {p : Program} {l : Launch} {e : Env} {s : State} {m : MethodId} {args : Array Value} {below : List Frame} {meth : Method} {c : Code} {dC : Nat → ClassId} {dI : Nat → Nat → Nat} {cI cC cZ cB cJ : ClassId} {A : Nat → Prop} {a_m oJ uD dY iJ lJ jQ jR jW jK pJ bM aY jO gR gY mK jZ iY bG mJ jB mQ lY eJ bY : Nat} {bW aG jG bQ dG : Int32} {jY : Nat} {m_length qG uW eY aJ aB bU dN aR aE bJ aW bT gJ dU bL bR bO mY pW : Int32} {rW : Nat → Int32} {post : Int32 → Prop}
noncomputable def ws_X10_ripeOnes_30 (post : Int32 → Prop) (K4 : Int32 → Int32 → Int32 → Prop) (bW : Int32) (rW : Nat → Int32) (x1 x3 k0 k1 : Int32) : Prop := ∀ v_2 : Int32, v_2 = k0 ||| k1 → ∀ v_3 : Int32, v_3 = x3 + 1 → K4 x1 v_2 v_3
set_option maxHeartbeats 4000000 in
set_option maxRecDepth 100000 in
theorem ks_X10_ripeOnes_30 (C0 : gc cX10_ripeOnes (some .int) 4 RX10 (dC, dI) (tyl cI cC cZ cB cJ) A p s m args meth c) {K4 : Int32 → Int32 → Int32 → Prop} (hK4 : ∀ (x1 : Int32) (x2 : Int32) (x3 : Int32) (H : Heap) (locs : List Loc) (ls : Array Slot), K4 x1 x2 x3 → va_P (dC, dI) classes (wd_X10_ripeOnes cI cC cZ cB cJ a_m oJ uD dY iJ lJ jQ jR jW jK pJ bM aY jO gR gY mK jZ iY bG mJ jB mQ lY eJ bY bW aG jG bQ dG jY m_length qG uW eY aJ aB bU dN aR aE bJ aW bT gJ dU bL bR bO mY pW rW) H → va_D A (wd_X10_ripeOnes cI cC cZ cB cJ a_m oJ uD dY iJ lJ jQ jR jW jK pJ bM aY jO gR gY mK jZ iY bG mJ jB mQ lY eJ bY bW aG jG bQ dG jY m_length qG uW eY aJ aB bU dN aR aE bJ aW bT gJ dU bL bR bO mY pW rW) → va_S A s.heap H locs → lv_has ls 4 [(0, .ref a_m), (1, .int x1), (2, .int x2), (3, .int x3)] → W p l e rm_X10_ripeOnes s m args below meth c H locs 0 0 (MQ below (q_X10_ripeOnes dC dI cI cC cZ cB cJ A a_m oJ uD dY iJ lJ jQ jR jW jK pJ bM aY jO gR gY mK jZ iY bG mJ jB mQ lY eJ bY bW aG jG bQ dG jY m_length qG uW eY aJ aB bU dN aR aE bJ aW bT gJ dU bL bR bO mY pW rW post) args s 0 0 A) (F0 m 4 ls [])) : ∀ (x1 x3 k0 k1 : Int32) (H : Heap) (locs : List Loc) (ls : Array Slot), (ws_X10_ripeOnes_30 post K4 bW rW) x1 x3 k0 k1 → va_P (dC, dI) classes (wd_X10_ripeOnes cI cC cZ cB cJ a_m oJ uD dY iJ lJ jQ jR jW jK pJ bM aY jO gR gY mK jZ iY bG mJ jB mQ lY eJ bY bW aG jG bQ dG jY m_length qG uW eY aJ aB bU dN aR aE bJ aW bT gJ dU bL bR bO mY pW rW) H → va_D A (wd_X10_ripeOnes cI cC cZ cB cJ a_m oJ uD dY iJ lJ jQ jR jW jK pJ bM aY jO gR gY mK jZ iY bG mJ jB mQ lY eJ bY bW aG jG bQ dG jY m_length qG uW eY aJ aB bU dN aR aE bJ aW bT gJ dU bL bR bO mY pW rW) → va_S A s.heap H locs → lv_has ls 4 [(0, .ref a_m), (1, .int x1), (3, .int x3)] → W p l e rm_X10_ripeOnes s m args below meth c H locs 0 0 (MQ below (q_X10_ripeOnes dC dI cI cC cZ cB cJ A a_m oJ uD dY iJ lJ jQ jR jW jK pJ bM aY jO gR gY mK jZ iY bG mJ jB mQ lY eJ bY bW aG jG bQ dG jY m_length qG uW eY aJ aB bU dN aR aE bJ aW bT gJ dU bL bR bO mY pW rW post) args s 0 0 A) (F0 m 30 ls [.int k1, .int k0]) := by
  obtain ⟨hx, hb, hr, hml, hown, hts, hlocks, hA, hK, hN, tL, tM, hZL, hTL, hZM, hTM, hZX⟩ := id C0
  intro x1 x3 k0 k1 H locs ls hp hP hD hS hl
  unfold ws_X10_ripeOnes_30 at hp
  refine lv_ior hx hb eX10_ripeOnes_24.2.2.2.2.1 ?_
  refine lv_topi (fun v_2 ev_2 => ?_)
  have hp := hp v_2 ev_2
  refine lv_istore_n (lv' := [(2, .int v_2), (0, .ref a_m), (1, .int x1), (3, .int x3)]) hx hb eX10_ripeOnes_24.2.2.2.2.2.1 rfl hl (by decide) rfl (fun ls hl => ?_)
  obtain ⟨v_3, ev_3⟩ : ∃ y : Int32, y = x3 + 1 := ⟨_, rfl⟩
  refine lv_iinc (v := v_3) (lv' := [(3, .int v_3), (2, .int v_2), (0, .ref a_m), (1, .int x1)]) hx hb eX10_ripeOnes_24.2.2.2.2.2.2.1 hl (k := 3) rfl (by rw [ev_3]; rfl) (by decide) rfl (fun ls hl => ?_)
  have hp := hp v_3 ev_3
  refine lv_goto (tgt := 4) hx hb eX10_ripeOnes_24.2.2.2.2.2.2.2.1 (by decide) ?_
  exact hK4 x1 v_2 v_3 H locs ls hp hP hD hS (lv_sub hl [2, 3, 1, 0] rfl)
noncomputable def ws_X10_ripeOnes_4 (post : Int32 → Prop) (next : Int32 → Int32 → Int32 → Prop) (bW : Int32) (rW : Nat → Int32) (x1 x2 x3 : Int32) : Prop := (bW ≤ x3 → post x2) ∧ (¬ bW ≤ x3 → vp_in x3 16 ∧ (∀ v_1 : Int32, v_1 = rW x3.toNatClampNeg → (x1 < v_1 → ws_X10_ripeOnes_30 post next bW rW x1 x3 x2 0) ∧ (¬ x1 < v_1 → ∀ v_4 : Int32, v_4 = 1 <<< (x3 &&& 31) → ws_X10_ripeOnes_30 post next bW rW x1 x3 x2 v_4)))
noncomputable def wb_X10_ripeOnes_4 (post : Int32 → Prop) (bW : Int32) (rW : Nat → Int32) : Nat → Int32 → Int32 → Int32 → Prop := fun n => Nat.rec (motive := fun _ => Int32 → Int32 → Int32 → Prop) (fun _ _ _ => False) (fun _ ih => ws_X10_ripeOnes_4 post ih bW rW) n
set_option maxHeartbeats 4000000 in
set_option maxRecDepth 100000 in
theorem ks_X10_ripeOnes_4 (C0 : gc cX10_ripeOnes (some .int) 4 RX10 (dC, dI) (tyl cI cC cZ cB cJ) A p s m args meth c) {next : Int32 → Int32 → Int32 → Prop} (hKn : ∀ (x1 : Int32) (x2 : Int32) (x3 : Int32) (H : Heap) (locs : List Loc) (ls : Array Slot), next x1 x2 x3 → va_P (dC, dI) classes (wd_X10_ripeOnes cI cC cZ cB cJ a_m oJ uD dY iJ lJ jQ jR jW jK pJ bM aY jO gR gY mK jZ iY bG mJ jB mQ lY eJ bY bW aG jG bQ dG jY m_length qG uW eY aJ aB bU dN aR aE bJ aW bT gJ dU bL bR bO mY pW rW) H → va_D A (wd_X10_ripeOnes cI cC cZ cB cJ a_m oJ uD dY iJ lJ jQ jR jW jK pJ bM aY jO gR gY mK jZ iY bG mJ jB mQ lY eJ bY bW aG jG bQ dG jY m_length qG uW eY aJ aB bU dN aR aE bJ aW bT gJ dU bL bR bO mY pW rW) → va_S A s.heap H locs → lv_has ls 4 [(0, .ref a_m), (1, .int x1), (2, .int x2), (3, .int x3)] → W p l e rm_X10_ripeOnes s m args below meth c H locs 0 0 (MQ below (q_X10_ripeOnes dC dI cI cC cZ cB cJ A a_m oJ uD dY iJ lJ jQ jR jW jK pJ bM aY jO gR gY mK jZ iY bG mJ jB mQ lY eJ bY bW aG jG bQ dG jY m_length qG uW eY aJ aB bU dN aR aE bJ aW bT gJ dU bL bR bO mY pW rW post) args s 0 0 A) (F0 m 4 ls [])) : ∀ (x1 x2 x3 : Int32) (H : Heap) (locs : List Loc) (ls : Array Slot), (ws_X10_ripeOnes_4 post next bW rW) x1 x2 x3 → va_P (dC, dI) classes (wd_X10_ripeOnes cI cC cZ cB cJ a_m oJ uD dY iJ lJ jQ jR jW jK pJ bM aY jO gR gY mK jZ iY bG mJ jB mQ lY eJ bY bW aG jG bQ dG jY m_length qG uW eY aJ aB bU dN aR aE bJ aW bT gJ dU bL bR bO mY pW rW) H → va_D A (wd_X10_ripeOnes cI cC cZ cB cJ a_m oJ uD dY iJ lJ jQ jR jW jK pJ bM aY jO gR gY mK jZ iY bG mJ jB mQ lY eJ bY bW aG jG bQ dG jY m_length qG uW eY aJ aB bU dN aR aE bJ aW bT gJ dU bL bR bO mY pW rW) → va_S A s.heap H locs → lv_has ls 4 [(0, .ref a_m), (1, .int x1), (2, .int x2), (3, .int x3)] → W p l e rm_X10_ripeOnes s m args below meth c H locs 0 0 (MQ below (q_X10_ripeOnes dC dI cI cC cZ cB cJ A a_m oJ uD dY iJ lJ jQ jR jW jK pJ bM aY jO gR gY mK jZ iY bG mJ jB mQ lY eJ bY bW aG jG bQ dG jY m_length qG uW eY aJ aB bU dN aR aE bJ aW bT gJ dU bL bR bO mY pW rW post) args s 0 0 A) (F0 m 4 ls []) := by
  obtain ⟨hx, hb, hr, hml, hown, hts, hlocks, hA, hK, hN, tL, tM, hZL, hTL, hZM, hTM, hZX⟩ := id C0
  intro x1 x2 x3 H locs ls hp hP hD hS hl
  unfold ws_X10_ripeOnes_4 at hp
  refine lv_iload_n hx hb eX10_ripeOnes_0.2.2.2.2.1 rfl (lv_at hl 3 rfl) ?_
  refine lv_aload_n hx hb eX10_ripeOnes_0.2.2.2.2.2.1 rfl (lv_at hl 0 rfl) ?_
  refine va_get (D := (dC, dI)) (ci := 10) (v := .int bW) (C := RX10) (T := TX10) (N := 51) hx hb hts i_X10 hown hK hP 0 rfl rfl 1 (Nat.le_of_ble_eq_true rfl) (hts _ q_677) (fun _ h9 => h9) rfl eX10_ripeOnes_0.2.2.2.2.2.2.1 ?_
  refine lv_icmp_ge (tgt := 38) hx hb eX10_ripeOnes_0.2.2.2.2.2.2.2.1 (by decide) (fun hc => ?_) (fun hc => ?_)
  · have hp := hp.1 hc
    refine lv_iload_n hx hb eX10_ripeOnes_24.2.2.2.2.2.2.2.2.1 rfl (lv_at hl 2 rfl) ?_
    exact W.iret (v := x2) hx hb hr (fun t ht hW => ⟨⟨x2, (), rfl, hp, by rw [ht]; exact hP, va_K.moved hW.alike hK, hD⟩, hS.F ht⟩) hS.2.2 eX10_ripeOnes_24.2.2.2.2.2.2.2.2.2
  · have hp := hp.2 hc
    refine lv_iload_n hx hb eX10_ripeOnes_0.2.2.2.2.2.2.2.2.1 rfl (lv_at hl 2 rfl) ?_
    refine lv_aload_n hx hb eX10_ripeOnes_0.2.2.2.2.2.2.2.2.2.1 rfl (lv_at hl 0 rfl) ?_
    refine va_get (D := (dC, dI)) (ci := 10) (v := .ref lJ) (C := RX10) (T := TX10) (N := 51) hx hb hts i_X10 hown hK hP 0 rfl rfl 5 (Nat.le_of_ble_eq_true rfl) (hts _ q_691) (fun _ h9 => h9) rfl eX10_ripeOnes_0.2.2.2.2.2.2.2.2.2.2.1 ?_
    refine lv_iload_n hx hb eX10_ripeOnes_0.2.2.2.2.2.2.2.2.2.2.2.1 rfl (lv_at hl 3 rfl) ?_
    have hin := hp.1
    have hp := hp.2
    refine va_iald hx hb hK hP 1 0 rfl rfl hin eX10_ripeOnes_0.2.2.2.2.2.2.2.2.2.2.2.2.1 ?_
    refine lv_topi (fun v_1 ev_1 => ?_)
    have hp := hp v_1 ev_1
    refine lv_iload_n hx hb eX10_ripeOnes_0.2.2.2.2.2.2.2.2.2.2.2.2.2.1 rfl (lv_at hl 1 rfl) ?_
    refine lv_icmp_gt (tgt := 29) hx hb eX10_ripeOnes_0.2.2.2.2.2.2.2.2.2.2.2.2.2.2.1 (by decide) (fun hc => ?_) (fun hc => ?_)
    · have hp := hp.1 hc
      refine lv_iconst (v := 0) hx hb eX10_ripeOnes_24.2.2.2.1 ic_0 ?_
      exact ks_X10_ripeOnes_30 C0 hKn x1 x3 x2 0 H locs ls hp hP hD hS (lv_sub hl [0, 1, 3] rfl)
    · have hp := hp.2 hc
      refine lv_iconst (v := 1) hx hb eX10_ripeOnes_0.2.2.2.2.2.2.2.2.2.2.2.2.2.2.2 ic_1 ?_
      refine lv_iload_n hx hb eX10_ripeOnes_24.1 rfl (lv_at hl 3 rfl) ?_
      refine lv_ishl hx hb eX10_ripeOnes_24.2.1 ?_
      refine lv_topi (fun v_4 ev_4 => ?_)
      have hp := hp v_4 ev_4
      refine lv_goto (tgt := 30) hx hb eX10_ripeOnes_24.2.2.1 (by decide) ?_
      exact ks_X10_ripeOnes_30 C0 hKn x1 x3 x2 v_4 H locs ls hp hP hD hS (lv_sub hl [0, 1, 3] rfl)
set_option maxHeartbeats 4000000 in
set_option maxRecDepth 100000 in
theorem kb_X10_ripeOnes_4 (C0 : gc cX10_ripeOnes (some .int) 4 RX10 (dC, dI) (tyl cI cC cZ cB cJ) A p s m args meth c) : ∀ (n : Nat), ∀ (x1 x2 x3 : Int32) (H : Heap) (locs : List Loc) (ls : Array Slot), (wb_X10_ripeOnes_4 post bW rW n) x1 x2 x3 → va_P (dC, dI) classes (wd_X10_ripeOnes cI cC cZ cB cJ a_m oJ uD dY iJ lJ jQ jR jW jK pJ bM aY jO gR gY mK jZ iY bG mJ jB mQ lY eJ bY bW aG jG bQ dG jY m_length qG uW eY aJ aB bU dN aR aE bJ aW bT gJ dU bL bR bO mY pW rW) H → va_D A (wd_X10_ripeOnes cI cC cZ cB cJ a_m oJ uD dY iJ lJ jQ jR jW jK pJ bM aY jO gR gY mK jZ iY bG mJ jB mQ lY eJ bY bW aG jG bQ dG jY m_length qG uW eY aJ aB bU dN aR aE bJ aW bT gJ dU bL bR bO mY pW rW) → va_S A s.heap H locs → lv_has ls 4 [(0, .ref a_m), (1, .int x1), (2, .int x2), (3, .int x3)] → W p l e rm_X10_ripeOnes s m args below meth c H locs 0 0 (MQ below (q_X10_ripeOnes dC dI cI cC cZ cB cJ A a_m oJ uD dY iJ lJ jQ jR jW jK pJ bM aY jO gR gY mK jZ iY bG mJ jB mQ lY eJ bY bW aG jG bQ dG jY m_length qG uW eY aJ aB bU dN aR aE bJ aW bT gJ dU bL bR bO mY pW rW post) args s 0 0 A) (F0 m 4 ls []) := by
  intro n
  induction n with
  | zero =>
    intro x1 x2 x3 H locs ls hp
    exact False.elim hp
  | succ n ih =>
    intro x1 x2 x3 H locs ls hp
    exact ks_X10_ripeOnes_4 C0 ih x1 x2 x3 H locs ls hp
end S_X10_ripeOnes
noncomputable def wp_X10_ripeOnes (post : Int32 → Prop) (p0 bW : Int32) (rW : Nat → Int32) : Prop := ∃ n : Nat, wb_X10_ripeOnes_4 post bW rW n p0 0 0
set_option maxHeartbeats 4000000 in
set_option maxRecDepth 100000 in
theorem c_X10_ripeOnes (l : Launch) (dC : Nat → ClassId) (dI : Nat → Nat → Nat) (cI cC cZ cB cJ : ClassId) (a_m oJ uD dY iJ lJ jQ jR jW jK pJ bM aY jO gR gY mK jZ iY bG mJ jB mQ lY eJ bY sz : Nat) (p0 bW aG jG bQ dG : Int32) (jY : Nat) (m_length qG uW eY aJ aB bU dN aR aE bJ aW bT gJ dU bL bR bO mY pW : Int32) (rW : Nat → Int32) (post : Int32 → Prop) (hw : wp_X10_ripeOnes post p0 bW rW) : Met l yX10_ripeOnes (gw yX10_ripeOnes cX10_ripeOnes 4 (some .int)) rm_X10_ripeOnes (va_Pc [.ref a_m, .int p0] (gPre (dC, dI) (tyl cI cC cZ cB cJ) (wd_X10_ripeOnes cI cC cZ cB cJ a_m oJ uD dY iJ lJ jQ jR jW jK pJ bM aY jO gR gY mK jZ iY bG mJ jB mQ lY eJ bY bW aG jG bQ dG jY m_length qG uW eY aJ aB bU dN aR aE bJ aW bT gJ dU bL bR bO mY pW rW) sz)) (q_X10_ripeOnes dC dI cI cC cZ cB cJ (va_A (wd_X10_ripeOnes cI cC cZ cB cJ a_m oJ uD dY iJ lJ jQ jR jW jK pJ bM aY jO gR gY mK jZ iY bG mJ jB mQ lY eJ bY bW aG jG bQ dG jY m_length qG uW eY aJ aB bU dN aR aE bJ aW bT gJ dU bL bR bO mY pW rW) sz) a_m oJ uD dY iJ lJ jQ jR jW jK pJ bM aY jO gR gY mK jZ iY bG mJ jB mQ lY eJ bY bW aG jG bQ dG jY m_length qG uW eY aJ aB bU dN aR aE bJ aW bT gJ dU bL bR bO mY pW rW post) 0 0 (va_A (wd_X10_ripeOnes cI cC cZ cB cJ a_m oJ uD dY iJ lJ jQ jR jW jK pJ bM aY jO gR gY mK jZ iY bG mJ jB mQ lY eJ bY bW aG jG bQ dG jY m_length qG uW eY aJ aB bU dN aR aE bJ aW bT gJ dU bL bR bO mY pW rW) sz) := by
  refine g_enter (own := RX10) (dC, dI) (tyl cI cC cZ cB cJ) (wd_X10_ripeOnes cI cC cZ cB cJ a_m oJ uD dY iJ lJ jQ jR jW jK pJ bM aY jO gR gY mK jZ iY bG mJ jB mQ lY eJ bY bW aG jG bQ dG jY m_length qG uW eY aJ aB bU dN aR aE bJ aW bT gJ dU bL bR bO mY pW rW) sz [.ref a_m, .int p0] (fun A => q_X10_ripeOnes dC dI cI cC cZ cB cJ A a_m oJ uD dY iJ lJ jQ jR jW jK pJ bM aY jO gR gY mK jZ iY bG mJ jB mQ lY eJ bY bW aG jG bQ dG jY m_length qG uW eY aJ aB bU dN aR aE bJ aW bT gJ dU bL bR bO mY pW rW post) pn_RX10 rfl (Nat.le_of_ble_eq_true rfl) ?_
  intro p e s m args below meth c A H locs ls C0 hP hD hS hl
  have hl : lv_has ls 4 [(0, .ref a_m), (1, .int p0)] := hl
  obtain ⟨hx, hb, hr, hml, hown, hts, hlocks, hA, hK, hN, tL, tM, hZL, hTL, hZM, hTM, hZX⟩ := id C0
  have hp := hw
  unfold wp_X10_ripeOnes at hp
  refine lv_iconst (v := 0) hx hb eX10_ripeOnes_0.1 ic_0 ?_
  refine lv_istore_n (lv' := [(2, .int 0), (0, .ref a_m), (1, .int p0)]) hx hb eX10_ripeOnes_0.2.1 rfl hl (by decide) rfl (fun ls hl => ?_)
  refine lv_iconst (v := 0) hx hb eX10_ripeOnes_0.2.2.1 ic_0 ?_
  refine lv_istore_n (lv' := [(3, .int 0), (2, .int 0), (0, .ref a_m), (1, .int p0)]) hx hb eX10_ripeOnes_0.2.2.2.1 rfl hl (by decide) rfl (fun ls hl => ?_)
  obtain ⟨n9, hp⟩ := hp
  exact kb_X10_ripeOnes_4 C0 n9 p0 0 0 H locs ls hp hP hD hS (lv_sub hl [2, 3, 1, 0] rfl)
noncomputable abbrev wd_X10_reachedFrom (cI cC cZ cB cJ : ClassId) (a_m oJ uD dY iJ lJ jQ jR jW jK pJ bM aY jO gR gY mK jZ iY bG mJ jB mQ lY eJ bY : Nat) (bW aG jG bQ dG : Int32) (jY : Nat) (m_length qG uW eY aJ aB bU dN aR aE bJ aW bT gJ dU bL bR bO mY pW : Int32) (m_x jA oY pR pX : Nat → Int32) : va_W := [(a_m, .inr (10, [.ref oJ, .int bW, .ref uD, .ref dY, .ref iJ, .ref lJ, .int aG, .ref jQ, .ref jR, .ref jW, .ref jK, .int jG, .ref pJ, .int bQ, .int dG, rdv jK jO jY, .int m_length, .int qG, .int uW, .int eY, .ref bM, .ref aY, .int aJ, .int aB, .ref jO, .int bU, .int dN, .int aR, .int aE, .int bJ, .int aW, .ref gR, .int bT, .ref gY, .ref mK, .int gJ, .ref jZ, .int dU, .ref iY, .ref bG, .int bL, .int bR, .int bO, .ref mJ, .ref jB, .ref mQ, .int mY, .int pW, .ref lY, .ref eJ, .ref bY])), (uD, .inl (cI, 16, .inl m_x)), (dY, .inl (cI, 16, .inl jA)), (jQ, .inl (cI, 8, .inl oY)), (jR, .inl (cI, 8, .inl pR)), (jW, .inl (cI, 5, .inl pX))]
noncomputable abbrev q_X10_reachedFrom (dC : Nat → ClassId) (dI : Nat → Nat → Nat) (cI cC cZ cB cJ : ClassId) (A : Nat → Prop) (a_m oJ uD dY iJ lJ jQ jR jW jK pJ bM aY jO gR gY mK jZ iY bG mJ jB mQ lY eJ bY : Nat) (bW aG jG bQ dG : Int32) (jY : Nat) (m_length qG uW eY aJ aB bU dN aR aE bJ aW bT gJ dU bL bR bO mY pW : Int32) (m_x jA oY pR pX : Nat → Int32) (post : Int32 → Prop) : Array Value → State → Outcome → State → Prop := va_Qi (fun (r : Int32) (u : Unit) => post r) (fun u t => gB (dC, dI) (tyl cI cC cZ cB cJ) A (wd_X10_reachedFrom cI cC cZ cB cJ a_m oJ uD dY iJ lJ jQ jR jW jK pJ bM aY jO gR gY mK jZ iY bG mJ jB mQ lY eJ bY bW aG jG bQ dG jY m_length qG uW eY aJ aB bU dN aR aE bJ aW bT gJ dU bL bR bO mY pW m_x jA oY pR pX) t) A
noncomputable abbrev rm_X10_reachedFrom : Room := { frames := 3, cells := 0, slots := 0, locals := 66 }
section S_X10_reachedFrom
variable {p : Program} {l : Launch} {e : Env} {s : State} {m : MethodId} {args : Array Value} {below : List Frame} {meth : Method} {c : Code} {dC : Nat → ClassId} {dI : Nat → Nat → Nat} {cI cC cZ cB cJ : ClassId} {A : Nat → Prop} {a_m oJ uD dY iJ lJ jQ jR jW jK pJ bM aY jO gR gY mK jZ iY bG mJ jB mQ lY eJ bY : Nat} {bW aG jG bQ dG : Int32} {jY : Nat} {m_length qG uW eY aJ aB bU dN aR aE bJ aW bT gJ dU bL bR bO mY pW : Int32} {m_x jA oY pR pX : Nat → Int32} {post : Int32 → Prop}
noncomputable def ws_X10_reachedFrom_41 (post : Int32 → Prop) (K6 : Int32 → Int32 → Int32 → Int32 → Int32 → Prop) (bW : Int32) (m_x jA oY pR pX : Nat → Int32) (x1 x2 x3 x5 k0 k1 : Int32) : Prop := ∀ v_3 : Int32, v_3 = k0 ||| k1 → ∀ v_4 : Int32, v_4 = x5 + 1 → K6 x1 x2 x3 v_3 v_4
set_option maxHeartbeats 4000000 in
set_option maxRecDepth 100000 in
theorem ks_X10_reachedFrom_41 (C0 : gc cX10_reachedFrom (some .int) 6 RX10 (dC, dI) (tyl cI cC cZ cB cJ) A p s m args meth c) {K6 : Int32 → Int32 → Int32 → Int32 → Int32 → Prop} (hK6 : ∀ (x1 : Int32) (x2 : Int32) (x3 : Int32) (x4 : Int32) (x5 : Int32) (H : Heap) (locs : List Loc) (ls : Array Slot), K6 x1 x2 x3 x4 x5 → va_P (dC, dI) classes (wd_X10_reachedFrom cI cC cZ cB cJ a_m oJ uD dY iJ lJ jQ jR jW jK pJ bM aY jO gR gY mK jZ iY bG mJ jB mQ lY eJ bY bW aG jG bQ dG jY m_length qG uW eY aJ aB bU dN aR aE bJ aW bT gJ dU bL bR bO mY pW m_x jA oY pR pX) H → va_D A (wd_X10_reachedFrom cI cC cZ cB cJ a_m oJ uD dY iJ lJ jQ jR jW jK pJ bM aY jO gR gY mK jZ iY bG mJ jB mQ lY eJ bY bW aG jG bQ dG jY m_length qG uW eY aJ aB bU dN aR aE bJ aW bT gJ dU bL bR bO mY pW m_x jA oY pR pX) → va_S A s.heap H locs → lv_has ls 6 [(0, .ref a_m), (1, .int x1), (2, .int x2), (3, .int x3), (4, .int x4), (5, .int x5)] → W p l e rm_X10_reachedFrom s m args below meth c H locs 0 0 (MQ below (q_X10_reachedFrom dC dI cI cC cZ cB cJ A a_m oJ uD dY iJ lJ jQ jR jW jK pJ bM aY jO gR gY mK jZ iY bG mJ jB mQ lY eJ bY bW aG jG bQ dG jY m_length qG uW eY aJ aB bU dN aR aE bJ aW bT gJ dU bL bR bO mY pW m_x jA oY pR pX post) args s 0 0 A) (F0 m 6 ls [])) : ∀ (x1 x2 x3 x5 k0 k1 : Int32) (H : Heap) (locs : List Loc) (ls : Array Slot), (ws_X10_reachedFrom_41 post K6 bW m_x jA oY pR pX) x1 x2 x3 x5 k0 k1 → va_P (dC, dI) classes (wd_X10_reachedFrom cI cC cZ cB cJ a_m oJ uD dY iJ lJ jQ jR jW jK pJ bM aY jO gR gY mK jZ iY bG mJ jB mQ lY eJ bY bW aG jG bQ dG jY m_length qG uW eY aJ aB bU dN aR aE bJ aW bT gJ dU bL bR bO mY pW m_x jA oY pR pX) H → va_D A (wd_X10_reachedFrom cI cC cZ cB cJ a_m oJ uD dY iJ lJ jQ jR jW jK pJ bM aY jO gR gY mK jZ iY bG mJ jB mQ lY eJ bY bW aG jG bQ dG jY m_length qG uW eY aJ aB bU dN aR aE bJ aW bT gJ dU bL bR bO mY pW m_x jA oY pR pX) → va_S A s.heap H locs → lv_has ls 6 [(0, .ref a_m), (1, .int x1), (2, .int x2), (3, .int x3), (5, .int x5)] → W p l e rm_X10_reachedFrom s m args below meth c H locs 0 0 (MQ below (q_X10_reachedFrom dC dI cI cC cZ cB cJ A a_m oJ uD dY iJ lJ jQ jR jW jK pJ bM aY jO gR gY mK jZ iY bG mJ jB mQ lY eJ bY bW aG jG bQ dG jY m_length qG uW eY aJ aB bU dN aR aE bJ aW bT gJ dU bL bR bO mY pW m_x jA oY pR pX post) args s 0 0 A) (F0 m 41 ls [.int k1, .int k0]) := by
  obtain ⟨hx, hb, hr, hml, hown, hts, hlocks, hA, hK, hN, tL, tM, hZL, hTL, hZM, hTM, hZX⟩ := id C0
  intro x1 x2 x3 x5 k0 k1 H locs ls hp hP hD hS hl
  unfold ws_X10_reachedFrom_41 at hp
  refine lv_ior hx hb eX10_reachedFrom_27.2.2.2.2.2.2.2.1 ?_
  refine lv_topi (fun v_3 ev_3 => ?_)
  have hp := hp v_3 ev_3
  refine lv_istore (lv' := [(4, .int v_3), (0, .ref a_m), (1, .int x1), (2, .int x2), (3, .int x3), (5, .int x5)]) hx hb eX10_reachedFrom_27.2.2.2.2.2.2.2.2.1 hl (by decide) rfl (fun ls hl => ?_)
  obtain ⟨v_4, ev_4⟩ : ∃ y : Int32, y = x5 + 1 := ⟨_, rfl⟩
  refine lv_iinc (v := v_4) (lv' := [(5, .int v_4), (4, .int v_3), (0, .ref a_m), (1, .int x1), (2, .int x2), (3, .int x3)]) hx hb eX10_reachedFrom_27.2.2.2.2.2.2.2.2.2.1 hl (k := 5) rfl (by rw [ev_4]; rfl) (by decide) rfl (fun ls hl => ?_)
  have hp := hp v_4 ev_4
  refine lv_goto (tgt := 6) hx hb eX10_reachedFrom_27.2.2.2.2.2.2.2.2.2.2.1 (by decide) ?_
  exact hK6 x1 x2 x3 v_3 v_4 H locs ls hp hP hD hS (lv_sub hl [2, 3, 4, 5, 1, 0] rfl)
noncomputable def ws_X10_reachedFrom_6 (post : Int32 → Prop) (next : Int32 → Int32 → Int32 → Int32 → Int32 → Prop) (bW : Int32) (m_x jA oY pR pX : Nat → Int32) (x1 x2 x3 x4 x5 : Int32) : Prop := (bW ≤ x5 → post x4) ∧ (¬ bW ≤ x5 → wp_X10_reachBy (fun r_1 => wp_X10_isWithin (fun r_2 => (r_2 = 0 → ws_X10_reachedFrom_41 post next bW m_x jA oY pR pX x1 x2 x3 x5 x4 0) ∧ (¬ r_2 = 0 → ∀ v_5 : Int32, v_5 = 1 <<< (x5 &&& 31) → ws_X10_reachedFrom_41 post next bW m_x jA oY pR pX x1 x2 x3 x5 x4 v_5)) x5 x1 r_1 m_x jA oY pR) x2 x3 pX)
noncomputable def wb_X10_reachedFrom_6 (post : Int32 → Prop) (bW : Int32) (m_x jA oY pR pX : Nat → Int32) : Nat → Int32 → Int32 → Int32 → Int32 → Int32 → Prop := fun n => Nat.rec (motive := fun _ => Int32 → Int32 → Int32 → Int32 → Int32 → Prop) (fun _ _ _ _ _ => False) (fun _ ih => ws_X10_reachedFrom_6 post ih bW m_x jA oY pR pX) n
set_option maxHeartbeats 4000000 in
set_option maxRecDepth 100000 in
theorem ks_X10_reachedFrom_6 (C0 : gc cX10_reachedFrom (some .int) 6 RX10 (dC, dI) (tyl cI cC cZ cB cJ) A p s m args meth c) {next : Int32 → Int32 → Int32 → Int32 → Int32 → Prop} (hKn : ∀ (x1 : Int32) (x2 : Int32) (x3 : Int32) (x4 : Int32) (x5 : Int32) (H : Heap) (locs : List Loc) (ls : Array Slot), next x1 x2 x3 x4 x5 → va_P (dC, dI) classes (wd_X10_reachedFrom cI cC cZ cB cJ a_m oJ uD dY iJ lJ jQ jR jW jK pJ bM aY jO gR gY mK jZ iY bG mJ jB mQ lY eJ bY bW aG jG bQ dG jY m_length qG uW eY aJ aB bU dN aR aE bJ aW bT gJ dU bL bR bO mY pW m_x jA oY pR pX) H → va_D A (wd_X10_reachedFrom cI cC cZ cB cJ a_m oJ uD dY iJ lJ jQ jR jW jK pJ bM aY jO gR gY mK jZ iY bG mJ jB mQ lY eJ bY bW aG jG bQ dG jY m_length qG uW eY aJ aB bU dN aR aE bJ aW bT gJ dU bL bR bO mY pW m_x jA oY pR pX) → va_S A s.heap H locs → lv_has ls 6 [(0, .ref a_m), (1, .int x1), (2, .int x2), (3, .int x3), (4, .int x4), (5, .int x5)] → W p l e rm_X10_reachedFrom s m args below meth c H locs 0 0 (MQ below (q_X10_reachedFrom dC dI cI cC cZ cB cJ A a_m oJ uD dY iJ lJ jQ jR jW jK pJ bM aY jO gR gY mK jZ iY bG mJ jB mQ lY eJ bY bW aG jG bQ dG jY m_length qG uW eY aJ aB bU dN aR aE bJ aW bT gJ dU bL bR bO mY pW m_x jA oY pR pX post) args s 0 0 A) (F0 m 6 ls [])) : ∀ (x1 x2 x3 x4 x5 : Int32) (H : Heap) (locs : List Loc) (ls : Array Slot), (ws_X10_reachedFrom_6 post next bW m_x jA oY pR pX) x1 x2 x3 x4 x5 → va_P (dC, dI) classes (wd_X10_reachedFrom cI cC cZ cB cJ a_m oJ uD dY iJ lJ jQ jR jW jK pJ bM aY jO gR gY mK jZ iY bG mJ jB mQ lY eJ bY bW aG jG bQ dG jY m_length qG uW eY aJ aB bU dN aR aE bJ aW bT gJ dU bL bR bO mY pW m_x jA oY pR pX) H → va_D A (wd_X10_reachedFrom cI cC cZ cB cJ a_m oJ uD dY iJ lJ jQ jR jW jK pJ bM aY jO gR gY mK jZ iY bG mJ jB mQ lY eJ bY bW aG jG bQ dG jY m_length qG uW eY aJ aB bU dN aR aE bJ aW bT gJ dU bL bR bO mY pW m_x jA oY pR pX) → va_S A s.heap H locs → lv_has ls 6 [(0, .ref a_m), (1, .int x1), (2, .int x2), (3, .int x3), (4, .int x4), (5, .int x5)] → W p l e rm_X10_reachedFrom s m args below meth c H locs 0 0 (MQ below (q_X10_reachedFrom dC dI cI cC cZ cB cJ A a_m oJ uD dY iJ lJ jQ jR jW jK pJ bM aY jO gR gY mK jZ iY bG mJ jB mQ lY eJ bY bW aG jG bQ dG jY m_length qG uW eY aJ aB bU dN aR aE bJ aW bT gJ dU bL bR bO mY pW m_x jA oY pR pX post) args s 0 0 A) (F0 m 6 ls []) := by
  obtain ⟨hx, hb, hr, hml, hown, hts, hlocks, hA, hK, hN, tL, tM, hZL, hTL, hZM, hTM, hZX⟩ := id C0
  intro x1 x2 x3 x4 x5 H locs ls hp hP hD hS hl
  unfold ws_X10_reachedFrom_6 at hp
  refine lv_iload hx hb eX10_reachedFrom_0.2.2.2.2.1 (lv_at hl 5 rfl) ?_
  refine lv_aload_n hx hb eX10_reachedFrom_0.2.2.2.2.2.1 rfl (lv_at hl 0 rfl) ?_
  refine va_get (D := (dC, dI)) (ci := 10) (v := .int bW) (C := RX10) (T := TX10) (N := 51) hx hb hts i_X10 hown hK hP 0 rfl rfl 1 (Nat.le_of_ble_eq_true rfl) (hts _ q_677) (fun _ h9 => h9) rfl eX10_reachedFrom_0.2.2.2.2.2.2.1 ?_
  refine lv_icmp_ge (tgt := 50) hx hb eX10_reachedFrom_0.2.2.2.2.2.2.2.1 (by decide) (fun hc => ?_) (fun hc => ?_)
  · have hp := hp.1 hc
    refine lv_iload hx hb eX10_reachedFrom_27.2.2.2.2.2.2.2.2.2.2.2.1 (lv_at hl 4 rfl) ?_
    exact W.iret (v := x4) hx hb hr (fun t ht hW => ⟨⟨x4, (), rfl, hp, by rw [ht]; exact hP, va_K.moved hW.alike hK, hD⟩, hS.F ht⟩) hS.2.2 eX10_reachedFrom_27.2.2.2.2.2.2.2.2.2.2.2.2
  · have hp := hp.2 hc
    refine lv_iload hx hb eX10_reachedFrom_0.2.2.2.2.2.2.2.2.1 (lv_at hl 4 rfl) ?_
    refine lv_aload_n hx hb eX10_reachedFrom_0.2.2.2.2.2.2.2.2.2.1 rfl (lv_at hl 0 rfl) ?_
    refine lv_iload hx hb eX10_reachedFrom_0.2.2.2.2.2.2.2.2.2.2.1 (lv_at hl 5 rfl) ?_
    refine lv_iload_n hx hb eX10_reachedFrom_0.2.2.2.2.2.2.2.2.2.2.2.1 rfl (lv_at hl 1 rfl) ?_
    refine lv_aload_n hx hb eX10_reachedFrom_0.2.2.2.2.2.2.2.2.2.2.2.2.1 rfl (lv_at hl 0 rfl) ?_
    refine lv_iload_n hx hb eX10_reachedFrom_0.2.2.2.2.2.2.2.2.2.2.2.2.2.1 rfl (lv_at hl 2 rfl) ?_
    refine lv_iload_n hx hb eX10_reachedFrom_0.2.2.2.2.2.2.2.2.2.2.2.2.2.2.1 rfl (lv_at hl 3 rfl) ?_
    have hm := mgk (wc := (wd_X10_reachBy cI cC cZ cB cJ a_m oJ uD dY iJ lJ jQ jR jW jK pJ bM aY jO gR gY mK jZ iY bG mJ jB mQ lY eJ bY bW aG jG bQ dG jY m_length qG uW eY aJ aB bU dN aR aE bJ aW bT gJ dU bL bR bO mY pW pX)) hP mk_222 6 rfl rfl rfl
    refine g_calli hP hD hS hA (mixT mk_222) (mixF mk_222) hm.1 hm.2 (nd_F _) (dis_g _) (g_runV (As := [.int x2, .int x3]) (rest := [.int x1, .int x5, .ref a_m, .int x4]) C0 hP hD hS (mixT mk_222) hm.1 (nd_T _) 0 10 rfl rfl (c_X10_reachBy l dC dI cI cC cZ cB cJ a_m oJ uD dY iJ lJ jQ jR jW jK pJ bM aY jO gR gY mK jZ iY bG mJ jB mQ lY eJ bY H.size x2 x3 bW aG jG bQ dG jY m_length qG uW eY aJ aB bU dN aR aE bJ aW bT gJ dU bL bR bO mY pW pX _ hp) q_795 q_798 q_796 q_797 q_642 h_X10_reachBy rfl rfl ⟨Nat.le_of_ble_eq_true rfl, Nat.le_of_ble_eq_true rfl⟩ rfl rfl hl.1 rfl (lv_room (Nat.le_of_ble_eq_true rfl)) eX10_reachedFrom_0.2.2.2.2.2.2.2.2.2.2.2.2.2.2.2 ⟨Nat.zero_le _, Nat.zero_le _⟩) (fun r_1 u H locs hp hP hD hS => ?_)
    have hPD := PDm (ws' := (wd_X10_reachedFrom cI cC cZ cB cJ a_m oJ uD dY iJ lJ jQ jR jW jK pJ bM aY jO gR gY mK jZ iY bG mJ jB mQ lY eJ bY bW aG jG bQ dG jY m_length qG uW eY aJ aB bU dN aR aE bJ aW bT gJ dU bL bR bO mY pW m_x jA oY pR pX)) hP hD 6 rfl rfl rfl
    have hP := hPD.1
    have hD := hPD.2
    have hm := mgk (wc := (wd_X10_isWithin cI cC cZ cB cJ a_m oJ uD dY iJ lJ jQ jR jW jK pJ bM aY jO gR gY mK jZ iY bG mJ jB mQ lY eJ bY bW aG jG bQ dG jY m_length qG uW eY aJ aB bU dN aR aE bJ aW bT gJ dU bL bR bO mY pW m_x jA oY pR)) hP mk_122 6 rfl rfl rfl
    refine g_calli hP hD hS hA (mixT mk_122) (mixF mk_122) hm.1 hm.2 (nd_F _) (dis_g _) (g_runV (As := [.int x5, .int x1, .int r_1]) (rest := [.int x4]) C0 hP hD hS (mixT mk_122) hm.1 (nd_T _) 0 10 rfl rfl (c_X10_isWithin l dC dI cI cC cZ cB cJ a_m oJ uD dY iJ lJ jQ jR jW jK pJ bM aY jO gR gY mK jZ iY bG mJ jB mQ lY eJ bY H.size x5 x1 r_1 bW aG jG bQ dG jY m_length qG uW eY aJ aB bU dN aR aE bJ aW bT gJ dU bL bR bO mY pW m_x jA oY pR _ hp) q_799 q_802 q_800 q_801 q_642 h_X10_isWithin rfl rfl ⟨Nat.le_of_ble_eq_true rfl, Nat.le_of_ble_eq_true rfl⟩ rfl rfl hl.1 rfl (lv_room (Nat.le_of_ble_eq_true rfl)) eX10_reachedFrom_27.1 ⟨Nat.zero_le _, Nat.zero_le _⟩) (fun r_2 u H locs hp hP hD hS => ?_)
    have hPD := PDm (ws' := (wd_X10_reachedFrom cI cC cZ cB cJ a_m oJ uD dY iJ lJ jQ jR jW jK pJ bM aY jO gR gY mK jZ iY bG mJ jB mQ lY eJ bY bW aG jG bQ dG jY m_length qG uW eY aJ aB bU dN aR aE bJ aW bT gJ dU bL bR bO mY pW m_x jA oY pR pX)) hP hD 6 rfl rfl rfl
    have hP := hPD.1
    have hD := hPD.2
    refine lv_if_eq (tgt := 40) hx hb eX10_reachedFrom_27.2.1 (by decide) (fun hc => ?_) (fun hc => ?_)
    · have hp := hp.1 hc
      refine lv_iconst (v := 0) hx hb eX10_reachedFrom_27.2.2.2.2.2.2.1 ic_0 ?_
      exact ks_X10_reachedFrom_41 C0 hKn x1 x2 x3 x5 x4 0 H locs ls hp hP hD hS (lv_sub hl [0, 1, 2, 3, 5] rfl)
    · have hp := hp.2 hc
      refine lv_iconst (v := 1) hx hb eX10_reachedFrom_27.2.2.1 ic_1 ?_
      refine lv_iload hx hb eX10_reachedFrom_27.2.2.2.1 (lv_at hl 5 rfl) ?_
      refine lv_ishl hx hb eX10_reachedFrom_27.2.2.2.2.1 ?_
      refine lv_topi (fun v_5 ev_5 => ?_)
      have hp := hp v_5 ev_5
      refine lv_goto (tgt := 41) hx hb eX10_reachedFrom_27.2.2.2.2.2.1 (by decide) ?_
      exact ks_X10_reachedFrom_41 C0 hKn x1 x2 x3 x5 x4 v_5 H locs ls hp hP hD hS (lv_sub hl [0, 1, 2, 3, 5] rfl)
set_option maxHeartbeats 4000000 in
set_option maxRecDepth 100000 in
theorem kb_X10_reachedFrom_6 (C0 : gc cX10_reachedFrom (some .int) 6 RX10 (dC, dI) (tyl cI cC cZ cB cJ) A p s m args meth c) : ∀ (n : Nat), ∀ (x1 x2 x3 x4 x5 : Int32) (H : Heap) (locs : List Loc) (ls : Array Slot), (wb_X10_reachedFrom_6 post bW m_x jA oY pR pX n) x1 x2 x3 x4 x5 → va_P (dC, dI) classes (wd_X10_reachedFrom cI cC cZ cB cJ a_m oJ uD dY iJ lJ jQ jR jW jK pJ bM aY jO gR gY mK jZ iY bG mJ jB mQ lY eJ bY bW aG jG bQ dG jY m_length qG uW eY aJ aB bU dN aR aE bJ aW bT gJ dU bL bR bO mY pW m_x jA oY pR pX) H → va_D A (wd_X10_reachedFrom cI cC cZ cB cJ a_m oJ uD dY iJ lJ jQ jR jW jK pJ bM aY jO gR gY mK jZ iY bG mJ jB mQ lY eJ bY bW aG jG bQ dG jY m_length qG uW eY aJ aB bU dN aR aE bJ aW bT gJ dU bL bR bO mY pW m_x jA oY pR pX) → va_S A s.heap H locs → lv_has ls 6 [(0, .ref a_m), (1, .int x1), (2, .int x2), (3, .int x3), (4, .int x4), (5, .int x5)] → W p l e rm_X10_reachedFrom s m args below meth c H locs 0 0 (MQ below (q_X10_reachedFrom dC dI cI cC cZ cB cJ A a_m oJ uD dY iJ lJ jQ jR jW jK pJ bM aY jO gR gY mK jZ iY bG mJ jB mQ lY eJ bY bW aG jG bQ dG jY m_length qG uW eY aJ aB bU dN aR aE bJ aW bT gJ dU bL bR bO mY pW m_x jA oY pR pX post) args s 0 0 A) (F0 m 6 ls []) := by
  intro n
  induction n with
  | zero =>
    intro x1 x2 x3 x4 x5 H locs ls hp
    exact False.elim hp
  | succ n ih =>
    intro x1 x2 x3 x4 x5 H locs ls hp
    exact ks_X10_reachedFrom_6 C0 ih x1 x2 x3 x4 x5 H locs ls hp
end S_X10_reachedFrom
noncomputable def wp_X10_reachedFrom (post : Int32 → Prop) (p0 p1 p2 bW : Int32) (m_x jA oY pR pX : Nat → Int32) : Prop := ∃ n : Nat, wb_X10_reachedFrom_6 post bW m_x jA oY pR pX n p0 p1 p2 0 0
set_option maxHeartbeats 4000000 in
set_option maxRecDepth 100000 in
theorem c_X10_reachedFrom (l : Launch) (dC : Nat → ClassId) (dI : Nat → Nat → Nat) (cI cC cZ cB cJ : ClassId) (a_m oJ uD dY iJ lJ jQ jR jW jK pJ bM aY jO gR gY mK jZ iY bG mJ jB mQ lY eJ bY sz : Nat) (p0 p1 p2 bW aG jG bQ dG : Int32) (jY : Nat) (m_length qG uW eY aJ aB bU dN aR aE bJ aW bT gJ dU bL bR bO mY pW : Int32) (m_x jA oY pR pX : Nat → Int32) (post : Int32 → Prop) (hw : wp_X10_reachedFrom post p0 p1 p2 bW m_x jA oY pR pX) : Met l yX10_reachedFrom (gw yX10_reachedFrom cX10_reachedFrom 6 (some .int)) rm_X10_reachedFrom (va_Pc [.ref a_m, .int p0, .int p1, .int p2] (gPre (dC, dI) (tyl cI cC cZ cB cJ) (wd_X10_reachedFrom cI cC cZ cB cJ a_m oJ uD dY iJ lJ jQ jR jW jK pJ bM aY jO gR gY mK jZ iY bG mJ jB mQ lY eJ bY bW aG jG bQ dG jY m_length qG uW eY aJ aB bU dN aR aE bJ aW bT gJ dU bL bR bO mY pW m_x jA oY pR pX) sz)) (q_X10_reachedFrom dC dI cI cC cZ cB cJ (va_A (wd_X10_reachedFrom cI cC cZ cB cJ a_m oJ uD dY iJ lJ jQ jR jW jK pJ bM aY jO gR gY mK jZ iY bG mJ jB mQ lY eJ bY bW aG jG bQ dG jY m_length qG uW eY aJ aB bU dN aR aE bJ aW bT gJ dU bL bR bO mY pW m_x jA oY pR pX) sz) a_m oJ uD dY iJ lJ jQ jR jW jK pJ bM aY jO gR gY mK jZ iY bG mJ jB mQ lY eJ bY bW aG jG bQ dG jY m_length qG uW eY aJ aB bU dN aR aE bJ aW bT gJ dU bL bR bO mY pW m_x jA oY pR pX post) 0 0 (va_A (wd_X10_reachedFrom cI cC cZ cB cJ a_m oJ uD dY iJ lJ jQ jR jW jK pJ bM aY jO gR gY mK jZ iY bG mJ jB mQ lY eJ bY bW aG jG bQ dG jY m_length qG uW eY aJ aB bU dN aR aE bJ aW bT gJ dU bL bR bO mY pW m_x jA oY pR pX) sz) := by
  refine g_enter (own := RX10) (dC, dI) (tyl cI cC cZ cB cJ) (wd_X10_reachedFrom cI cC cZ cB cJ a_m oJ uD dY iJ lJ jQ jR jW jK pJ bM aY jO gR gY mK jZ iY bG mJ jB mQ lY eJ bY bW aG jG bQ dG jY m_length qG uW eY aJ aB bU dN aR aE bJ aW bT gJ dU bL bR bO mY pW m_x jA oY pR pX) sz [.ref a_m, .int p0, .int p1, .int p2] (fun A => q_X10_reachedFrom dC dI cI cC cZ cB cJ A a_m oJ uD dY iJ lJ jQ jR jW jK pJ bM aY jO gR gY mK jZ iY bG mJ jB mQ lY eJ bY bW aG jG bQ dG jY m_length qG uW eY aJ aB bU dN aR aE bJ aW bT gJ dU bL bR bO mY pW m_x jA oY pR pX post) pn_RX10 rfl (Nat.le_of_ble_eq_true rfl) ?_
  intro p e s m args below meth c A H locs ls C0 hP hD hS hl
  have hl : lv_has ls 6 [(0, .ref a_m), (1, .int p0), (2, .int p1), (3, .int p2)] := hl
  obtain ⟨hx, hb, hr, hml, hown, hts, hlocks, hA, hK, hN, tL, tM, hZL, hTL, hZM, hTM, hZX⟩ := id C0
  have hp := hw
  unfold wp_X10_reachedFrom at hp
  refine lv_iconst (v := 0) hx hb eX10_reachedFrom_0.1 ic_0 ?_
  refine lv_istore (lv' := [(4, .int 0), (0, .ref a_m), (1, .int p0), (2, .int p1), (3, .int p2)]) hx hb eX10_reachedFrom_0.2.1 hl (by decide) rfl (fun ls hl => ?_)
  refine lv_iconst (v := 0) hx hb eX10_reachedFrom_0.2.2.1 ic_0 ?_
  refine lv_istore (lv' := [(5, .int 0), (4, .int 0), (0, .ref a_m), (1, .int p0), (2, .int p1), (3, .int p2)]) hx hb eX10_reachedFrom_0.2.2.2.1 hl (by decide) rfl (fun ls hl => ?_)
  obtain ⟨n9, hp⟩ := hp
  exact kb_X10_reachedFrom_6 C0 n9 p0 p1 p2 0 0 H locs ls hp hP hD hS (lv_sub hl [2, 3, 4, 5, 1, 0] rfl)
noncomputable abbrev wd_X10_byHand (cI cC cZ cB cJ : ClassId) (a_m oJ uD dY iJ lJ jQ jR jW jK pJ bM aY jO gR gY mK jZ iY bG mJ jB mQ lY eJ bY : Nat) (bW aG jG bQ dG : Int32) (jY : Nat) (m_length qG uW eY aJ aB bU dN aR aE bJ aW bT gJ dU bL bR bO mY pW : Int32) (rD m_x jA oY pR pX : Nat → Int32) : va_W := [(a_m, .inr (10, [.ref oJ, .int bW, .ref uD, .ref dY, .ref iJ, .ref lJ, .int aG, .ref jQ, .ref jR, .ref jW, .ref jK, .int jG, .ref pJ, .int bQ, .int dG, rdv jK jO jY, .int m_length, .int qG, .int uW, .int eY, .ref bM, .ref aY, .int aJ, .int aB, .ref jO, .int bU, .int dN, .int aR, .int aE, .int bJ, .int aW, .ref gR, .int bT, .ref gY, .ref mK, .int gJ, .ref jZ, .int dU, .ref iY, .ref bG, .int bL, .int bR, .int bO, .ref mJ, .ref jB, .ref mQ, .int mY, .int pW, .ref lY, .ref eJ, .ref bY])), (oJ, .inl (cI, 21, .inl rD)), (uD, .inl (cI, 16, .inl m_x)), (dY, .inl (cI, 16, .inl jA)), (jQ, .inl (cI, 8, .inl oY)), (jR, .inl (cI, 8, .inl pR)), (jW, .inl (cI, 5, .inl pX))]
noncomputable abbrev q_X10_byHand (dC : Nat → ClassId) (dI : Nat → Nat → Nat) (cI cC cZ cB cJ : ClassId) (A : Nat → Prop) (a_m oJ uD dY iJ lJ jQ jR jW jK pJ bM aY jO gR gY mK jZ iY bG mJ jB mQ lY eJ bY : Nat) (bW aG jG bQ dG : Int32) (jY : Nat) (m_length qG uW eY aJ aB bU dN aR aE bJ aW bT gJ dU bL bR bO mY pW : Int32) (rD m_x jA oY pR pX : Nat → Int32) (post : Int32 → Prop) : Array Value → State → Outcome → State → Prop := va_Qi (fun (r : Int32) (u : Unit) => post r) (fun u t => gB (dC, dI) (tyl cI cC cZ cB cJ) A (wd_X10_byHand cI cC cZ cB cJ a_m oJ uD dY iJ lJ jQ jR jW jK pJ bM aY jO gR gY mK jZ iY bG mJ jB mQ lY eJ bY bW aG jG bQ dG jY m_length qG uW eY aJ aB bU dN aR aE bJ aW bT gJ dU bL bR bO mY pW rD m_x jA oY pR pX) t) A
noncomputable abbrev rm_X10_byHand : Room := { frames := 4, cells := 0, slots := 0, locals := 91 }
noncomputable def wp_X10_byHand (post : Int32 → Prop) (p0 bW : Int32) (rD m_x jA oY pR pX : Nat → Int32) : Prop := ∀ v_1 : Int32, v_1 = rD (18 : Int32).toNatClampNeg → wp_X10_reachedFrom (fun r_2 => post r_2) p0 v_1 0 bW m_x jA oY pR pX
set_option maxHeartbeats 4000000 in
set_option maxRecDepth 100000 in
theorem c_X10_byHand (l : Launch) (dC : Nat → ClassId) (dI : Nat → Nat → Nat) (cI cC cZ cB cJ : ClassId) (a_m oJ uD dY iJ lJ jQ jR jW jK pJ bM aY jO gR gY mK jZ iY bG mJ jB mQ lY eJ bY sz : Nat) (p0 bW aG jG bQ dG : Int32) (jY : Nat) (m_length qG uW eY aJ aB bU dN aR aE bJ aW bT gJ dU bL bR bO mY pW : Int32) (rD m_x jA oY pR pX : Nat → Int32) (post : Int32 → Prop) (hw : wp_X10_byHand post p0 bW rD m_x jA oY pR pX) : Met l yX10_byHand (gw yX10_byHand cX10_byHand 2 (some .int)) rm_X10_byHand (va_Pc [.ref a_m, .int p0] (gPre (dC, dI) (tyl cI cC cZ cB cJ) (wd_X10_byHand cI cC cZ cB cJ a_m oJ uD dY iJ lJ jQ jR jW jK pJ bM aY jO gR gY mK jZ iY bG mJ jB mQ lY eJ bY bW aG jG bQ dG jY m_length qG uW eY aJ aB bU dN aR aE bJ aW bT gJ dU bL bR bO mY pW rD m_x jA oY pR pX) sz)) (q_X10_byHand dC dI cI cC cZ cB cJ (va_A (wd_X10_byHand cI cC cZ cB cJ a_m oJ uD dY iJ lJ jQ jR jW jK pJ bM aY jO gR gY mK jZ iY bG mJ jB mQ lY eJ bY bW aG jG bQ dG jY m_length qG uW eY aJ aB bU dN aR aE bJ aW bT gJ dU bL bR bO mY pW rD m_x jA oY pR pX) sz) a_m oJ uD dY iJ lJ jQ jR jW jK pJ bM aY jO gR gY mK jZ iY bG mJ jB mQ lY eJ bY bW aG jG bQ dG jY m_length qG uW eY aJ aB bU dN aR aE bJ aW bT gJ dU bL bR bO mY pW rD m_x jA oY pR pX post) 0 0 (va_A (wd_X10_byHand cI cC cZ cB cJ a_m oJ uD dY iJ lJ jQ jR jW jK pJ bM aY jO gR gY mK jZ iY bG mJ jB mQ lY eJ bY bW aG jG bQ dG jY m_length qG uW eY aJ aB bU dN aR aE bJ aW bT gJ dU bL bR bO mY pW rD m_x jA oY pR pX) sz) := by
  refine g_enter (own := RX10) (dC, dI) (tyl cI cC cZ cB cJ) (wd_X10_byHand cI cC cZ cB cJ a_m oJ uD dY iJ lJ jQ jR jW jK pJ bM aY jO gR gY mK jZ iY bG mJ jB mQ lY eJ bY bW aG jG bQ dG jY m_length qG uW eY aJ aB bU dN aR aE bJ aW bT gJ dU bL bR bO mY pW rD m_x jA oY pR pX) sz [.ref a_m, .int p0] (fun A => q_X10_byHand dC dI cI cC cZ cB cJ A a_m oJ uD dY iJ lJ jQ jR jW jK pJ bM aY jO gR gY mK jZ iY bG mJ jB mQ lY eJ bY bW aG jG bQ dG jY m_length qG uW eY aJ aB bU dN aR aE bJ aW bT gJ dU bL bR bO mY pW rD m_x jA oY pR pX post) pn_RX10 rfl (Nat.le_of_ble_eq_true rfl) ?_
  intro p e s m args below meth c A H locs ls C0 hP hD hS hl
  have hl : lv_has ls 2 [(0, .ref a_m), (1, .int p0)] := hl
  obtain ⟨hx, hb, hr, hml, hown, hts, hlocks, hA, hK, hN, tL, tM, hZL, hTL, hZM, hTM, hZX⟩ := id C0
  have hp := hw
  unfold wp_X10_byHand at hp
  refine lv_aload_n hx hb eX10_byHand_0.1 rfl (lv_at hl 0 rfl) ?_
  refine lv_iload_n hx hb eX10_byHand_0.2.1 rfl (lv_at hl 1 rfl) ?_
  refine lv_aload_n hx hb eX10_byHand_0.2.2.1 rfl (lv_at hl 0 rfl) ?_
  refine va_get (D := (dC, dI)) (ci := 10) (v := .ref oJ) (C := RX10) (T := TX10) (N := 51) hx hb hts i_X10 hown hK hP 0 rfl rfl 0 (Nat.le_of_ble_eq_true rfl) (hts _ q_692) (fun _ h9 => h9) rfl eX10_byHand_0.2.2.2.1 ?_
  refine lv_bipush (v := 18) hx hb eX10_byHand_0.2.2.2.2.1 bp_18 ?_
  refine va_iald hx hb hK hP 1 0 rfl rfl (g_in rfl) eX10_byHand_0.2.2.2.2.2.1 ?_
  refine lv_topi (fun v_1 ev_1 => ?_)
  have hp := hp v_1 ev_1
  refine lv_iconst (v := 0) hx hb eX10_byHand_0.2.2.2.2.2.2.1 ic_0 ?_
  have hm := mgk (wc := (wd_X10_reachedFrom cI cC cZ cB cJ a_m oJ uD dY iJ lJ jQ jR jW jK pJ bM aY jO gR gY mK jZ iY bG mJ jB mQ lY eJ bY bW aG jG bQ dG jY m_length qG uW eY aJ aB bU dN aR aE bJ aW bT gJ dU bL bR bO mY pW m_x jA oY pR pX)) hP mk_223 7 rfl rfl rfl
  refine g_calli hP hD hS hA (mixT mk_223) (mixF mk_223) hm.1 hm.2 (nd_F _) (dis_g _) (g_runV (As := [.int p0, .int v_1, .int 0]) (rest := []) C0 hP hD hS (mixT mk_223) hm.1 (nd_T _) 0 10 rfl rfl (c_X10_reachedFrom l dC dI cI cC cZ cB cJ a_m oJ uD dY iJ lJ jQ jR jW jK pJ bM aY jO gR gY mK jZ iY bG mJ jB mQ lY eJ bY H.size p0 v_1 0 bW aG jG bQ dG jY m_length qG uW eY aJ aB bU dN aR aE bJ aW bT gJ dU bL bR bO mY pW m_x jA oY pR pX _ hp) q_824 q_827 q_825 q_826 q_642 h_X10_reachedFrom rfl rfl ⟨Nat.le_of_ble_eq_true rfl, Nat.le_of_ble_eq_true rfl⟩ rfl rfl hl.1 rfl (lv_room (Nat.le_of_ble_eq_true rfl)) eX10_byHand_0.2.2.2.2.2.2.2.1 ⟨Nat.zero_le _, Nat.zero_le _⟩) (fun r_2 u H locs hp hP hD hS => ?_)
  have hPD := PDm (ws' := (wd_X10_byHand cI cC cZ cB cJ a_m oJ uD dY iJ lJ jQ jR jW jK pJ bM aY jO gR gY mK jZ iY bG mJ jB mQ lY eJ bY bW aG jG bQ dG jY m_length qG uW eY aJ aB bU dN aR aE bJ aW bT gJ dU bL bR bO mY pW rD m_x jA oY pR pX)) hP hD 7 rfl rfl rfl
  have hP := hPD.1
  have hD := hPD.2
  exact W.iret (v := r_2) hx hb hr (fun t ht hW => ⟨⟨r_2, (), rfl, hp, by rw [ht]; exact hP, va_K.moved hW.alike hK, hD⟩, hS.F ht⟩) hS.2.2 eX10_byHand_0.2.2.2.2.2.2.2.2
noncomputable abbrev wd_X10_goShake (cI cC cZ cB cJ : ClassId) (a_m oJ uD dY iJ lJ jQ jR jW jK pJ bM aY jO gR gY mK jZ iY bG mJ jB mQ lY eJ bY : Nat) (bW aG jG bQ dG : Int32) (jY : Nat) (m_length qG uW eY aJ aB bU dN aR aE bJ aW bT gJ dU bL bR bO mY pW : Int32) (rD m_x jA rW oY pR pX : Nat → Int32) : va_W := [(a_m, .inr (10, [.ref oJ, .int bW, .ref uD, .ref dY, .ref iJ, .ref lJ, .int aG, .ref jQ, .ref jR, .ref jW, .ref jK, .int jG, .ref pJ, .int bQ, .int dG, rdv jK jO jY, .int m_length, .int qG, .int uW, .int eY, .ref bM, .ref aY, .int aJ, .int aB, .ref jO, .int bU, .int dN, .int aR, .int aE, .int bJ, .int aW, .ref gR, .int bT, .ref gY, .ref mK, .int gJ, .ref jZ, .int dU, .ref iY, .ref bG, .int bL, .int bR, .int bO, .ref mJ, .ref jB, .ref mQ, .int mY, .int pW, .ref lY, .ref eJ, .ref bY])), (oJ, .inl (cI, 21, .inl rD)), (uD, .inl (cI, 16, .inl m_x)), (dY, .inl (cI, 16, .inl jA)), (lJ, .inl (cI, 16, .inl rW)), (jQ, .inl (cI, 8, .inl oY)), (jR, .inl (cI, 8, .inl pR)), (jW, .inl (cI, 5, .inl pX))]
noncomputable abbrev q_X10_goShake (dC : Nat → ClassId) (dI : Nat → Nat → Nat) (cI cC cZ cB cJ : ClassId) (A : Nat → Prop) (a_m oJ uD dY iJ lJ jQ jR jW jK pJ bM aY jO gR gY mK jZ iY bG mJ jB mQ lY eJ bY : Nat) (bW aG jG bQ dG : Int32) (jY : Nat) (m_length qG uW eY aJ aB bU dN aR aE bJ aW bT gJ dU bL bR bO mY pW : Int32) (m_x jA rW oY pR pX : Nat → Int32) (post : Int32 → (Nat → Int32) → Prop) : Array Value → State → Outcome → State → Prop := va_Qi (fun (r : Int32) (u : (Nat → Int32)) => post r u) (fun u t => gB (dC, dI) (tyl cI cC cZ cB cJ) A (wd_X10_goShake cI cC cZ cB cJ a_m oJ uD dY iJ lJ jQ jR jW jK pJ bM aY jO gR gY mK jZ iY bG mJ jB mQ lY eJ bY bW aG jG bQ dG jY m_length qG uW eY aJ aB bU dN aR aE bJ aW bT gJ dU bL bR bO mY pW u m_x jA rW oY pR pX) t) A
noncomputable abbrev rm_X10_goShake : Room := { frames := 5, cells := 0, slots := 0, locals := 112 }
section S_X10_goShake
variable {p : Program} {l : Launch} {e : Env} {s : State} {m : MethodId} {args : Array Value} {below : List Frame} {meth : Method} {c : Code} {dC : Nat → ClassId} {dI : Nat → Nat → Nat} {cI cC cZ cB cJ : ClassId} {A : Nat → Prop} {a_m oJ uD dY iJ lJ jQ jR jW jK pJ bM aY jO gR gY mK jZ iY bG mJ jB mQ lY eJ bY : Nat} {bW aG jG bQ dG : Int32} {jY : Nat} {m_length qG uW eY aJ aB bU dN aR aE bJ aW bT gJ dU bL bR bO mY pW : Int32} {m_x jA rW oY pR pX : Nat → Int32} {post : Int32 → (Nat → Int32) → Prop}
noncomputable def ws_X10_goShake_96 (post : Int32 → (Nat → Int32) → Prop) (K50 : Int32 → Int32 → Int32 → (Nat → Int32) → Prop) (bW : Int32) (m_x jA rW oY pR pX : Nat → Int32) (x1 x2 x3 : Int32) (rD : Nat → Int32) : Prop := ∀ v_17 : Int32, v_17 = x3 + 1 → K50 x1 x2 v_17 rD
set_option maxHeartbeats 4000000 in
set_option maxRecDepth 100000 in
theorem ks_X10_goShake_96 (C0 : gc cX10_goShake (some .int) 4 RX10 (dC, dI) (tyl cI cC cZ cB cJ) A p s m args meth c) {K50 : Int32 → Int32 → Int32 → (Nat → Int32) → Prop} (hK50 : ∀ (x1 : Int32) (x2 : Int32) (x3 : Int32) (rD : Nat → Int32) (H : Heap) (locs : List Loc) (ls : Array Slot), K50 x1 x2 x3 rD → va_P (dC, dI) classes (wd_X10_goShake cI cC cZ cB cJ a_m oJ uD dY iJ lJ jQ jR jW jK pJ bM aY jO gR gY mK jZ iY bG mJ jB mQ lY eJ bY bW aG jG bQ dG jY m_length qG uW eY aJ aB bU dN aR aE bJ aW bT gJ dU bL bR bO mY pW rD m_x jA rW oY pR pX) H → va_D A (wd_X10_goShake cI cC cZ cB cJ a_m oJ uD dY iJ lJ jQ jR jW jK pJ bM aY jO gR gY mK jZ iY bG mJ jB mQ lY eJ bY bW aG jG bQ dG jY m_length qG uW eY aJ aB bU dN aR aE bJ aW bT gJ dU bL bR bO mY pW rD m_x jA rW oY pR pX) → va_S A s.heap H locs → lv_has ls 4 [(0, .ref a_m), (1, .int x1), (2, .int x2), (3, .int x3)] → W p l e rm_X10_goShake s m args below meth c H locs 0 0 (MQ below (q_X10_goShake dC dI cI cC cZ cB cJ A a_m oJ uD dY iJ lJ jQ jR jW jK pJ bM aY jO gR gY mK jZ iY bG mJ jB mQ lY eJ bY bW aG jG bQ dG jY m_length qG uW eY aJ aB bU dN aR aE bJ aW bT gJ dU bL bR bO mY pW m_x jA rW oY pR pX post) args s 0 0 A) (F0 m 50 ls [])) : ∀ (x1 x2 x3 : Int32) (rD : Nat → Int32) (H : Heap) (locs : List Loc) (ls : Array Slot), (ws_X10_goShake_96 post K50 bW m_x jA rW oY pR pX) x1 x2 x3 rD → va_P (dC, dI) classes (wd_X10_goShake cI cC cZ cB cJ a_m oJ uD dY iJ lJ jQ jR jW jK pJ bM aY jO gR gY mK jZ iY bG mJ jB mQ lY eJ bY bW aG jG bQ dG jY m_length qG uW eY aJ aB bU dN aR aE bJ aW bT gJ dU bL bR bO mY pW rD m_x jA rW oY pR pX) H → va_D A (wd_X10_goShake cI cC cZ cB cJ a_m oJ uD dY iJ lJ jQ jR jW jK pJ bM aY jO gR gY mK jZ iY bG mJ jB mQ lY eJ bY bW aG jG bQ dG jY m_length qG uW eY aJ aB bU dN aR aE bJ aW bT gJ dU bL bR bO mY pW rD m_x jA rW oY pR pX) → va_S A s.heap H locs → lv_has ls 4 [(0, .ref a_m), (1, .int x1), (2, .int x2), (3, .int x3)] → W p l e rm_X10_goShake s m args below meth c H locs 0 0 (MQ below (q_X10_goShake dC dI cI cC cZ cB cJ A a_m oJ uD dY iJ lJ jQ jR jW jK pJ bM aY jO gR gY mK jZ iY bG mJ jB mQ lY eJ bY bW aG jG bQ dG jY m_length qG uW eY aJ aB bU dN aR aE bJ aW bT gJ dU bL bR bO mY pW m_x jA rW oY pR pX post) args s 0 0 A) (F0 m 96 ls []) := by
  obtain ⟨hx, hb, hr, hml, hown, hts, hlocks, hA, hK, hN, tL, tM, hZL, hTL, hZM, hTM, hZX⟩ := id C0
  intro x1 x2 x3 rD H locs ls hp hP hD hS hl
  unfold ws_X10_goShake_96 at hp
  obtain ⟨v_17, ev_17⟩ : ∃ y : Int32, y = x3 + 1 := ⟨_, rfl⟩
  refine lv_iinc (v := v_17) (lv' := [(3, .int v_17), (0, .ref a_m), (1, .int x1), (2, .int x2)]) hx hb eX10_goShake_80.2.2.2.2.2.2.2.2.2.2.2.2.2.1 hl (k := 3) rfl (by rw [ev_17]; rfl) (by decide) rfl (fun ls hl => ?_)
  have hp := hp v_17 ev_17
  refine lv_goto (tgt := 50) hx hb eX10_goShake_80.2.2.2.2.2.2.2.2.2.2.2.2.2.2.1 (by decide) ?_
  exact hK50 x1 x2 v_17 rD H locs ls hp hP hD hS (lv_sub hl [1, 2, 3, 0] rfl)
noncomputable def ws_X10_goShake_50 (post : Int32 → (Nat → Int32) → Prop) (next : Int32 → Int32 → Int32 → (Nat → Int32) → Prop) (bW : Int32) (m_x jA rW oY pR pX : Nat → Int32) (x1 x2 x3 : Int32) (rD : Nat → Int32) : Prop := (bW ≤ x3 → wp_X10_passBy (fun m_now_10 => wp_J6_bitCount_0f7a4 (fun r_11 => post r_11 m_now_10) x1) 5 rD) ∧ (¬ bW ≤ x3 → wp_X10_has (fun r_12 => (¬ r_12 = 0 → vp_in x3 21 ∧ (∀ v_13 : Int32, v_13 = (upd rD x3.toNatClampNeg 3) (16 : Int32).toNatClampNeg → ∀ v_14 : Int32, v_14 = 1 <<< (x3 &&& 31) → wp_X10_below (fun r_15 => ∀ v_16 : Int32, v_16 = v_13 ||| (v_14 ||| r_15) → ws_X10_goShake_96 post next bW m_x jA rW oY pR pX x1 x2 x3 (upd (upd rD x3.toNatClampNeg 3) (16 : Int32).toNatClampNeg v_16)) x3 x2 bW m_x jA)) ∧ (r_12 = 0 → ws_X10_goShake_96 post next bW m_x jA rW oY pR pX x1 x2 x3 rD)) x1 x3)
noncomputable def wb_X10_goShake_50 (post : Int32 → (Nat → Int32) → Prop) (bW : Int32) (m_x jA rW oY pR pX : Nat → Int32) : Nat → Int32 → Int32 → Int32 → (Nat → Int32) → Prop := fun n => Nat.rec (motive := fun _ => Int32 → Int32 → Int32 → (Nat → Int32) → Prop) (fun _ _ _ _ => False) (fun _ ih => ws_X10_goShake_50 post ih bW m_x jA rW oY pR pX) n
set_option maxHeartbeats 4000000 in
set_option maxRecDepth 100000 in
theorem ks_X10_goShake_50 (C0 : gc cX10_goShake (some .int) 4 RX10 (dC, dI) (tyl cI cC cZ cB cJ) A p s m args meth c) {next : Int32 → Int32 → Int32 → (Nat → Int32) → Prop} (hKn : ∀ (x1 : Int32) (x2 : Int32) (x3 : Int32) (rD : Nat → Int32) (H : Heap) (locs : List Loc) (ls : Array Slot), next x1 x2 x3 rD → va_P (dC, dI) classes (wd_X10_goShake cI cC cZ cB cJ a_m oJ uD dY iJ lJ jQ jR jW jK pJ bM aY jO gR gY mK jZ iY bG mJ jB mQ lY eJ bY bW aG jG bQ dG jY m_length qG uW eY aJ aB bU dN aR aE bJ aW bT gJ dU bL bR bO mY pW rD m_x jA rW oY pR pX) H → va_D A (wd_X10_goShake cI cC cZ cB cJ a_m oJ uD dY iJ lJ jQ jR jW jK pJ bM aY jO gR gY mK jZ iY bG mJ jB mQ lY eJ bY bW aG jG bQ dG jY m_length qG uW eY aJ aB bU dN aR aE bJ aW bT gJ dU bL bR bO mY pW rD m_x jA rW oY pR pX) → va_S A s.heap H locs → lv_has ls 4 [(0, .ref a_m), (1, .int x1), (2, .int x2), (3, .int x3)] → W p l e rm_X10_goShake s m args below meth c H locs 0 0 (MQ below (q_X10_goShake dC dI cI cC cZ cB cJ A a_m oJ uD dY iJ lJ jQ jR jW jK pJ bM aY jO gR gY mK jZ iY bG mJ jB mQ lY eJ bY bW aG jG bQ dG jY m_length qG uW eY aJ aB bU dN aR aE bJ aW bT gJ dU bL bR bO mY pW m_x jA rW oY pR pX post) args s 0 0 A) (F0 m 50 ls [])) : ∀ (x1 x2 x3 : Int32) (rD : Nat → Int32) (H : Heap) (locs : List Loc) (ls : Array Slot), (ws_X10_goShake_50 post next bW m_x jA rW oY pR pX) x1 x2 x3 rD → va_P (dC, dI) classes (wd_X10_goShake cI cC cZ cB cJ a_m oJ uD dY iJ lJ jQ jR jW jK pJ bM aY jO gR gY mK jZ iY bG mJ jB mQ lY eJ bY bW aG jG bQ dG jY m_length qG uW eY aJ aB bU dN aR aE bJ aW bT gJ dU bL bR bO mY pW rD m_x jA rW oY pR pX) H → va_D A (wd_X10_goShake cI cC cZ cB cJ a_m oJ uD dY iJ lJ jQ jR jW jK pJ bM aY jO gR gY mK jZ iY bG mJ jB mQ lY eJ bY bW aG jG bQ dG jY m_length qG uW eY aJ aB bU dN aR aE bJ aW bT gJ dU bL bR bO mY pW rD m_x jA rW oY pR pX) → va_S A s.heap H locs → lv_has ls 4 [(0, .ref a_m), (1, .int x1), (2, .int x2), (3, .int x3)] → W p l e rm_X10_goShake s m args below meth c H locs 0 0 (MQ below (q_X10_goShake dC dI cI cC cZ cB cJ A a_m oJ uD dY iJ lJ jQ jR jW jK pJ bM aY jO gR gY mK jZ iY bG mJ jB mQ lY eJ bY bW aG jG bQ dG jY m_length qG uW eY aJ aB bU dN aR aE bJ aW bT gJ dU bL bR bO mY pW m_x jA rW oY pR pX post) args s 0 0 A) (F0 m 50 ls []) := by
  obtain ⟨hx, hb, hr, hml, hown, hts, hlocks, hA, hK, hN, tL, tM, hZL, hTL, hZM, hTM, hZX⟩ := id C0
  intro x1 x2 x3 rD H locs ls hp hP hD hS hl
  unfold ws_X10_goShake_50 at hp
  refine lv_iload_n hx hb eX10_goShake_50.1 rfl (lv_at hl 3 rfl) ?_
  refine lv_aload_n hx hb eX10_goShake_50.2.1 rfl (lv_at hl 0 rfl) ?_
  refine va_get (D := (dC, dI)) (ci := 10) (v := .int bW) (C := RX10) (T := TX10) (N := 51) hx hb hts i_X10 hown hK hP 0 rfl rfl 1 (Nat.le_of_ble_eq_true rfl) (hts _ q_677) (fun _ h9 => h9) rfl eX10_goShake_50.2.2.1 ?_
  refine lv_icmp_ge (tgt := 102) hx hb eX10_goShake_50.2.2.2.1 (by decide) (fun hc => ?_) (fun hc => ?_)
  · have hp := hp.1 hc
    refine lv_aload_n hx hb eX10_goShake_80.2.2.2.2.2.2.2.2.2.2.2.2.2.2.2 rfl (lv_at hl 0 rfl) ?_
    refine lv_iconst (v := 5) hx hb eX10_goShake_103.1 ic_5 ?_
    have hm := mgk (wc := (wd_X10_passBy cI cC cZ cB cJ a_m oJ uD dY iJ lJ jQ jR jW jK pJ bM aY jO gR gY mK jZ iY bG mJ jB mQ lY eJ bY bW aG jG bQ dG jY m_length qG uW eY aJ aB bU dN aR aE bJ aW bT gJ dU bL bR bO mY pW rD)) hP aGn 8 rfl rfl rfl
    refine g_callv hP hD hS hA (mixT aGn) (mixF aGn) hm.1 hm.2 (nd_F _) (dis_g _) (g_runV (As := [.int 5]) (rest := []) C0 hP hD hS (mixT aGn) hm.1 (nd_T _) 0 10 rfl rfl (c_X10_passBy l dC dI cI cC cZ cB cJ a_m oJ uD dY iJ lJ jQ jR jW jK pJ bM aY jO gR gY mK jZ iY bG mJ jB mQ lY eJ bY H.size 5 bW aG jG bQ dG jY m_length qG uW eY aJ aB bU dN aR aE bJ aW bT gJ dU bL bR bO mY pW rD _ hp) q_779 q_782 q_780 q_781 q_642 h_X10_passBy rfl rfl ⟨Nat.le_of_ble_eq_true rfl, Nat.le_of_ble_eq_true rfl⟩ rfl rfl hl.1 rfl (lv_room (Nat.le_of_ble_eq_true rfl)) eX10_goShake_103.2.1 ⟨Nat.zero_le _, Nat.zero_le _⟩) (fun u H locs hp hP hD hS => ?_)
    obtain ⟨m_now_10, rfl⟩ : ∃ z, z = u := ⟨_, rfl⟩
    have hPD := PDm (ws' := (wd_X10_goShake cI cC cZ cB cJ a_m oJ uD dY iJ lJ jQ jR jW jK pJ bM aY jO gR gY mK jZ iY bG mJ jB mQ lY eJ bY bW aG jG bQ dG jY m_length qG uW eY aJ aB bU dN aR aE bJ aW bT gJ dU bL bR bO mY pW m_now_10 m_x jA rW oY pR pX)) hP hD 8 rfl rfl rfl
    have hP := hPD.1
    have hD := hPD.2
    refine lv_iload_n hx hb eX10_goShake_103.2.2.1 rfl (lv_at hl 1 rfl) ?_
    have hm := mgk (wc := (wd_J6_bitCount_0f7a4 cI cC cZ cB cJ)) hP aAW 8 rfl rfl rfl
    refine g_calli hP hD hS hA (mixT aAW) (mixF aAW) hm.1 hm.2 (nd_F _) (dis_g _) (g_runS (As := [.int x1]) (rest := []) C0 hP hD hS (mixT aAW) hm.1 (nd_T _) (c_J6_bitCount_0f7a4 l dC dI cI cC cZ cB cJ H.size x1 _ hp) q_320 q_803 q_322 q_321 h_J6_bitCount_0f7a4 rfl rfl ⟨Nat.le_of_ble_eq_true rfl, Nat.le_of_ble_eq_true rfl⟩ rfl rfl hl.1 rfl (lv_room (Nat.le_of_ble_eq_true rfl)) eX10_goShake_103.2.2.2.1 ⟨Nat.zero_le _, Nat.zero_le _⟩) (fun r_11 u H locs hp hP hD hS => ?_)
    have hPD := PDm (ws' := (wd_X10_goShake cI cC cZ cB cJ a_m oJ uD dY iJ lJ jQ jR jW jK pJ bM aY jO gR gY mK jZ iY bG mJ jB mQ lY eJ bY bW aG jG bQ dG jY m_length qG uW eY aJ aB bU dN aR aE bJ aW bT gJ dU bL bR bO mY pW m_now_10 m_x jA rW oY pR pX)) hP hD 8 rfl rfl rfl
    have hP := hPD.1
    have hD := hPD.2
    exact W.iret (v := r_11) hx hb hr (fun t ht hW => ⟨⟨r_11, m_now_10, rfl, hp, by rw [ht]; exact hP, va_K.moved hW.alike hK, hD⟩, hS.F ht⟩) hS.2.2 eX10_goShake_103.2.2.2.2
  · have hp := hp.2 hc
    refine lv_iload_n hx hb eX10_goShake_50.2.2.2.2.1 rfl (lv_at hl 1 rfl) ?_
    refine lv_iload_n hx hb eX10_goShake_50.2.2.2.2.2.1 rfl (lv_at hl 3 rfl) ?_
    have hm := mgk (wc := (wd_X10_has cI cC cZ cB cJ)) hP aAW 8 rfl rfl rfl
    refine g_calli hP hD hS hA (mixT aAW) (mixF aAW) hm.1 hm.2 (nd_F _) (dis_g _) (g_runS (As := [.int x1, .int x3]) (rest := []) C0 hP hD hS (mixT aAW) hm.1 (nd_T _) (c_X10_has l dC dI cI cC cZ cB cJ H.size x1 x3 _ hp) q_734 q_736 q_735 q_642 h_X10_has rfl rfl ⟨Nat.le_of_ble_eq_true rfl, Nat.le_of_ble_eq_true rfl⟩ rfl rfl hl.1 rfl (lv_room (Nat.le_of_ble_eq_true rfl)) eX10_goShake_50.2.2.2.2.2.2.1 ⟨Nat.zero_le _, Nat.zero_le _⟩) (fun r_12 u H locs hp hP hD hS => ?_)
    have hPD := PDm (ws' := (wd_X10_goShake cI cC cZ cB cJ a_m oJ uD dY iJ lJ jQ jR jW jK pJ bM aY jO gR gY mK jZ iY bG mJ jB mQ lY eJ bY bW aG jG bQ dG jY m_length qG uW eY aJ aB bU dN aR aE bJ aW bT gJ dU bL bR bO mY pW rD m_x jA rW oY pR pX)) hP hD 8 rfl rfl rfl
    have hP := hPD.1
    have hD := hPD.2
    refine lv_if_ne (tgt := 69) hx hb eX10_goShake_50.2.2.2.2.2.2.2.1 (by decide) (fun hc => ?_) (fun hc => ?_)
    · have hp := hp.1 hc
      refine lv_aload_n hx hb eX10_goShake_50.2.2.2.2.2.2.2.2.2.1 rfl (lv_at hl 0 rfl) ?_
      refine va_get (D := (dC, dI)) (ci := 10) (v := .ref oJ) (C := RX10) (T := TX10) (N := 51) hx hb hts i_X10 hown hK hP 0 rfl rfl 0 (Nat.le_of_ble_eq_true rfl) (hts _ q_692) (fun _ h9 => h9) rfl eX10_goShake_50.2.2.2.2.2.2.2.2.2.2.1 ?_
      refine lv_iload_n hx hb eX10_goShake_50.2.2.2.2.2.2.2.2.2.2.2.1 rfl (lv_at hl 3 rfl) ?_
      refine lv_iconst (v := 3) hx hb eX10_goShake_50.2.2.2.2.2.2.2.2.2.2.2.2.1 ic_3 ?_
      have hin := hp.1
      have hp := hp.2
      refine va_iast hx hb hK hP hD hS 1 0 rfl rfl hin eX10_goShake_50.2.2.2.2.2.2.2.2.2.2.2.2.2.1 (fun H locs hP hD hS => ?_)
      have hP : va_P (dC, dI) classes (wd_X10_goShake cI cC cZ cB cJ a_m oJ uD dY iJ lJ jQ jR jW jK pJ bM aY jO gR gY mK jZ iY bG mJ jB mQ lY eJ bY bW aG jG bQ dG jY m_length qG uW eY aJ aB bU dN aR aE bJ aW bT gJ dU bL bR bO mY pW (upd rD x3.toNatClampNeg 3) m_x jA rW oY pR pX) H := hP
      have hD : va_D A (wd_X10_goShake cI cC cZ cB cJ a_m oJ uD dY iJ lJ jQ jR jW jK pJ bM aY jO gR gY mK jZ iY bG mJ jB mQ lY eJ bY bW aG jG bQ dG jY m_length qG uW eY aJ aB bU dN aR aE bJ aW bT gJ dU bL bR bO mY pW (upd rD x3.toNatClampNeg 3) m_x jA rW oY pR pX) := hD
      refine lv_aload_n hx hb eX10_goShake_50.2.2.2.2.2.2.2.2.2.2.2.2.2.2.1 rfl (lv_at hl 0 rfl) ?_
      refine va_get (D := (dC, dI)) (ci := 10) (v := .ref oJ) (C := RX10) (T := TX10) (N := 51) hx hb hts i_X10 hown hK hP 0 rfl rfl 0 (Nat.le_of_ble_eq_true rfl) (hts _ q_692) (fun _ h9 => h9) rfl eX10_goShake_50.2.2.2.2.2.2.2.2.2.2.2.2.2.2.2 ?_
      refine lv_bipush (v := 16) hx hb eX10_goShake_80.1 bp_16 ?_
      refine lv_dup2_11 hx hb eX10_goShake_80.2.1 rfl rfl ?_
      refine va_iald hx hb hK hP 1 0 rfl rfl (g_in rfl) eX10_goShake_80.2.2.1 ?_
      refine lv_topi (fun v_13 ev_13 => ?_)
      have hp := hp v_13 ev_13
      refine lv_iconst (v := 1) hx hb eX10_goShake_80.2.2.2.1 ic_1 ?_
      refine lv_iload_n hx hb eX10_goShake_80.2.2.2.2.1 rfl (lv_at hl 3 rfl) ?_
      refine lv_ishl hx hb eX10_goShake_80.2.2.2.2.2.1 ?_
      refine lv_topi (fun v_14 ev_14 => ?_)
      have hp := hp v_14 ev_14
      refine lv_aload_n hx hb eX10_goShake_80.2.2.2.2.2.2.1 rfl (lv_at hl 0 rfl) ?_
      refine lv_iload_n hx hb eX10_goShake_80.2.2.2.2.2.2.2.1 rfl (lv_at hl 3 rfl) ?_
      refine lv_iload_n hx hb eX10_goShake_80.2.2.2.2.2.2.2.2.1 rfl (lv_at hl 2 rfl) ?_
      have hm := mgk (wc := (wd_X10_below cI cC cZ cB cJ a_m oJ uD dY iJ lJ jQ jR jW jK pJ bM aY jO gR gY mK jZ iY bG mJ jB mQ lY eJ bY bW aG jG bQ dG jY m_length qG uW eY aJ aB bU dN aR aE bJ aW bT gJ dU bL bR bO mY pW m_x jA)) hP mk_224 8 rfl rfl rfl
      refine g_calli hP hD hS hA (mixT mk_224) (mixF mk_224) hm.1 hm.2 (nd_F _) (dis_g _) (g_runV (As := [.int x3, .int x2]) (rest := [.int v_14, .int v_13, .int 16, .ref oJ]) C0 hP hD hS (mixT mk_224) hm.1 (nd_T _) 0 10 rfl rfl (c_X10_below l dC dI cI cC cZ cB cJ a_m oJ uD dY iJ lJ jQ jR jW jK pJ bM aY jO gR gY mK jZ iY bG mJ jB mQ lY eJ bY H.size x3 x2 bW aG jG bQ dG jY m_length qG uW eY aJ aB bU dN aR aE bJ aW bT gJ dU bL bR bO mY pW m_x jA _ hp) q_753 q_756 q_754 q_755 q_642 h_X10_below rfl rfl ⟨Nat.le_of_ble_eq_true rfl, Nat.le_of_ble_eq_true rfl⟩ rfl rfl hl.1 rfl (lv_room (Nat.le_of_ble_eq_true rfl)) eX10_goShake_80.2.2.2.2.2.2.2.2.2.1 ⟨Nat.zero_le _, Nat.zero_le _⟩) (fun r_15 u H locs hp hP hD hS => ?_)
      have hPD := PDm (ws' := (wd_X10_goShake cI cC cZ cB cJ a_m oJ uD dY iJ lJ jQ jR jW jK pJ bM aY jO gR gY mK jZ iY bG mJ jB mQ lY eJ bY bW aG jG bQ dG jY m_length qG uW eY aJ aB bU dN aR aE bJ aW bT gJ dU bL bR bO mY pW (upd rD x3.toNatClampNeg 3) m_x jA rW oY pR pX)) hP hD 8 rfl rfl rfl
      have hP := hPD.1
      have hD := hPD.2
      refine lv_ior hx hb eX10_goShake_80.2.2.2.2.2.2.2.2.2.2.1 ?_
      refine lv_ior hx hb eX10_goShake_80.2.2.2.2.2.2.2.2.2.2.2.1 ?_
      refine lv_topi (fun v_16 ev_16 => ?_)
      have hp := hp v_16 ev_16
      refine va_iast hx hb hK hP hD hS 1 0 rfl rfl (g_in rfl) eX10_goShake_80.2.2.2.2.2.2.2.2.2.2.2.2.1 (fun H locs hP hD hS => ?_)
      have hP : va_P (dC, dI) classes (wd_X10_goShake cI cC cZ cB cJ a_m oJ uD dY iJ lJ jQ jR jW jK pJ bM aY jO gR gY mK jZ iY bG mJ jB mQ lY eJ bY bW aG jG bQ dG jY m_length qG uW eY aJ aB bU dN aR aE bJ aW bT gJ dU bL bR bO mY pW (upd (upd rD x3.toNatClampNeg 3) (16 : Int32).toNatClampNeg v_16) m_x jA rW oY pR pX) H := hP
      have hD : va_D A (wd_X10_goShake cI cC cZ cB cJ a_m oJ uD dY iJ lJ jQ jR jW jK pJ bM aY jO gR gY mK jZ iY bG mJ jB mQ lY eJ bY bW aG jG bQ dG jY m_length qG uW eY aJ aB bU dN aR aE bJ aW bT gJ dU bL bR bO mY pW (upd (upd rD x3.toNatClampNeg 3) (16 : Int32).toNatClampNeg v_16) m_x jA rW oY pR pX) := hD
      exact ks_X10_goShake_96 C0 hKn x1 x2 x3 (upd (upd rD x3.toNatClampNeg 3) (16 : Int32).toNatClampNeg v_16) H locs ls hp hP hD hS (lv_sub hl [0, 1, 2, 3] rfl)
    · have hp := hp.2 hc
      refine lv_goto (tgt := 96) hx hb eX10_goShake_50.2.2.2.2.2.2.2.2.1 (by decide) ?_
      exact ks_X10_goShake_96 C0 hKn x1 x2 x3 rD H locs ls hp hP hD hS (lv_sub hl [0, 1, 2, 3] rfl)
set_option maxHeartbeats 4000000 in
set_option maxRecDepth 100000 in
theorem kb_X10_goShake_50 (C0 : gc cX10_goShake (some .int) 4 RX10 (dC, dI) (tyl cI cC cZ cB cJ) A p s m args meth c) : ∀ (n : Nat), ∀ (x1 x2 x3 : Int32) (rD : Nat → Int32) (H : Heap) (locs : List Loc) (ls : Array Slot), (wb_X10_goShake_50 post bW m_x jA rW oY pR pX n) x1 x2 x3 rD → va_P (dC, dI) classes (wd_X10_goShake cI cC cZ cB cJ a_m oJ uD dY iJ lJ jQ jR jW jK pJ bM aY jO gR gY mK jZ iY bG mJ jB mQ lY eJ bY bW aG jG bQ dG jY m_length qG uW eY aJ aB bU dN aR aE bJ aW bT gJ dU bL bR bO mY pW rD m_x jA rW oY pR pX) H → va_D A (wd_X10_goShake cI cC cZ cB cJ a_m oJ uD dY iJ lJ jQ jR jW jK pJ bM aY jO gR gY mK jZ iY bG mJ jB mQ lY eJ bY bW aG jG bQ dG jY m_length qG uW eY aJ aB bU dN aR aE bJ aW bT gJ dU bL bR bO mY pW rD m_x jA rW oY pR pX) → va_S A s.heap H locs → lv_has ls 4 [(0, .ref a_m), (1, .int x1), (2, .int x2), (3, .int x3)] → W p l e rm_X10_goShake s m args below meth c H locs 0 0 (MQ below (q_X10_goShake dC dI cI cC cZ cB cJ A a_m oJ uD dY iJ lJ jQ jR jW jK pJ bM aY jO gR gY mK jZ iY bG mJ jB mQ lY eJ bY bW aG jG bQ dG jY m_length qG uW eY aJ aB bU dN aR aE bJ aW bT gJ dU bL bR bO mY pW m_x jA rW oY pR pX post) args s 0 0 A) (F0 m 50 ls []) := by
  intro n
  induction n with
  | zero =>
    intro x1 x2 x3 rD H locs ls hp
    exact False.elim hp
  | succ n ih =>
    intro x1 x2 x3 rD H locs ls hp
    exact ks_X10_goShake_50 C0 ih x1 x2 x3 rD H locs ls hp
end S_X10_goShake
noncomputable def wp_X10_goShake (post : Int32 → (Nat → Int32) → Prop) (bW : Int32) (rD m_x jA rW oY pR pX : Nat → Int32) : Prop := wp_X10_which (fun r_1 => ∀ v_2 : Int32, v_2 = rD (19 : Int32).toNatClampNeg → wp_X10_ripeOnes (fun r_3 => ∀ v_4 : Int32, v_4 = r_1 &&& r_3 → ∀ v_5 : Int32, v_5 = rD (17 : Int32).toNatClampNeg → wp_X10_byHand (fun r_6 => ∀ v_7 : Int32, v_7 = v_4 &&& r_6 → wp_X10_which (fun r_8 => ∀ v_9 : Int32, v_9 = r_8 &&& (v_7 ^^^ (-1)) → ∃ n : Nat, wb_X10_goShake_50 post bW m_x jA rW oY pR pX n v_7 v_9 0 rD) 0 bW rD) v_5 bW rD m_x jA oY pR pX) v_2 bW rW) 0 bW rD
set_option maxHeartbeats 4000000 in
set_option maxRecDepth 100000 in
theorem c_X10_goShake (l : Launch) (dC : Nat → ClassId) (dI : Nat → Nat → Nat) (cI cC cZ cB cJ : ClassId) (a_m oJ uD dY iJ lJ jQ jR jW jK pJ bM aY jO gR gY mK jZ iY bG mJ jB mQ lY eJ bY sz : Nat) (bW aG jG bQ dG : Int32) (jY : Nat) (m_length qG uW eY aJ aB bU dN aR aE bJ aW bT gJ dU bL bR bO mY pW : Int32) (rD m_x jA rW oY pR pX : Nat → Int32) (post : Int32 → (Nat → Int32) → Prop) (hw : wp_X10_goShake post bW rD m_x jA rW oY pR pX) : Met l yX10_goShake (gw yX10_goShake cX10_goShake 4 (some .int)) rm_X10_goShake (va_Pc [.ref a_m] (gPre (dC, dI) (tyl cI cC cZ cB cJ) (wd_X10_goShake cI cC cZ cB cJ a_m oJ uD dY iJ lJ jQ jR jW jK pJ bM aY jO gR gY mK jZ iY bG mJ jB mQ lY eJ bY bW aG jG bQ dG jY m_length qG uW eY aJ aB bU dN aR aE bJ aW bT gJ dU bL bR bO mY pW rD m_x jA rW oY pR pX) sz)) (q_X10_goShake dC dI cI cC cZ cB cJ (va_A (wd_X10_goShake cI cC cZ cB cJ a_m oJ uD dY iJ lJ jQ jR jW jK pJ bM aY jO gR gY mK jZ iY bG mJ jB mQ lY eJ bY bW aG jG bQ dG jY m_length qG uW eY aJ aB bU dN aR aE bJ aW bT gJ dU bL bR bO mY pW rD m_x jA rW oY pR pX) sz) a_m oJ uD dY iJ lJ jQ jR jW jK pJ bM aY jO gR gY mK jZ iY bG mJ jB mQ lY eJ bY bW aG jG bQ dG jY m_length qG uW eY aJ aB bU dN aR aE bJ aW bT gJ dU bL bR bO mY pW m_x jA rW oY pR pX post) 0 0 (va_A (wd_X10_goShake cI cC cZ cB cJ a_m oJ uD dY iJ lJ jQ jR jW jK pJ bM aY jO gR gY mK jZ iY bG mJ jB mQ lY eJ bY bW aG jG bQ dG jY m_length qG uW eY aJ aB bU dN aR aE bJ aW bT gJ dU bL bR bO mY pW rD m_x jA rW oY pR pX) sz) := by
  refine g_enter (own := RX10) (dC, dI) (tyl cI cC cZ cB cJ) (wd_X10_goShake cI cC cZ cB cJ a_m oJ uD dY iJ lJ jQ jR jW jK pJ bM aY jO gR gY mK jZ iY bG mJ jB mQ lY eJ bY bW aG jG bQ dG jY m_length qG uW eY aJ aB bU dN aR aE bJ aW bT gJ dU bL bR bO mY pW rD m_x jA rW oY pR pX) sz [.ref a_m] (fun A => q_X10_goShake dC dI cI cC cZ cB cJ A a_m oJ uD dY iJ lJ jQ jR jW jK pJ bM aY jO gR gY mK jZ iY bG mJ jB mQ lY eJ bY bW aG jG bQ dG jY m_length qG uW eY aJ aB bU dN aR aE bJ aW bT gJ dU bL bR bO mY pW m_x jA rW oY pR pX post) pn_RX10 rfl (Nat.le_of_ble_eq_true rfl) ?_
  intro p e s m args below meth c A H locs ls C0 hP hD hS hl
  have hl : lv_has ls 4 [(0, .ref a_m)] := hl
  obtain ⟨hx, hb, hr, hml, hown, hts, hlocks, hA, hK, hN, tL, tM, hZL, hTL, hZM, hTM, hZX⟩ := id C0
  have hp := hw
  unfold wp_X10_goShake at hp
  refine lv_aload_n hx hb eX10_goShake_0.1 rfl (lv_at hl 0 rfl) ?_
  refine lv_aload_n hx hb eX10_goShake_0.2.1 rfl (lv_at hl 0 rfl) ?_
  refine va_get (D := (dC, dI)) (ci := 10) (v := .ref oJ) (C := RX10) (T := TX10) (N := 51) hx hb hts i_X10 hown hK hP 0 rfl rfl 0 (Nat.le_of_ble_eq_true rfl) (hts _ q_692) (fun _ h9 => h9) rfl eX10_goShake_0.2.2.1 ?_
  refine lv_iconst (v := 0) hx hb eX10_goShake_0.2.2.2.1 ic_0 ?_
  have hm := mgk (wc := (wd_X10_which cI cC cZ cB cJ a_m oJ uD dY iJ lJ jQ jR jW jK pJ bM aY jO gR gY mK jZ iY bG mJ jB mQ lY eJ bY bW aG jG bQ dG jY m_length qG uW eY aJ aB bU dN aR aE bJ aW bT gJ dU bL bR bO mY pW rD)) hP aGn 8 rfl rfl rfl
  refine g_calli hP hD hS hA (mixT aGn) (mixF aGn) hm.1 hm.2 (nd_F _) (dis_g _) (g_runV (As := [.ref oJ, .int 0]) (rest := []) C0 hP hD hS (mixT aGn) hm.1 (nd_T _) 0 10 rfl rfl (c_X10_which l dC dI cI cC cZ cB cJ a_m oJ uD dY iJ lJ jQ jR jW jK pJ bM aY jO gR gY mK jZ iY bG mJ jB mQ lY eJ bY H.size 0 bW aG jG bQ dG jY m_length qG uW eY aJ aB bU dN aR aE bJ aW bT gJ dU bL bR bO mY pW rD _ hp) q_749 q_752 q_750 q_751 q_642 h_X10_which rfl rfl ⟨Nat.le_of_ble_eq_true rfl, Nat.le_of_ble_eq_true rfl⟩ rfl rfl hl.1 rfl (lv_room (Nat.le_of_ble_eq_true rfl)) eX10_goShake_0.2.2.2.2.1 ⟨Nat.zero_le _, Nat.zero_le _⟩) (fun r_1 u H locs hp hP hD hS => ?_)
  have hPD := PDm (ws' := (wd_X10_goShake cI cC cZ cB cJ a_m oJ uD dY iJ lJ jQ jR jW jK pJ bM aY jO gR gY mK jZ iY bG mJ jB mQ lY eJ bY bW aG jG bQ dG jY m_length qG uW eY aJ aB bU dN aR aE bJ aW bT gJ dU bL bR bO mY pW rD m_x jA rW oY pR pX)) hP hD 8 rfl rfl rfl
  have hP := hPD.1
  have hD := hPD.2
  refine lv_aload_n hx hb eX10_goShake_0.2.2.2.2.2.1 rfl (lv_at hl 0 rfl) ?_
  refine lv_aload_n hx hb eX10_goShake_0.2.2.2.2.2.2.1 rfl (lv_at hl 0 rfl) ?_
  refine va_get (D := (dC, dI)) (ci := 10) (v := .ref oJ) (C := RX10) (T := TX10) (N := 51) hx hb hts i_X10 hown hK hP 0 rfl rfl 0 (Nat.le_of_ble_eq_true rfl) (hts _ q_692) (fun _ h9 => h9) rfl eX10_goShake_0.2.2.2.2.2.2.2.1 ?_
  refine lv_bipush (v := 19) hx hb eX10_goShake_0.2.2.2.2.2.2.2.2.1 bp_19 ?_
  refine va_iald hx hb hK hP 1 0 rfl rfl (g_in rfl) eX10_goShake_0.2.2.2.2.2.2.2.2.2.1 ?_
  refine lv_topi (fun v_2 ev_2 => ?_)
  have hp := hp v_2 ev_2
  have hm := mgk (wc := (wd_X10_ripeOnes cI cC cZ cB cJ a_m oJ uD dY iJ lJ jQ jR jW jK pJ bM aY jO gR gY mK jZ iY bG mJ jB mQ lY eJ bY bW aG jG bQ dG jY m_length qG uW eY aJ aB bU dN aR aE bJ aW bT gJ dU bL bR bO mY pW rW)) hP mk_225 8 rfl rfl rfl
  refine g_calli hP hD hS hA (mixT mk_225) (mixF mk_225) hm.1 hm.2 (nd_F _) (dis_g _) (g_runV (As := [.int v_2]) (rest := [.int r_1]) C0 hP hD hS (mixT mk_225) hm.1 (nd_T _) 0 10 rfl rfl (c_X10_ripeOnes l dC dI cI cC cZ cB cJ a_m oJ uD dY iJ lJ jQ jR jW jK pJ bM aY jO gR gY mK jZ iY bG mJ jB mQ lY eJ bY H.size v_2 bW aG jG bQ dG jY m_length qG uW eY aJ aB bU dN aR aE bJ aW bT gJ dU bL bR bO mY pW rW _ hp) q_828 q_831 q_829 q_830 q_642 h_X10_ripeOnes rfl rfl ⟨Nat.le_of_ble_eq_true rfl, Nat.le_of_ble_eq_true rfl⟩ rfl rfl hl.1 rfl (lv_room (Nat.le_of_ble_eq_true rfl)) eX10_goShake_0.2.2.2.2.2.2.2.2.2.2.1 ⟨Nat.zero_le _, Nat.zero_le _⟩) (fun r_3 u H locs hp hP hD hS => ?_)
  have hPD := PDm (ws' := (wd_X10_goShake cI cC cZ cB cJ a_m oJ uD dY iJ lJ jQ jR jW jK pJ bM aY jO gR gY mK jZ iY bG mJ jB mQ lY eJ bY bW aG jG bQ dG jY m_length qG uW eY aJ aB bU dN aR aE bJ aW bT gJ dU bL bR bO mY pW rD m_x jA rW oY pR pX)) hP hD 8 rfl rfl rfl
  have hP := hPD.1
  have hD := hPD.2
  refine lv_iand hx hb eX10_goShake_0.2.2.2.2.2.2.2.2.2.2.2.1 ?_
  refine lv_topi (fun v_4 ev_4 => ?_)
  have hp := hp v_4 ev_4
  refine lv_aload_n hx hb eX10_goShake_0.2.2.2.2.2.2.2.2.2.2.2.2.1 rfl (lv_at hl 0 rfl) ?_
  refine lv_aload_n hx hb eX10_goShake_0.2.2.2.2.2.2.2.2.2.2.2.2.2.1 rfl (lv_at hl 0 rfl) ?_
  refine va_get (D := (dC, dI)) (ci := 10) (v := .ref oJ) (C := RX10) (T := TX10) (N := 51) hx hb hts i_X10 hown hK hP 0 rfl rfl 0 (Nat.le_of_ble_eq_true rfl) (hts _ q_692) (fun _ h9 => h9) rfl eX10_goShake_0.2.2.2.2.2.2.2.2.2.2.2.2.2.2.1 ?_
  refine lv_bipush (v := 17) hx hb eX10_goShake_0.2.2.2.2.2.2.2.2.2.2.2.2.2.2.2 bp_17 ?_
  refine va_iald hx hb hK hP 1 0 rfl rfl (g_in rfl) eX10_goShake_28.1 ?_
  refine lv_topi (fun v_5 ev_5 => ?_)
  have hp := hp v_5 ev_5
  have hm := mgk (wc := (wd_X10_byHand cI cC cZ cB cJ a_m oJ uD dY iJ lJ jQ jR jW jK pJ bM aY jO gR gY mK jZ iY bG mJ jB mQ lY eJ bY bW aG jG bQ dG jY m_length qG uW eY aJ aB bU dN aR aE bJ aW bT gJ dU bL bR bO mY pW rD m_x jA oY pR pX)) hP mk_226 8 rfl rfl rfl
  refine g_calli hP hD hS hA (mixT mk_226) (mixF mk_226) hm.1 hm.2 (nd_F _) (dis_g _) (g_runV (As := [.int v_5]) (rest := [.int v_4]) C0 hP hD hS (mixT mk_226) hm.1 (nd_T _) 0 10 rfl rfl (c_X10_byHand l dC dI cI cC cZ cB cJ a_m oJ uD dY iJ lJ jQ jR jW jK pJ bM aY jO gR gY mK jZ iY bG mJ jB mQ lY eJ bY H.size v_5 bW aG jG bQ dG jY m_length qG uW eY aJ aB bU dN aR aE bJ aW bT gJ dU bL bR bO mY pW rD m_x jA oY pR pX _ hp) q_832 q_835 q_833 q_834 q_642 h_X10_byHand rfl rfl ⟨Nat.le_of_ble_eq_true rfl, Nat.le_of_ble_eq_true rfl⟩ rfl rfl hl.1 rfl (lv_room (Nat.le_of_ble_eq_true rfl)) eX10_goShake_28.2.1 ⟨Nat.zero_le _, Nat.zero_le _⟩) (fun r_6 u H locs hp hP hD hS => ?_)
  have hPD := PDm (ws' := (wd_X10_goShake cI cC cZ cB cJ a_m oJ uD dY iJ lJ jQ jR jW jK pJ bM aY jO gR gY mK jZ iY bG mJ jB mQ lY eJ bY bW aG jG bQ dG jY m_length qG uW eY aJ aB bU dN aR aE bJ aW bT gJ dU bL bR bO mY pW rD m_x jA rW oY pR pX)) hP hD 8 rfl rfl rfl
  have hP := hPD.1
  have hD := hPD.2
  refine lv_iand hx hb eX10_goShake_28.2.2.1 ?_
  refine lv_topi (fun v_7 ev_7 => ?_)
  have hp := hp v_7 ev_7
  refine lv_istore_n (lv' := [(1, .int v_7), (0, .ref a_m)]) hx hb eX10_goShake_28.2.2.2.1 rfl hl (by decide) rfl (fun ls hl => ?_)
  refine lv_aload_n hx hb eX10_goShake_28.2.2.2.2.1 rfl (lv_at hl 1 rfl) ?_
  refine lv_aload_n hx hb eX10_goShake_28.2.2.2.2.2.1 rfl (lv_at hl 1 rfl) ?_
  refine va_get (D := (dC, dI)) (ci := 10) (v := .ref oJ) (C := RX10) (T := TX10) (N := 51) hx hb hts i_X10 hown hK hP 0 rfl rfl 0 (Nat.le_of_ble_eq_true rfl) (hts _ q_692) (fun _ h9 => h9) rfl eX10_goShake_28.2.2.2.2.2.2.1 ?_
  refine lv_iconst (v := 0) hx hb eX10_goShake_28.2.2.2.2.2.2.2.1 ic_0 ?_
  have hm := mgk (wc := (wd_X10_which cI cC cZ cB cJ a_m oJ uD dY iJ lJ jQ jR jW jK pJ bM aY jO gR gY mK jZ iY bG mJ jB mQ lY eJ bY bW aG jG bQ dG jY m_length qG uW eY aJ aB bU dN aR aE bJ aW bT gJ dU bL bR bO mY pW rD)) hP aGn 8 rfl rfl rfl
  refine g_calli hP hD hS hA (mixT aGn) (mixF aGn) hm.1 hm.2 (nd_F _) (dis_g _) (g_runV (As := [.ref oJ, .int 0]) (rest := []) C0 hP hD hS (mixT aGn) hm.1 (nd_T _) 0 10 rfl rfl (c_X10_which l dC dI cI cC cZ cB cJ a_m oJ uD dY iJ lJ jQ jR jW jK pJ bM aY jO gR gY mK jZ iY bG mJ jB mQ lY eJ bY H.size 0 bW aG jG bQ dG jY m_length qG uW eY aJ aB bU dN aR aE bJ aW bT gJ dU bL bR bO mY pW rD _ hp) q_749 q_752 q_750 q_751 q_642 h_X10_which rfl rfl ⟨Nat.le_of_ble_eq_true rfl, Nat.le_of_ble_eq_true rfl⟩ rfl rfl hl.1 rfl (lv_room (Nat.le_of_ble_eq_true rfl)) eX10_goShake_28.2.2.2.2.2.2.2.2.1 ⟨Nat.zero_le _, Nat.zero_le _⟩) (fun r_8 u H locs hp hP hD hS => ?_)
  have hPD := PDm (ws' := (wd_X10_goShake cI cC cZ cB cJ a_m oJ uD dY iJ lJ jQ jR jW jK pJ bM aY jO gR gY mK jZ iY bG mJ jB mQ lY eJ bY bW aG jG bQ dG jY m_length qG uW eY aJ aB bU dN aR aE bJ aW bT gJ dU bL bR bO mY pW rD m_x jA rW oY pR pX)) hP hD 8 rfl rfl rfl
  have hP := hPD.1
  have hD := hPD.2
  refine lv_iload_n hx hb eX10_goShake_28.2.2.2.2.2.2.2.2.2.1 rfl (lv_at hl 0 rfl) ?_
  refine lv_iconst (v := (-1)) hx hb eX10_goShake_28.2.2.2.2.2.2.2.2.2.2.1 ic_m1 ?_
  refine lv_ixor hx hb eX10_goShake_28.2.2.2.2.2.2.2.2.2.2.2.1 ?_
  refine lv_iand hx hb eX10_goShake_28.2.2.2.2.2.2.2.2.2.2.2.2.1 ?_
  refine lv_topi (fun v_9 ev_9 => ?_)
  have hp := hp v_9 ev_9
  refine lv_istore_n (lv' := [(2, .int v_9), (1, .int v_7), (0, .ref a_m)]) hx hb eX10_goShake_28.2.2.2.2.2.2.2.2.2.2.2.2.2.1 rfl hl (by decide) rfl (fun ls hl => ?_)
  refine lv_iconst (v := 0) hx hb eX10_goShake_28.2.2.2.2.2.2.2.2.2.2.2.2.2.2.1 ic_0 ?_
  refine lv_istore_n (lv' := [(3, .int 0), (2, .int v_9), (1, .int v_7), (0, .ref a_m)]) hx hb eX10_goShake_28.2.2.2.2.2.2.2.2.2.2.2.2.2.2.2 rfl hl (by decide) rfl (fun ls hl => ?_)
  obtain ⟨n9, hp⟩ := hp
  exact kb_X10_goShake_50 C0 n9 v_7 v_9 0 rD H locs ls hp hP hD hS (lv_sub hl [3, 2, 1, 0] rfl)
