noncomputable abbrev wd_X10_lay_b4 (cI cC cZ cB cJ : ClassId) (oJ lY : Nat) (rD wF : Nat → Int32) : va_W := [(oJ, .inl (cI, 21, .inl rD)), (lY, .inl (cI, 42, .inl wF))]
noncomputable abbrev q_X10_lay_b4 (dC : Nat → ClassId) (dI : Nat → Nat → Nat) (cI cC cZ cB cJ : ClassId) (A : Nat → Prop) (oJ lY : Nat) (rD : Nat → Int32) (post : (Nat → Int32) → Prop) : Array Value → State → Outcome → State → Prop := va_Qv (fun (u : (Nat → Int32)) => post u) (fun u t => gB (dC, dI) (tyl cI cC cZ cB cJ) A (wd_X10_lay_b4 cI cC cZ cB cJ oJ lY rD u) t) A
noncomputable abbrev rm_X10_lay_b4 : Room := { frames := 0, cells := 0, slots := 0, locals := 0 }
section S_X10_lay_b4
variable {p : Program} {l : Launch} {e : Env} {s : State} {m : MethodId} {args : Array Value} {below : List Frame} {meth : Method} {c : Code} {dC : Nat → ClassId} {dI : Nat → Nat → Nat} {cI cC cZ cB cJ : ClassId} {A : Nat → Prop} {oJ lY : Nat} {rD : Nat → Int32} {post : (Nat → Int32) → Prop}
noncomputable def ws_X10_lay_b4_2 (post : (Nat → Int32) → Prop) (next : Int32 → Int32 → (Nat → Int32) → Prop) (rD : Nat → Int32) (x2 x3 : Int32) (wF : Nat → Int32) : Prop := (21 ≤ x3 → post wF) ∧ (¬ 21 ≤ x3 → ∀ v_1 : Int32, v_1 = x2 + x3 → vp_in x3 21 ∧ (∀ v_2 : Int32, v_2 = rD x3.toNatClampNeg → vp_in v_1 42 ∧ (∀ v_3 : Int32, v_3 = x3 + 1 → next x2 v_3 (upd wF v_1.toNatClampNeg v_2))))
noncomputable def wb_X10_lay_b4_2 (post : (Nat → Int32) → Prop) (rD : Nat → Int32) : Nat → Int32 → Int32 → (Nat → Int32) → Prop := fun n => Nat.rec (motive := fun _ => Int32 → Int32 → (Nat → Int32) → Prop) (fun _ _ _ => False) (fun _ ih => ws_X10_lay_b4_2 post ih rD) n
set_option maxHeartbeats 4000000 in
set_option maxRecDepth 100000 in
theorem ks_X10_lay_b4_2 (C0 : gc cX10_lay none 4 RX10 (dC, dI) (tyl cI cC cZ cB cJ) A p s m args meth c) {next : Int32 → Int32 → (Nat → Int32) → Prop} (hKn : ∀ (x2 : Int32) (x3 : Int32) (wF : Nat → Int32) (H : Heap) (locs : List Loc) (ls : Array Slot), next x2 x3 wF → va_P (dC, dI) classes (wd_X10_lay_b4 cI cC cZ cB cJ oJ lY rD wF) H → va_D A (wd_X10_lay_b4 cI cC cZ cB cJ oJ lY rD wF) → va_S A s.heap H locs → lv_has ls 4 [(0, .ref oJ), (1, .ref lY), (2, .int x2), (3, .int x3)] → W p l e rm_X10_lay_b4 s m args below meth c H locs 0 0 (MQ below (q_X10_lay_b4 dC dI cI cC cZ cB cJ A oJ lY rD post) args s 0 0 A) (F0 m 2 ls [])) : ∀ (x2 x3 : Int32) (wF : Nat → Int32) (H : Heap) (locs : List Loc) (ls : Array Slot), (ws_X10_lay_b4_2 post next rD) x2 x3 wF → va_P (dC, dI) classes (wd_X10_lay_b4 cI cC cZ cB cJ oJ lY rD wF) H → va_D A (wd_X10_lay_b4 cI cC cZ cB cJ oJ lY rD wF) → va_S A s.heap H locs → lv_has ls 4 [(0, .ref oJ), (1, .ref lY), (2, .int x2), (3, .int x3)] → W p l e rm_X10_lay_b4 s m args below meth c H locs 0 0 (MQ below (q_X10_lay_b4 dC dI cI cC cZ cB cJ A oJ lY rD post) args s 0 0 A) (F0 m 2 ls []) := by
  obtain ⟨hx, hb, hr, hml, hown, hts, hlocks, hA, hK, hN, tL, tM, hZL, hTL, hZM, hTM, hZX⟩ := id C0
  intro x2 x3 wF H locs ls hp hP hD hS hl
  unfold ws_X10_lay_b4_2 at hp
  refine lv_iload_n hx hb eX10_lay_0.2.2.1 rfl (lv_at hl 3 rfl) ?_
  refine lv_bipush (v := 21) hx hb eX10_lay_0.2.2.2.1 bp_21 ?_
  refine lv_icmp_ge (tgt := 22) hx hb eX10_lay_0.2.2.2.2.1 (by decide) (fun hc => ?_) (fun hc => ?_)
  · have hp := hp.1 hc
    exact W.vret hx hb hr (fun t ht hW => ⟨⟨wF, rfl, hp, by rw [ht]; exact hP, va_K.moved hW.alike hK, hD⟩, hS.F ht⟩) hS.2.2 eX10_lay_0.2.2.2.2.2.2.2.2.2.2.2.2.2.2.2
  · have hp := hp.2 hc
    refine lv_aload_n hx hb eX10_lay_0.2.2.2.2.2.1 rfl (lv_at hl 1 rfl) ?_
    refine lv_iload_n hx hb eX10_lay_0.2.2.2.2.2.2.1 rfl (lv_at hl 2 rfl) ?_
    refine lv_iload_n hx hb eX10_lay_0.2.2.2.2.2.2.2.1 rfl (lv_at hl 3 rfl) ?_
    refine lv_iadd hx hb eX10_lay_0.2.2.2.2.2.2.2.2.1 ?_
    refine lv_topi (fun v_1 ev_1 => ?_)
    have hp := hp v_1 ev_1
    refine lv_aload_n hx hb eX10_lay_0.2.2.2.2.2.2.2.2.2.1 rfl (lv_at hl 0 rfl) ?_
    refine lv_iload_n hx hb eX10_lay_0.2.2.2.2.2.2.2.2.2.2.1 rfl (lv_at hl 3 rfl) ?_
    have hin := hp.1
    have hp := hp.2
    refine va_iald hx hb hK hP 0 0 rfl rfl hin eX10_lay_0.2.2.2.2.2.2.2.2.2.2.2.1 ?_
    refine lv_topi (fun v_2 ev_2 => ?_)
    have hp := hp v_2 ev_2
    have hin := hp.1
    have hp := hp.2
    refine va_iast hx hb hK hP hD hS 1 0 rfl rfl hin eX10_lay_0.2.2.2.2.2.2.2.2.2.2.2.2.1 (fun H locs hP hD hS => ?_)
    have hP : va_P (dC, dI) classes (wd_X10_lay_b4 cI cC cZ cB cJ oJ lY rD (upd wF v_1.toNatClampNeg v_2)) H := hP
    have hD : va_D A (wd_X10_lay_b4 cI cC cZ cB cJ oJ lY rD (upd wF v_1.toNatClampNeg v_2)) := hD
    obtain ⟨v_3, ev_3⟩ : ∃ y : Int32, y = x3 + 1 := ⟨_, rfl⟩
    refine lv_iinc (v := v_3) (lv' := [(3, .int v_3), (0, .ref oJ), (1, .ref lY), (2, .int x2)]) hx hb eX10_lay_0.2.2.2.2.2.2.2.2.2.2.2.2.2.1 hl (k := 3) rfl (by rw [ev_3]; rfl) (by decide) rfl (fun ls hl => ?_)
    have hp := hp v_3 ev_3
    refine lv_goto (tgt := 2) hx hb eX10_lay_0.2.2.2.2.2.2.2.2.2.2.2.2.2.2.1 (by decide) ?_
    exact hKn x2 v_3 (upd wF v_1.toNatClampNeg v_2) H locs ls hp hP hD hS (lv_sub hl [1, 2, 3, 0] rfl)
set_option maxHeartbeats 4000000 in
set_option maxRecDepth 100000 in
theorem kb_X10_lay_b4_2 (C0 : gc cX10_lay none 4 RX10 (dC, dI) (tyl cI cC cZ cB cJ) A p s m args meth c) : ∀ (n : Nat), ∀ (x2 x3 : Int32) (wF : Nat → Int32) (H : Heap) (locs : List Loc) (ls : Array Slot), (wb_X10_lay_b4_2 post rD n) x2 x3 wF → va_P (dC, dI) classes (wd_X10_lay_b4 cI cC cZ cB cJ oJ lY rD wF) H → va_D A (wd_X10_lay_b4 cI cC cZ cB cJ oJ lY rD wF) → va_S A s.heap H locs → lv_has ls 4 [(0, .ref oJ), (1, .ref lY), (2, .int x2), (3, .int x3)] → W p l e rm_X10_lay_b4 s m args below meth c H locs 0 0 (MQ below (q_X10_lay_b4 dC dI cI cC cZ cB cJ A oJ lY rD post) args s 0 0 A) (F0 m 2 ls []) := by
  intro n
  induction n with
  | zero =>
    intro x2 x3 wF H locs ls hp
    exact False.elim hp
  | succ n ih =>
    intro x2 x3 wF H locs ls hp
    exact ks_X10_lay_b4_2 C0 ih x2 x3 wF H locs ls hp
end S_X10_lay_b4
noncomputable def wp_X10_lay_b4 (post : (Nat → Int32) → Prop) (p2 : Int32) (rD wF : Nat → Int32) : Prop := ∃ n : Nat, wb_X10_lay_b4_2 post rD n p2 0 wF
set_option maxHeartbeats 4000000 in
set_option maxRecDepth 100000 in
theorem c_X10_lay_b4 (l : Launch) (dC : Nat → ClassId) (dI : Nat → Nat → Nat) (cI cC cZ cB cJ : ClassId) (oJ lY sz : Nat) (p2 : Int32) (rD wF : Nat → Int32) (post : (Nat → Int32) → Prop) (hw : wp_X10_lay_b4 post p2 rD wF) : Met l yX10_lay (gw yX10_lay cX10_lay 4 none) rm_X10_lay_b4 (va_Pc [.ref oJ, .ref lY, .int p2] (gPre (dC, dI) (tyl cI cC cZ cB cJ) (wd_X10_lay_b4 cI cC cZ cB cJ oJ lY rD wF) sz)) (q_X10_lay_b4 dC dI cI cC cZ cB cJ (va_A (wd_X10_lay_b4 cI cC cZ cB cJ oJ lY rD wF) sz) oJ lY rD post) 0 0 (va_A (wd_X10_lay_b4 cI cC cZ cB cJ oJ lY rD wF) sz) := by
  refine g_enter (own := RX10) (dC, dI) (tyl cI cC cZ cB cJ) (wd_X10_lay_b4 cI cC cZ cB cJ oJ lY rD wF) sz [.ref oJ, .ref lY, .int p2] (fun A => q_X10_lay_b4 dC dI cI cC cZ cB cJ A oJ lY rD post) pn_RX10 rfl (Nat.le_of_ble_eq_true rfl) ?_
  intro p e s m args below meth c A H locs ls C0 hP hD hS hl
  have hl : lv_has ls 4 [(0, .ref oJ), (1, .ref lY), (2, .int p2)] := hl
  obtain ⟨hx, hb, hr, hml, hown, hts, hlocks, hA, hK, hN, tL, tM, hZL, hTL, hZM, hTM, hZX⟩ := id C0
  have hp := hw
  unfold wp_X10_lay_b4 at hp
  refine lv_iconst (v := 0) hx hb eX10_lay_0.1 ic_0 ?_
  refine lv_istore_n (lv' := [(3, .int 0), (0, .ref oJ), (1, .ref lY), (2, .int p2)]) hx hb eX10_lay_0.2.1 rfl hl (by decide) rfl (fun ls hl => ?_)
  obtain ⟨n9, hp⟩ := hp
  exact kb_X10_lay_b4_2 C0 n9 p2 0 wF H locs ls hp hP hD hS (lv_sub hl [1, 2, 3, 0] rfl)
noncomputable abbrev wd_X10_keep (cI cC cZ cB cJ : ClassId) (a_m oJ uD dY iJ lJ jQ jR jW jK pJ bM aY jO gR gY mK jZ iY bG mJ jB mQ lY eJ bY : Nat) (bW aG jG bQ dG : Int32) (jY : Nat) (m_length qG uW eY aJ aB bU dN aR aE bJ aW bT gJ dU bL bR bO mY pW : Int32) (rD wF vF tY : Nat → Int32) : va_W := [(a_m, .inr (10, [.ref oJ, .int bW, .ref uD, .ref dY, .ref iJ, .ref lJ, .int aG, .ref jQ, .ref jR, .ref jW, .ref jK, .int jG, .ref pJ, .int bQ, .int dG, rdv jK jO jY, .int m_length, .int qG, .int uW, .int eY, .ref bM, .ref aY, .int aJ, .int aB, .ref jO, .int bU, .int dN, .int aR, .int aE, .int bJ, .int aW, .ref gR, .int bT, .ref gY, .ref mK, .int gJ, .ref jZ, .int dU, .ref iY, .ref bG, .int bL, .int bR, .int bO, .ref mJ, .ref jB, .ref mQ, .int mY, .int pW, .ref lY, .ref eJ, .ref bY])), (oJ, .inl (cI, 21, .inl rD)), (lY, .inl (cI, 42, .inl wF)), (eJ, .inl (cZ, 2, .inl vF)), (bY, .inl (cI, 2, .inl tY))]
noncomputable abbrev q_X10_keep (dC : Nat → ClassId) (dI : Nat → Nat → Nat) (cI cC cZ cB cJ : ClassId) (A : Nat → Prop) (a_m oJ uD dY iJ lJ jQ jR jW jK pJ bM aY jO gR gY mK jZ iY bG mJ jB mQ lY eJ bY : Nat) (bW aG jG bQ : Int32) (jY : Nat) (m_length qG uW eY aJ aB bU dN aR aE bJ aW bT gJ dU bL bR bO mY pW : Int32) (rD : Nat → Int32) (post : Int32 → Int32 → (Nat → Int32) → (Nat → Int32) → (Nat → Int32) → Prop) : Array Value → State → Outcome → State → Prop := va_Qi (fun (r : Int32) (u : Int32 × (Nat → Int32) × (Nat → Int32) × (Nat → Int32)) => post r u.1 u.2.1 u.2.2.1 u.2.2.2) (fun u t => gB (dC, dI) (tyl cI cC cZ cB cJ) A (wd_X10_keep cI cC cZ cB cJ a_m oJ uD dY iJ lJ jQ jR jW jK pJ bM aY jO gR gY mK jZ iY bG mJ jB mQ lY eJ bY bW aG jG bQ u.1 jY m_length qG uW eY aJ aB bU dN aR aE bJ aW bT gJ dU bL bR bO mY pW rD u.2.1 u.2.2.1 u.2.2.2) t) A
noncomputable abbrev rm_X10_keep : Room := { frames := 1, cells := 0, slots := 0, locals := 23 }
noncomputable def wp_X10_keep (post : Int32 → Int32 → (Nat → Int32) → (Nat → Int32) → (Nat → Int32) → Prop) (p0 dG pW : Int32) (rD wF vF tY : Nat → Int32) : Prop := wp_X10_in (fun r_1 => (¬ r_1 = 0 → vp_in p0 2 ∧ (vp_in p0 2 ∧ (∀ v_2 : Int32, v_2 = 21 * p0 → wp_X10_lay_b4 (fun m_kept_3 => post 1 0 m_kept_3 (upd vF p0.toNatClampNeg (vp_nar .boolean 1)) (upd tY p0.toNatClampNeg pW)) v_2 rD wF))) ∧ (r_1 = 0 → post 0 0 wF vF tY)) p0 0 1
set_option maxHeartbeats 4000000 in
set_option maxRecDepth 100000 in
theorem c_X10_keep (l : Launch) (dC : Nat → ClassId) (dI : Nat → Nat → Nat) (cI cC cZ cB cJ : ClassId) (a_m oJ uD dY iJ lJ jQ jR jW jK pJ bM aY jO gR gY mK jZ iY bG mJ jB mQ lY eJ bY sz : Nat) (p0 bW aG jG bQ dG : Int32) (jY : Nat) (m_length qG uW eY aJ aB bU dN aR aE bJ aW bT gJ dU bL bR bO mY pW : Int32) (rD wF vF tY : Nat → Int32) (post : Int32 → Int32 → (Nat → Int32) → (Nat → Int32) → (Nat → Int32) → Prop) (hw : wp_X10_keep post p0 dG pW rD wF vF tY) : Met l yX10_keep (gw yX10_keep cX10_keep 2 (some .boolean)) rm_X10_keep (va_Pc [.ref a_m, .int p0] (gPre (dC, dI) (tyl cI cC cZ cB cJ) (wd_X10_keep cI cC cZ cB cJ a_m oJ uD dY iJ lJ jQ jR jW jK pJ bM aY jO gR gY mK jZ iY bG mJ jB mQ lY eJ bY bW aG jG bQ dG jY m_length qG uW eY aJ aB bU dN aR aE bJ aW bT gJ dU bL bR bO mY pW rD wF vF tY) sz)) (q_X10_keep dC dI cI cC cZ cB cJ (va_A (wd_X10_keep cI cC cZ cB cJ a_m oJ uD dY iJ lJ jQ jR jW jK pJ bM aY jO gR gY mK jZ iY bG mJ jB mQ lY eJ bY bW aG jG bQ dG jY m_length qG uW eY aJ aB bU dN aR aE bJ aW bT gJ dU bL bR bO mY pW rD wF vF tY) sz) a_m oJ uD dY iJ lJ jQ jR jW jK pJ bM aY jO gR gY mK jZ iY bG mJ jB mQ lY eJ bY bW aG jG bQ jY m_length qG uW eY aJ aB bU dN aR aE bJ aW bT gJ dU bL bR bO mY pW rD post) 0 0 (va_A (wd_X10_keep cI cC cZ cB cJ a_m oJ uD dY iJ lJ jQ jR jW jK pJ bM aY jO gR gY mK jZ iY bG mJ jB mQ lY eJ bY bW aG jG bQ dG jY m_length qG uW eY aJ aB bU dN aR aE bJ aW bT gJ dU bL bR bO mY pW rD wF vF tY) sz) := by
  refine g_enter (own := RX10) (dC, dI) (tyl cI cC cZ cB cJ) (wd_X10_keep cI cC cZ cB cJ a_m oJ uD dY iJ lJ jQ jR jW jK pJ bM aY jO gR gY mK jZ iY bG mJ jB mQ lY eJ bY bW aG jG bQ dG jY m_length qG uW eY aJ aB bU dN aR aE bJ aW bT gJ dU bL bR bO mY pW rD wF vF tY) sz [.ref a_m, .int p0] (fun A => q_X10_keep dC dI cI cC cZ cB cJ A a_m oJ uD dY iJ lJ jQ jR jW jK pJ bM aY jO gR gY mK jZ iY bG mJ jB mQ lY eJ bY bW aG jG bQ jY m_length qG uW eY aJ aB bU dN aR aE bJ aW bT gJ dU bL bR bO mY pW rD post) pn_RX10 rfl (Nat.le_of_ble_eq_true rfl) ?_
  intro p e s m args below meth c A H locs ls C0 hP hD hS hl
  have hl : lv_has ls 2 [(0, .ref a_m), (1, .int p0)] := hl
  obtain ⟨hx, hb, hr, hml, hown, hts, hlocks, hA, hK, hN, tL, tM, hZL, hTL, hZM, hTM, hZX⟩ := id C0
  have hp := hw
  unfold wp_X10_keep at hp
  refine lv_aload_n hx hb eX10_keep_0.1 rfl (lv_at hl 0 rfl) ?_
  refine lv_iconst (v := 0) hx hb eX10_keep_0.2.1 ic_0 ?_
  refine va_put (D := (dC, dI)) (ci := 10) (v := .int 0) (ty := .int) (C := RX10) (T := TX10) (N := 51) hx hb hts i_X10 tyX10 tyX10_ok nmX10 hown hK hP hD hS 0 rfl rfl 14 (Nat.le_of_ble_eq_true rfl) (hts _ q_638) (fun _ h9 => h9) rfl (tyX10_ok 14 (Nat.le_of_ble_eq_true rfl)) rfl rfl (Nat.le_of_ble_eq_true rfl) eX10_keep_0.2.2.1 (fun H locs hP hD hS => ?_)
  have hP : va_P (dC, dI) classes (wd_X10_keep cI cC cZ cB cJ a_m oJ uD dY iJ lJ jQ jR jW jK pJ bM aY jO gR gY mK jZ iY bG mJ jB mQ lY eJ bY bW aG jG bQ 0 jY m_length qG uW eY aJ aB bU dN aR aE bJ aW bT gJ dU bL bR bO mY pW rD wF vF tY) H := hP
  have hD : va_D A (wd_X10_keep cI cC cZ cB cJ a_m oJ uD dY iJ lJ jQ jR jW jK pJ bM aY jO gR gY mK jZ iY bG mJ jB mQ lY eJ bY bW aG jG bQ 0 jY m_length qG uW eY aJ aB bU dN aR aE bJ aW bT gJ dU bL bR bO mY pW rD wF vF tY) := hD
  refine lv_iload_n hx hb eX10_keep_0.2.2.2.1 rfl (lv_at hl 1 rfl) ?_
  refine lv_iconst (v := 0) hx hb eX10_keep_0.2.2.2.2.1 ic_0 ?_
  refine lv_iconst (v := 1) hx hb eX10_keep_0.2.2.2.2.2.1 ic_1 ?_
  have hm := mgk (wc := (wd_X10_in cI cC cZ cB cJ)) hP aE2 5 rfl rfl rfl
  refine g_calli hP hD hS hA (mixT aE2) (mixF aE2) hm.1 hm.2 (nd_F _) (dis_g _) (g_runS (As := [.int p0, .int 0, .int 1]) (rest := []) C0 hP hD hS (mixT aE2) hm.1 (nd_T _) (c_X10_in l dC dI cI cC cZ cB cJ H.size p0 0 1 _ hp) q_641 q_644 q_643 q_642 h_X10_in rfl rfl ⟨Nat.le_of_ble_eq_true rfl, Nat.le_of_ble_eq_true rfl⟩ rfl rfl hl.1 rfl (lv_room (Nat.le_of_ble_eq_true rfl)) eX10_keep_0.2.2.2.2.2.2.1 ⟨Nat.zero_le _, Nat.zero_le _⟩) (fun r_1 u H locs hp hP hD hS => ?_)
  have hPD := PDm (ws' := (wd_X10_keep cI cC cZ cB cJ a_m oJ uD dY iJ lJ jQ jR jW jK pJ bM aY jO gR gY mK jZ iY bG mJ jB mQ lY eJ bY bW aG jG bQ 0 jY m_length qG uW eY aJ aB bU dN aR aE bJ aW bT gJ dU bL bR bO mY pW rD wF vF tY)) hP hD 5 rfl rfl rfl
  have hP := hPD.1
  have hD := hPD.2
  refine lv_if_ne (tgt := 16) hx hb eX10_keep_0.2.2.2.2.2.2.2.1 (by decide) (fun hc => ?_) (fun hc => ?_)
  · have hp := hp.1 hc
    refine lv_aload_n hx hb eX10_keep_0.2.2.2.2.2.2.2.2.2.2.1 rfl (lv_at hl 0 rfl) ?_
    refine va_get (D := (dC, dI)) (ci := 10) (v := .ref eJ) (C := RX10) (T := TX10) (N := 51) hx hb hts i_X10 hown hK hP 0 rfl rfl 49 (Nat.le_of_ble_eq_true rfl) (hts _ q_965) (fun _ h9 => h9) rfl eX10_keep_0.2.2.2.2.2.2.2.2.2.2.2.1 ?_
    refine lv_iload_n hx hb eX10_keep_0.2.2.2.2.2.2.2.2.2.2.2.2.1 rfl (lv_at hl 1 rfl) ?_
    refine lv_iconst (v := 1) hx hb eX10_keep_0.2.2.2.2.2.2.2.2.2.2.2.2.2.1 ic_1 ?_
    have hin := hp.1
    have hp := hp.2
    refine va_zast hx hb hK hP hD hS 3 2 rfl rfl hin eX10_keep_0.2.2.2.2.2.2.2.2.2.2.2.2.2.2.1 (fun H locs hP hD hS => ?_)
    have hP : va_P (dC, dI) classes (wd_X10_keep cI cC cZ cB cJ a_m oJ uD dY iJ lJ jQ jR jW jK pJ bM aY jO gR gY mK jZ iY bG mJ jB mQ lY eJ bY bW aG jG bQ 0 jY m_length qG uW eY aJ aB bU dN aR aE bJ aW bT gJ dU bL bR bO mY pW rD wF (upd vF p0.toNatClampNeg (vp_nar .boolean 1)) tY) H := hP
    have hD : va_D A (wd_X10_keep cI cC cZ cB cJ a_m oJ uD dY iJ lJ jQ jR jW jK pJ bM aY jO gR gY mK jZ iY bG mJ jB mQ lY eJ bY bW aG jG bQ 0 jY m_length qG uW eY aJ aB bU dN aR aE bJ aW bT gJ dU bL bR bO mY pW rD wF (upd vF p0.toNatClampNeg (vp_nar .boolean 1)) tY) := hD
    refine lv_aload_n hx hb eX10_keep_0.2.2.2.2.2.2.2.2.2.2.2.2.2.2.2 rfl (lv_at hl 0 rfl) ?_
    refine va_get (D := (dC, dI)) (ci := 10) (v := .ref bY) (C := RX10) (T := TX10) (N := 51) hx hb hts i_X10 hown hK hP 0 rfl rfl 50 (Nat.le_of_ble_eq_true rfl) (hts _ q_966) (fun _ h9 => h9) rfl eX10_keep_24.1 ?_
    refine lv_iload_n hx hb eX10_keep_24.2.1 rfl (lv_at hl 1 rfl) ?_
    refine lv_aload_n hx hb eX10_keep_24.2.2.1 rfl (lv_at hl 0 rfl) ?_
    refine va_get (D := (dC, dI)) (ci := 10) (v := .int pW) (C := RX10) (T := TX10) (N := 51) hx hb hts i_X10 hown hK hP 0 rfl rfl 47 (Nat.le_of_ble_eq_true rfl) (hts _ q_685) (fun _ h9 => h9) rfl eX10_keep_24.2.2.2.1 ?_
    have hin := hp.1
    have hp := hp.2
    refine va_iast hx hb hK hP hD hS 4 0 rfl rfl hin eX10_keep_24.2.2.2.2.1 (fun H locs hP hD hS => ?_)
    have hP : va_P (dC, dI) classes (wd_X10_keep cI cC cZ cB cJ a_m oJ uD dY iJ lJ jQ jR jW jK pJ bM aY jO gR gY mK jZ iY bG mJ jB mQ lY eJ bY bW aG jG bQ 0 jY m_length qG uW eY aJ aB bU dN aR aE bJ aW bT gJ dU bL bR bO mY pW rD wF (upd vF p0.toNatClampNeg (vp_nar .boolean 1)) (upd tY p0.toNatClampNeg pW)) H := hP
    have hD : va_D A (wd_X10_keep cI cC cZ cB cJ a_m oJ uD dY iJ lJ jQ jR jW jK pJ bM aY jO gR gY mK jZ iY bG mJ jB mQ lY eJ bY bW aG jG bQ 0 jY m_length qG uW eY aJ aB bU dN aR aE bJ aW bT gJ dU bL bR bO mY pW rD wF (upd vF p0.toNatClampNeg (vp_nar .boolean 1)) (upd tY p0.toNatClampNeg pW)) := hD
    refine lv_aload_n hx hb eX10_keep_24.2.2.2.2.2.1 rfl (lv_at hl 0 rfl) ?_
    refine va_get (D := (dC, dI)) (ci := 10) (v := .ref oJ) (C := RX10) (T := TX10) (N := 51) hx hb hts i_X10 hown hK hP 0 rfl rfl 0 (Nat.le_of_ble_eq_true rfl) (hts _ q_692) (fun _ h9 => h9) rfl eX10_keep_24.2.2.2.2.2.2.1 ?_
    refine lv_aload_n hx hb eX10_keep_24.2.2.2.2.2.2.2.1 rfl (lv_at hl 0 rfl) ?_
    refine va_get (D := (dC, dI)) (ci := 10) (v := .ref lY) (C := RX10) (T := TX10) (N := 51) hx hb hts i_X10 hown hK hP 0 rfl rfl 48 (Nat.le_of_ble_eq_true rfl) (hts _ q_967) (fun _ h9 => h9) rfl eX10_keep_24.2.2.2.2.2.2.2.2.1 ?_
    refine lv_bipush (v := 21) hx hb eX10_keep_24.2.2.2.2.2.2.2.2.2.1 bp_21 ?_
    refine lv_iload_n hx hb eX10_keep_24.2.2.2.2.2.2.2.2.2.2.1 rfl (lv_at hl 1 rfl) ?_
    refine lv_imul hx hb eX10_keep_24.2.2.2.2.2.2.2.2.2.2.2.1 ?_
    refine lv_topi (fun v_2 ev_2 => ?_)
    have hp := hp v_2 ev_2
    have hm := mgk (wc := (wd_X10_lay_b4 cI cC cZ cB cJ oJ lY rD wF)) hP mk_45 5 rfl rfl rfl
    refine g_callv hP hD hS hA (mixT mk_45) (mixF mk_45) hm.1 hm.2 (nd_F _) (dis_g _) (g_runS (As := [.ref oJ, .ref lY, .int v_2]) (rest := []) C0 hP hD hS (mixT mk_45) hm.1 (nd_T _) (c_X10_lay_b4 l dC dI cI cC cZ cB cJ oJ lY H.size v_2 rD wF _ hp) q_768 q_770 q_769 q_642 h_X10_lay rfl rfl ⟨Nat.le_of_ble_eq_true rfl, Nat.le_of_ble_eq_true rfl⟩ rfl rfl hl.1 rfl (lv_room (Nat.le_of_ble_eq_true rfl)) eX10_keep_24.2.2.2.2.2.2.2.2.2.2.2.2.1 ⟨Nat.zero_le _, Nat.zero_le _⟩) (fun u H locs hp hP hD hS => ?_)
    obtain ⟨m_kept_3, rfl⟩ : ∃ z, z = u := ⟨_, rfl⟩
    have hPD := PDm (ws' := (wd_X10_keep cI cC cZ cB cJ a_m oJ uD dY iJ lJ jQ jR jW jK pJ bM aY jO gR gY mK jZ iY bG mJ jB mQ lY eJ bY bW aG jG bQ 0 jY m_length qG uW eY aJ aB bU dN aR aE bJ aW bT gJ dU bL bR bO mY pW rD m_kept_3 (upd vF p0.toNatClampNeg (vp_nar .boolean 1)) (upd tY p0.toNatClampNeg pW))) hP hD 5 rfl rfl rfl
    have hP := hPD.1
    have hD := hPD.2
    refine lv_iconst (v := 1) hx hb eX10_keep_24.2.2.2.2.2.2.2.2.2.2.2.2.2.1 ic_1 ?_
    exact W.zret (v := 1) hx hb hr rfl (fun t ht hW => ⟨⟨1, (0, m_kept_3, (upd vF p0.toNatClampNeg (vp_nar .boolean 1)), (upd tY p0.toNatClampNeg pW)), rfl, hp, by rw [ht]; exact hP, va_K.moved hW.alike hK, hD⟩, hS.F ht⟩) hS.2.2 eX10_keep_24.2.2.2.2.2.2.2.2.2.2.2.2.2.2
  · have hp := hp.2 hc
    refine lv_iconst (v := 0) hx hb eX10_keep_0.2.2.2.2.2.2.2.2.1 ic_0 ?_
    exact W.zret (v := 0) hx hb hr rfl (fun t ht hW => ⟨⟨0, (0, wF, vF, tY), rfl, hp, by rw [ht]; exact hP, va_K.moved hW.alike hK, hD⟩, hS.F ht⟩) hS.2.2 eX10_keep_0.2.2.2.2.2.2.2.2.2.1
noncomputable abbrev wd_X10_again (cI cC cZ cB cJ : ClassId) (a_m oJ uD dY iJ lJ jQ jR jW jK pJ bM aY jO gR gY mK jZ iY bG mJ jB mQ lY eJ bY : Nat) (bW aG jG bQ dG : Int32) (jY : Nat) (m_length qG uW eY aJ aB bU dN aR aE bJ aW bT gJ dU bL bR bO mY pW : Int32) (rD wF vF tY : Nat → Int32) : va_W := [(a_m, .inr (10, [.ref oJ, .int bW, .ref uD, .ref dY, .ref iJ, .ref lJ, .int aG, .ref jQ, .ref jR, .ref jW, .ref jK, .int jG, .ref pJ, .int bQ, .int dG, rdv jK jO jY, .int m_length, .int qG, .int uW, .int eY, .ref bM, .ref aY, .int aJ, .int aB, .ref jO, .int bU, .int dN, .int aR, .int aE, .int bJ, .int aW, .ref gR, .int bT, .ref gY, .ref mK, .int gJ, .ref jZ, .int dU, .ref iY, .ref bG, .int bL, .int bR, .int bO, .ref mJ, .ref jB, .ref mQ, .int mY, .int pW, .ref lY, .ref eJ, .ref bY])), (oJ, .inl (cI, 21, .inl rD)), (lY, .inl (cI, 42, .inl wF)), (eJ, .inl (cZ, 2, .inl vF)), (bY, .inl (cI, 2, .inl tY))]
noncomputable abbrev q_X10_again (dC : Nat → ClassId) (dI : Nat → Nat → Nat) (cI cC cZ cB cJ : ClassId) (A : Nat → Prop) (a_m oJ uD dY iJ lJ jQ jR jW jK pJ bM aY jO gR gY mK jZ iY bG mJ jB mQ lY eJ bY : Nat) (bW aG jG bQ : Int32) (jY : Nat) (m_length qG uW eY aJ aB bU dN aR aE bJ aW gJ dU bL bR bO mY pW : Int32) (wF vF tY : Nat → Int32) (post : Int32 → Int32 → Int32 → (Nat → Int32) → Prop) : Array Value → State → Outcome → State → Prop := va_Qi (fun (r : Int32) (u : Int32 × Int32 × (Nat → Int32)) => post r u.1 u.2.1 u.2.2) (fun u t => gB (dC, dI) (tyl cI cC cZ cB cJ) A (wd_X10_again cI cC cZ cB cJ a_m oJ uD dY iJ lJ jQ jR jW jK pJ bM aY jO gR gY mK jZ iY bG mJ jB mQ lY eJ bY bW aG jG bQ u.1 jY m_length qG uW eY aJ aB bU dN aR aE bJ aW u.2.1 gJ dU bL bR bO mY pW u.2.2 wF vF tY) t) A
noncomputable abbrev rm_X10_again : Room := { frames := 1, cells := 0, slots := 0, locals := 22 }
section S_X10_again
variable {p : Program} {l : Launch} {e : Env} {s : State} {m : MethodId} {args : Array Value} {below : List Frame} {meth : Method} {c : Code} {dC : Nat → ClassId} {dI : Nat → Nat → Nat} {cI cC cZ cB cJ : ClassId} {A : Nat → Prop} {a_m oJ uD dY iJ lJ jQ jR jW jK pJ bM aY jO gR gY mK jZ iY bG mJ jB mQ lY eJ bY : Nat} {bW aG jG bQ : Int32} {jY : Nat} {m_length qG uW eY aJ aB bU dN aR aE bJ aW gJ dU bL bR bO mY pW : Int32} {wF vF tY : Nat → Int32} {post : Int32 → Int32 → Int32 → (Nat → Int32) → Prop}
noncomputable def ws_X10_again_40 (post : Int32 → Int32 → Int32 → (Nat → Int32) → Prop) (next : Int32 → Int32 → Int32 → Int32 → (Nat → Int32) → Prop) (pW : Int32) (wF vF tY : Nat → Int32) (x1 x2 dG bT : Int32) (rD : Nat → Int32) : Prop := (21 ≤ x2 → post 1 dG 0 rD) ∧ (¬ 21 ≤ x2 → ∀ v_3 : Int32, v_3 = 21 * x1 → ∀ v_4 : Int32, v_4 = v_3 + x2 → vp_in v_4 42 ∧ (∀ v_5 : Int32, v_5 = wF v_4.toNatClampNeg → vp_in x2 21 ∧ (∀ v_6 : Int32, v_6 = x2 + 1 → next x1 v_6 dG bT (upd rD x2.toNatClampNeg v_5))))
noncomputable def wb_X10_again_40 (post : Int32 → Int32 → Int32 → (Nat → Int32) → Prop) (pW : Int32) (wF vF tY : Nat → Int32) : Nat → Int32 → Int32 → Int32 → Int32 → (Nat → Int32) → Prop := fun n => Nat.rec (motive := fun _ => Int32 → Int32 → Int32 → Int32 → (Nat → Int32) → Prop) (fun _ _ _ _ _ => False) (fun _ ih => ws_X10_again_40 post ih pW wF vF tY) n
set_option maxHeartbeats 4000000 in
set_option maxRecDepth 100000 in
theorem ks_X10_again_40 (C0 : gc cX10_again (some .boolean) 3 RX10 (dC, dI) (tyl cI cC cZ cB cJ) A p s m args meth c) {next : Int32 → Int32 → Int32 → Int32 → (Nat → Int32) → Prop} (hKn : ∀ (x1 : Int32) (x2 : Int32) (dG : Int32) (bT : Int32) (rD : Nat → Int32) (H : Heap) (locs : List Loc) (ls : Array Slot), next x1 x2 dG bT rD → va_P (dC, dI) classes (wd_X10_again cI cC cZ cB cJ a_m oJ uD dY iJ lJ jQ jR jW jK pJ bM aY jO gR gY mK jZ iY bG mJ jB mQ lY eJ bY bW aG jG bQ dG jY m_length qG uW eY aJ aB bU dN aR aE bJ aW bT gJ dU bL bR bO mY pW rD wF vF tY) H → va_D A (wd_X10_again cI cC cZ cB cJ a_m oJ uD dY iJ lJ jQ jR jW jK pJ bM aY jO gR gY mK jZ iY bG mJ jB mQ lY eJ bY bW aG jG bQ dG jY m_length qG uW eY aJ aB bU dN aR aE bJ aW bT gJ dU bL bR bO mY pW rD wF vF tY) → va_S A s.heap H locs → lv_has ls 3 [(0, .ref a_m), (1, .int x1), (2, .int x2)] → W p l e rm_X10_again s m args below meth c H locs 0 0 (MQ below (q_X10_again dC dI cI cC cZ cB cJ A a_m oJ uD dY iJ lJ jQ jR jW jK pJ bM aY jO gR gY mK jZ iY bG mJ jB mQ lY eJ bY bW aG jG bQ jY m_length qG uW eY aJ aB bU dN aR aE bJ aW gJ dU bL bR bO mY pW wF vF tY post) args s 0 0 A) (F0 m 40 ls [])) : ∀ (x1 x2 dG bT : Int32) (rD : Nat → Int32) (H : Heap) (locs : List Loc) (ls : Array Slot), (ws_X10_again_40 post next pW wF vF tY) x1 x2 dG bT rD → va_P (dC, dI) classes (wd_X10_again cI cC cZ cB cJ a_m oJ uD dY iJ lJ jQ jR jW jK pJ bM aY jO gR gY mK jZ iY bG mJ jB mQ lY eJ bY bW aG jG bQ dG jY m_length qG uW eY aJ aB bU dN aR aE bJ aW bT gJ dU bL bR bO mY pW rD wF vF tY) H → va_D A (wd_X10_again cI cC cZ cB cJ a_m oJ uD dY iJ lJ jQ jR jW jK pJ bM aY jO gR gY mK jZ iY bG mJ jB mQ lY eJ bY bW aG jG bQ dG jY m_length qG uW eY aJ aB bU dN aR aE bJ aW bT gJ dU bL bR bO mY pW rD wF vF tY) → va_S A s.heap H locs → lv_has ls 3 [(0, .ref a_m), (1, .int x1), (2, .int x2)] → W p l e rm_X10_again s m args below meth c H locs 0 0 (MQ below (q_X10_again dC dI cI cC cZ cB cJ A a_m oJ uD dY iJ lJ jQ jR jW jK pJ bM aY jO gR gY mK jZ iY bG mJ jB mQ lY eJ bY bW aG jG bQ jY m_length qG uW eY aJ aB bU dN aR aE bJ aW gJ dU bL bR bO mY pW wF vF tY post) args s 0 0 A) (F0 m 40 ls []) := by
  obtain ⟨hx, hb, hr, hml, hown, hts, hlocks, hA, hK, hN, tL, tM, hZL, hTL, hZM, hTM, hZX⟩ := id C0
  intro x1 x2 dG bT rD H locs ls hp hP hD hS hl
  unfold ws_X10_again_40 at hp
  refine lv_iload_n hx hb eX10_again_28.2.2.2.2.2.2.2.2.1 rfl (lv_at hl 2 rfl) ?_
  refine lv_bipush (v := 21) hx hb eX10_again_28.2.2.2.2.2.2.2.2.2.1 bp_21 ?_
  refine lv_icmp_ge (tgt := 69) hx hb eX10_again_28.2.2.2.2.2.2.2.2.2.2.1 (by decide) (fun hc => ?_) (fun hc => ?_)
  · have hp := hp.1 hc
    refine lv_aload_n hx hb eX10_again_55.2.2.2.2.2.2.2.2.2.1 rfl (lv_at hl 0 rfl) ?_
    refine lv_iconst (v := 0) hx hb eX10_again_55.2.2.2.2.2.2.2.2.2.2.1 ic_0 ?_
    refine va_put (D := (dC, dI)) (ci := 10) (v := .int 0) (ty := .int) (C := RX10) (T := TX10) (N := 51) hx hb hts i_X10 tyX10 tyX10_ok nmX10 hown hK hP hD hS 0 rfl rfl 32 (Nat.le_of_ble_eq_true rfl) (hts _ q_684) (fun _ h9 => h9) rfl (tyX10_ok 32 (Nat.le_of_ble_eq_true rfl)) rfl rfl (Nat.le_of_ble_eq_true rfl) eX10_again_55.2.2.2.2.2.2.2.2.2.2.2.1 (fun H locs hP hD hS => ?_)
    have hP : va_P (dC, dI) classes (wd_X10_again cI cC cZ cB cJ a_m oJ uD dY iJ lJ jQ jR jW jK pJ bM aY jO gR gY mK jZ iY bG mJ jB mQ lY eJ bY bW aG jG bQ dG jY m_length qG uW eY aJ aB bU dN aR aE bJ aW 0 gJ dU bL bR bO mY pW rD wF vF tY) H := hP
    have hD : va_D A (wd_X10_again cI cC cZ cB cJ a_m oJ uD dY iJ lJ jQ jR jW jK pJ bM aY jO gR gY mK jZ iY bG mJ jB mQ lY eJ bY bW aG jG bQ dG jY m_length qG uW eY aJ aB bU dN aR aE bJ aW 0 gJ dU bL bR bO mY pW rD wF vF tY) := hD
    refine lv_iconst (v := 1) hx hb eX10_again_55.2.2.2.2.2.2.2.2.2.2.2.2.1 ic_1 ?_
    exact W.zret (v := 1) hx hb hr rfl (fun t ht hW => ⟨⟨1, (dG, 0, rD), rfl, hp, by rw [ht]; exact hP, va_K.moved hW.alike hK, hD⟩, hS.F ht⟩) hS.2.2 eX10_again_55.2.2.2.2.2.2.2.2.2.2.2.2.2
  · have hp := hp.2 hc
    refine lv_aload_n hx hb eX10_again_28.2.2.2.2.2.2.2.2.2.2.2.1 rfl (lv_at hl 0 rfl) ?_
    refine va_get (D := (dC, dI)) (ci := 10) (v := .ref oJ) (C := RX10) (T := TX10) (N := 51) hx hb hts i_X10 hown hK hP 0 rfl rfl 0 (Nat.le_of_ble_eq_true rfl) (hts _ q_692) (fun _ h9 => h9) rfl eX10_again_28.2.2.2.2.2.2.2.2.2.2.2.2.1 ?_
    refine lv_iload_n hx hb eX10_again_28.2.2.2.2.2.2.2.2.2.2.2.2.2.1 rfl (lv_at hl 2 rfl) ?_
    refine lv_aload_n hx hb eX10_again_28.2.2.2.2.2.2.2.2.2.2.2.2.2.2.1 rfl (lv_at hl 0 rfl) ?_
    refine va_get (D := (dC, dI)) (ci := 10) (v := .ref lY) (C := RX10) (T := TX10) (N := 51) hx hb hts i_X10 hown hK hP 0 rfl rfl 48 (Nat.le_of_ble_eq_true rfl) (hts _ q_967) (fun _ h9 => h9) rfl eX10_again_28.2.2.2.2.2.2.2.2.2.2.2.2.2.2.2 ?_
    refine lv_bipush (v := 21) hx hb eX10_again_55.1 bp_21 ?_
    refine lv_iload_n hx hb eX10_again_55.2.1 rfl (lv_at hl 1 rfl) ?_
    refine lv_imul hx hb eX10_again_55.2.2.1 ?_
    refine lv_topi (fun v_3 ev_3 => ?_)
    have hp := hp v_3 ev_3
    refine lv_iload_n hx hb eX10_again_55.2.2.2.1 rfl (lv_at hl 2 rfl) ?_
    refine lv_iadd hx hb eX10_again_55.2.2.2.2.1 ?_
    refine lv_topi (fun v_4 ev_4 => ?_)
    have hp := hp v_4 ev_4
    have hin := hp.1
    have hp := hp.2
    refine va_iald hx hb hK hP 2 0 rfl rfl hin eX10_again_55.2.2.2.2.2.1 ?_
    refine lv_topi (fun v_5 ev_5 => ?_)
    have hp := hp v_5 ev_5
    have hin := hp.1
    have hp := hp.2
    refine va_iast hx hb hK hP hD hS 1 0 rfl rfl hin eX10_again_55.2.2.2.2.2.2.1 (fun H locs hP hD hS => ?_)
    have hP : va_P (dC, dI) classes (wd_X10_again cI cC cZ cB cJ a_m oJ uD dY iJ lJ jQ jR jW jK pJ bM aY jO gR gY mK jZ iY bG mJ jB mQ lY eJ bY bW aG jG bQ dG jY m_length qG uW eY aJ aB bU dN aR aE bJ aW bT gJ dU bL bR bO mY pW (upd rD x2.toNatClampNeg v_5) wF vF tY) H := hP
    have hD : va_D A (wd_X10_again cI cC cZ cB cJ a_m oJ uD dY iJ lJ jQ jR jW jK pJ bM aY jO gR gY mK jZ iY bG mJ jB mQ lY eJ bY bW aG jG bQ dG jY m_length qG uW eY aJ aB bU dN aR aE bJ aW bT gJ dU bL bR bO mY pW (upd rD x2.toNatClampNeg v_5) wF vF tY) := hD
    obtain ⟨v_6, ev_6⟩ : ∃ y : Int32, y = x2 + 1 := ⟨_, rfl⟩
    refine lv_iinc (v := v_6) (lv' := [(2, .int v_6), (0, .ref a_m), (1, .int x1)]) hx hb eX10_again_55.2.2.2.2.2.2.2.1 hl (k := 2) rfl (by rw [ev_6]; rfl) (by decide) rfl (fun ls hl => ?_)
    have hp := hp v_6 ev_6
    refine lv_goto (tgt := 40) hx hb eX10_again_55.2.2.2.2.2.2.2.2.1 (by decide) ?_
    exact hKn x1 v_6 dG bT (upd rD x2.toNatClampNeg v_5) H locs ls hp hP hD hS (lv_sub hl [1, 2, 0] rfl)
set_option maxHeartbeats 4000000 in
set_option maxRecDepth 100000 in
theorem kb_X10_again_40 (C0 : gc cX10_again (some .boolean) 3 RX10 (dC, dI) (tyl cI cC cZ cB cJ) A p s m args meth c) : ∀ (n : Nat), ∀ (x1 x2 dG bT : Int32) (rD : Nat → Int32) (H : Heap) (locs : List Loc) (ls : Array Slot), (wb_X10_again_40 post pW wF vF tY n) x1 x2 dG bT rD → va_P (dC, dI) classes (wd_X10_again cI cC cZ cB cJ a_m oJ uD dY iJ lJ jQ jR jW jK pJ bM aY jO gR gY mK jZ iY bG mJ jB mQ lY eJ bY bW aG jG bQ dG jY m_length qG uW eY aJ aB bU dN aR aE bJ aW bT gJ dU bL bR bO mY pW rD wF vF tY) H → va_D A (wd_X10_again cI cC cZ cB cJ a_m oJ uD dY iJ lJ jQ jR jW jK pJ bM aY jO gR gY mK jZ iY bG mJ jB mQ lY eJ bY bW aG jG bQ dG jY m_length qG uW eY aJ aB bU dN aR aE bJ aW bT gJ dU bL bR bO mY pW rD wF vF tY) → va_S A s.heap H locs → lv_has ls 3 [(0, .ref a_m), (1, .int x1), (2, .int x2)] → W p l e rm_X10_again s m args below meth c H locs 0 0 (MQ below (q_X10_again dC dI cI cC cZ cB cJ A a_m oJ uD dY iJ lJ jQ jR jW jK pJ bM aY jO gR gY mK jZ iY bG mJ jB mQ lY eJ bY bW aG jG bQ jY m_length qG uW eY aJ aB bU dN aR aE bJ aW gJ dU bL bR bO mY pW wF vF tY post) args s 0 0 A) (F0 m 40 ls []) := by
  intro n
  induction n with
  | zero =>
    intro x1 x2 dG bT rD H locs ls hp
    exact False.elim hp
  | succ n ih =>
    intro x1 x2 dG bT rD H locs ls hp
    exact ks_X10_again_40 C0 ih x1 x2 dG bT rD H locs ls hp
end S_X10_again
noncomputable def wp_X10_again (post : Int32 → Int32 → Int32 → (Nat → Int32) → Prop) (p0 dG bT pW : Int32) (rD wF vF tY : Nat → Int32) : Prop := wp_X10_in (fun r_1 => (r_1 = 0 → post 0 0 bT rD) ∧ (¬ r_1 = 0 → vp_in p0 2 ∧ (((vF p0.toNatClampNeg) = 0 → post 0 0 bT rD) ∧ (¬ (vF p0.toNatClampNeg) = 0 → vp_in p0 2 ∧ (∀ v_2 : Int32, v_2 = tY p0.toNatClampNeg → (v_2 = pW → ∃ n : Nat, wb_X10_again_40 post pW wF vF tY n p0 0 0 bT rD) ∧ (¬ v_2 = pW → post 0 0 bT rD)))))) p0 0 1
set_option maxHeartbeats 4000000 in
set_option maxRecDepth 100000 in
theorem c_X10_again (l : Launch) (dC : Nat → ClassId) (dI : Nat → Nat → Nat) (cI cC cZ cB cJ : ClassId) (a_m oJ uD dY iJ lJ jQ jR jW jK pJ bM aY jO gR gY mK jZ iY bG mJ jB mQ lY eJ bY sz : Nat) (p0 bW aG jG bQ dG : Int32) (jY : Nat) (m_length qG uW eY aJ aB bU dN aR aE bJ aW bT gJ dU bL bR bO mY pW : Int32) (rD wF vF tY : Nat → Int32) (post : Int32 → Int32 → Int32 → (Nat → Int32) → Prop) (hw : wp_X10_again post p0 dG bT pW rD wF vF tY) : Met l yX10_again (gw yX10_again cX10_again 3 (some .boolean)) rm_X10_again (va_Pc [.ref a_m, .int p0] (gPre (dC, dI) (tyl cI cC cZ cB cJ) (wd_X10_again cI cC cZ cB cJ a_m oJ uD dY iJ lJ jQ jR jW jK pJ bM aY jO gR gY mK jZ iY bG mJ jB mQ lY eJ bY bW aG jG bQ dG jY m_length qG uW eY aJ aB bU dN aR aE bJ aW bT gJ dU bL bR bO mY pW rD wF vF tY) sz)) (q_X10_again dC dI cI cC cZ cB cJ (va_A (wd_X10_again cI cC cZ cB cJ a_m oJ uD dY iJ lJ jQ jR jW jK pJ bM aY jO gR gY mK jZ iY bG mJ jB mQ lY eJ bY bW aG jG bQ dG jY m_length qG uW eY aJ aB bU dN aR aE bJ aW bT gJ dU bL bR bO mY pW rD wF vF tY) sz) a_m oJ uD dY iJ lJ jQ jR jW jK pJ bM aY jO gR gY mK jZ iY bG mJ jB mQ lY eJ bY bW aG jG bQ jY m_length qG uW eY aJ aB bU dN aR aE bJ aW gJ dU bL bR bO mY pW wF vF tY post) 0 0 (va_A (wd_X10_again cI cC cZ cB cJ a_m oJ uD dY iJ lJ jQ jR jW jK pJ bM aY jO gR gY mK jZ iY bG mJ jB mQ lY eJ bY bW aG jG bQ dG jY m_length qG uW eY aJ aB bU dN aR aE bJ aW bT gJ dU bL bR bO mY pW rD wF vF tY) sz) := by
  refine g_enter (own := RX10) (dC, dI) (tyl cI cC cZ cB cJ) (wd_X10_again cI cC cZ cB cJ a_m oJ uD dY iJ lJ jQ jR jW jK pJ bM aY jO gR gY mK jZ iY bG mJ jB mQ lY eJ bY bW aG jG bQ dG jY m_length qG uW eY aJ aB bU dN aR aE bJ aW bT gJ dU bL bR bO mY pW rD wF vF tY) sz [.ref a_m, .int p0] (fun A => q_X10_again dC dI cI cC cZ cB cJ A a_m oJ uD dY iJ lJ jQ jR jW jK pJ bM aY jO gR gY mK jZ iY bG mJ jB mQ lY eJ bY bW aG jG bQ jY m_length qG uW eY aJ aB bU dN aR aE bJ aW gJ dU bL bR bO mY pW wF vF tY post) pn_RX10 rfl (Nat.le_of_ble_eq_true rfl) ?_
  intro p e s m args below meth c A H locs ls C0 hP hD hS hl
  have hl : lv_has ls 3 [(0, .ref a_m), (1, .int p0)] := hl
  obtain ⟨hx, hb, hr, hml, hown, hts, hlocks, hA, hK, hN, tL, tM, hZL, hTL, hZM, hTM, hZX⟩ := id C0
  have hp := hw
  unfold wp_X10_again at hp
  refine lv_aload_n hx hb eX10_again_0.1 rfl (lv_at hl 0 rfl) ?_
  refine lv_iconst (v := 0) hx hb eX10_again_0.2.1 ic_0 ?_
  refine va_put (D := (dC, dI)) (ci := 10) (v := .int 0) (ty := .int) (C := RX10) (T := TX10) (N := 51) hx hb hts i_X10 tyX10 tyX10_ok nmX10 hown hK hP hD hS 0 rfl rfl 14 (Nat.le_of_ble_eq_true rfl) (hts _ q_638) (fun _ h9 => h9) rfl (tyX10_ok 14 (Nat.le_of_ble_eq_true rfl)) rfl rfl (Nat.le_of_ble_eq_true rfl) eX10_again_0.2.2.1 (fun H locs hP hD hS => ?_)
  have hP : va_P (dC, dI) classes (wd_X10_again cI cC cZ cB cJ a_m oJ uD dY iJ lJ jQ jR jW jK pJ bM aY jO gR gY mK jZ iY bG mJ jB mQ lY eJ bY bW aG jG bQ 0 jY m_length qG uW eY aJ aB bU dN aR aE bJ aW bT gJ dU bL bR bO mY pW rD wF vF tY) H := hP
  have hD : va_D A (wd_X10_again cI cC cZ cB cJ a_m oJ uD dY iJ lJ jQ jR jW jK pJ bM aY jO gR gY mK jZ iY bG mJ jB mQ lY eJ bY bW aG jG bQ 0 jY m_length qG uW eY aJ aB bU dN aR aE bJ aW bT gJ dU bL bR bO mY pW rD wF vF tY) := hD
  refine lv_iload_n hx hb eX10_again_0.2.2.2.1 rfl (lv_at hl 1 rfl) ?_
  refine lv_iconst (v := 0) hx hb eX10_again_0.2.2.2.2.1 ic_0 ?_
  refine lv_iconst (v := 1) hx hb eX10_again_0.2.2.2.2.2.1 ic_1 ?_
  have hm := mgk (wc := (wd_X10_in cI cC cZ cB cJ)) hP aE2 5 rfl rfl rfl
  refine g_calli hP hD hS hA (mixT aE2) (mixF aE2) hm.1 hm.2 (nd_F _) (dis_g _) (g_runS (As := [.int p0, .int 0, .int 1]) (rest := []) C0 hP hD hS (mixT aE2) hm.1 (nd_T _) (c_X10_in l dC dI cI cC cZ cB cJ H.size p0 0 1 _ hp) q_641 q_644 q_643 q_642 h_X10_in rfl rfl ⟨Nat.le_of_ble_eq_true rfl, Nat.le_of_ble_eq_true rfl⟩ rfl rfl hl.1 rfl (lv_room (Nat.le_of_ble_eq_true rfl)) eX10_again_0.2.2.2.2.2.2.1 ⟨Nat.zero_le _, Nat.zero_le _⟩) (fun r_1 u H locs hp hP hD hS => ?_)
  have hPD := PDm (ws' := (wd_X10_again cI cC cZ cB cJ a_m oJ uD dY iJ lJ jQ jR jW jK pJ bM aY jO gR gY mK jZ iY bG mJ jB mQ lY eJ bY bW aG jG bQ 0 jY m_length qG uW eY aJ aB bU dN aR aE bJ aW bT gJ dU bL bR bO mY pW rD wF vF tY)) hP hD 5 rfl rfl rfl
  have hP := hPD.1
  have hD := hPD.2
  refine lv_if_eq (tgt := 36) hx hb eX10_again_0.2.2.2.2.2.2.2.1 (by decide) (fun hc => ?_) (fun hc => ?_)
  · have hp := hp.1 hc
    refine lv_iconst (v := 0) hx hb eX10_again_28.2.2.2.2.1 ic_0 ?_
    exact W.zret (v := 0) hx hb hr rfl (fun t ht hW => ⟨⟨0, (0, bT, rD), rfl, hp, by rw [ht]; exact hP, va_K.moved hW.alike hK, hD⟩, hS.F ht⟩) hS.2.2 eX10_again_28.2.2.2.2.2.1
  · have hp := hp.2 hc
    refine lv_aload_n hx hb eX10_again_0.2.2.2.2.2.2.2.2.1 rfl (lv_at hl 0 rfl) ?_
    refine va_get (D := (dC, dI)) (ci := 10) (v := .ref eJ) (C := RX10) (T := TX10) (N := 51) hx hb hts i_X10 hown hK hP 0 rfl rfl 49 (Nat.le_of_ble_eq_true rfl) (hts _ q_965) (fun _ h9 => h9) rfl eX10_again_0.2.2.2.2.2.2.2.2.2.1 ?_
    refine lv_iload_n hx hb eX10_again_0.2.2.2.2.2.2.2.2.2.2.1 rfl (lv_at hl 1 rfl) ?_
    have hin := hp.1
    have hp := hp.2
    refine va_zald hx hb hK hP 3 2 rfl rfl hin eX10_again_0.2.2.2.2.2.2.2.2.2.2.2.1 ?_
    refine lv_if_eq (tgt := 36) hx hb eX10_again_0.2.2.2.2.2.2.2.2.2.2.2.2.1 (by decide) (fun hc => ?_) (fun hc => ?_)
    · have hp := hp.1 hc
      refine lv_iconst (v := 0) hx hb eX10_again_28.2.2.2.2.1 ic_0 ?_
      exact W.zret (v := 0) hx hb hr rfl (fun t ht hW => ⟨⟨0, (0, bT, rD), rfl, hp, by rw [ht]; exact hP, va_K.moved hW.alike hK, hD⟩, hS.F ht⟩) hS.2.2 eX10_again_28.2.2.2.2.2.1
    · have hp := hp.2 hc
      refine lv_aload_n hx hb eX10_again_0.2.2.2.2.2.2.2.2.2.2.2.2.2.1 rfl (lv_at hl 0 rfl) ?_
      refine va_get (D := (dC, dI)) (ci := 10) (v := .ref bY) (C := RX10) (T := TX10) (N := 51) hx hb hts i_X10 hown hK hP 0 rfl rfl 50 (Nat.le_of_ble_eq_true rfl) (hts _ q_966) (fun _ h9 => h9) rfl eX10_again_0.2.2.2.2.2.2.2.2.2.2.2.2.2.2.1 ?_
      refine lv_iload_n hx hb eX10_again_0.2.2.2.2.2.2.2.2.2.2.2.2.2.2.2 rfl (lv_at hl 1 rfl) ?_
      have hin := hp.1
      have hp := hp.2
      refine va_iald hx hb hK hP 4 0 rfl rfl hin eX10_again_28.1 ?_
      refine lv_topi (fun v_2 ev_2 => ?_)
      have hp := hp v_2 ev_2
      refine lv_aload_n hx hb eX10_again_28.2.1 rfl (lv_at hl 0 rfl) ?_
      refine va_get (D := (dC, dI)) (ci := 10) (v := .int pW) (C := RX10) (T := TX10) (N := 51) hx hb hts i_X10 hown hK hP 0 rfl rfl 47 (Nat.le_of_ble_eq_true rfl) (hts _ q_685) (fun _ h9 => h9) rfl eX10_again_28.2.2.1 ?_
      refine lv_icmp_eq (tgt := 38) hx hb eX10_again_28.2.2.2.1 (by decide) (fun hc => ?_) (fun hc => ?_)
      · have hp := hp.1 hc
        refine lv_iconst (v := 0) hx hb eX10_again_28.2.2.2.2.2.2.1 ic_0 ?_
        refine lv_istore_n (lv' := [(2, .int 0), (0, .ref a_m), (1, .int p0)]) hx hb eX10_again_28.2.2.2.2.2.2.2.1 rfl hl (by decide) rfl (fun ls hl => ?_)
        obtain ⟨n9, hp⟩ := hp
        exact kb_X10_again_40 C0 n9 p0 0 0 bT rD H locs ls hp hP hD hS (lv_sub hl [1, 2, 0] rfl)
      · have hp := hp.2 hc
        refine lv_iconst (v := 0) hx hb eX10_again_28.2.2.2.2.1 ic_0 ?_
        exact W.zret (v := 0) hx hb hr rfl (fun t ht hW => ⟨⟨0, (0, bT, rD), rfl, hp, by rw [ht]; exact hP, va_K.moved hW.alike hK, hD⟩, hS.F ht⟩) hS.2.2 eX10_again_28.2.2.2.2.2.1
noncomputable abbrev wd_X10_count (cI cC cZ cB cJ : ClassId) (a_m oJ uD dY iJ lJ jQ jR jW jK pJ bM aY jO gR gY mK jZ iY bG mJ jB mQ lY eJ bY : Nat) (bW aG jG bQ dG : Int32) (jY : Nat) (m_length qG uW eY aJ aB bU dN aR aE bJ aW bT gJ dU bL bR bO mY pW : Int32) (rD pY : Nat → Int32) : va_W := [(a_m, .inr (10, [.ref oJ, .int bW, .ref uD, .ref dY, .ref iJ, .ref lJ, .int aG, .ref jQ, .ref jR, .ref jW, .ref jK, .int jG, .ref pJ, .int bQ, .int dG, rdv jK jO jY, .int m_length, .int qG, .int uW, .int eY, .ref bM, .ref aY, .int aJ, .int aB, .ref jO, .int bU, .int dN, .int aR, .int aE, .int bJ, .int aW, .ref gR, .int bT, .ref gY, .ref mK, .int gJ, .ref jZ, .int dU, .ref iY, .ref bG, .int bL, .int bR, .int bO, .ref mJ, .ref jB, .ref mQ, .int mY, .int pW, .ref lY, .ref eJ, .ref bY])), (oJ, .inl (cI, 21, .inl rD)), (iJ, .inl (cI, 16, .inl pY))]
noncomputable abbrev q_X10_count (dC : Nat → ClassId) (dI : Nat → Nat → Nat) (cI cC cZ cB cJ : ClassId) (A : Nat → Prop) (a_m oJ uD dY iJ lJ jQ jR jW jK pJ bM aY jO gR gY mK jZ iY bG mJ jB mQ lY eJ bY : Nat) (bW aG jG bQ : Int32) (jY : Nat) (m_length qG uW eY aJ aB bU dN aR aE bJ aW bT gJ dU bL bR bO mY pW : Int32) (rD pY : Nat → Int32) (post : Int32 → Int32 → Prop) : Array Value → State → Outcome → State → Prop := va_Qi (fun (r u : Int32) => post r u) (fun u t => gB (dC, dI) (tyl cI cC cZ cB cJ) A (wd_X10_count cI cC cZ cB cJ a_m oJ uD dY iJ lJ jQ jR jW jK pJ bM aY jO gR gY mK jZ iY bG mJ jB mQ lY eJ bY bW aG jG bQ u jY m_length qG uW eY aJ aB bU dN aR aE bJ aW bT gJ dU bL bR bO mY pW rD pY) t) A
noncomputable abbrev rm_X10_count : Room := { frames := 3, cells := 0, slots := 0, locals := 67 }
section S_X10_count
variable {p : Program} {l : Launch} {e : Env} {s : State} {m : MethodId} {args : Array Value} {below : List Frame} {meth : Method} {c : Code} {dC : Nat → ClassId} {dI : Nat → Nat → Nat} {cI cC cZ cB cJ : ClassId} {A : Nat → Prop} {a_m oJ uD dY iJ lJ jQ jR jW jK pJ bM aY jO gR gY mK jZ iY bG mJ jB mQ lY eJ bY : Nat} {bW aG jG bQ : Int32} {jY : Nat} {m_length qG uW eY aJ aB bU dN aR aE bJ aW bT gJ dU bL bR bO mY pW : Int32} {rD pY : Nat → Int32} {post : Int32 → Int32 → Prop}
noncomputable def ws_X10_count_110 (post : Int32 → Int32 → Prop) (bW aG jG bQ bT : Int32) (rD pY : Nat → Int32) (x1 dG : Int32) : Prop := ∀ v_1 : Int32, v_1 = x1 - 5 → wp_X10_which (fun r_2 => post r_2 dG) v_1 bW rD
set_option maxHeartbeats 4000000 in
set_option maxRecDepth 100000 in
theorem ks_X10_count_110 (C0 : gc cX10_count (some .int) 2 RX10 (dC, dI) (tyl cI cC cZ cB cJ) A p s m args meth c) : ∀ (x1 dG : Int32) (H : Heap) (locs : List Loc) (ls : Array Slot), (ws_X10_count_110 post bW aG jG bQ bT rD pY) x1 dG → va_P (dC, dI) classes (wd_X10_count cI cC cZ cB cJ a_m oJ uD dY iJ lJ jQ jR jW jK pJ bM aY jO gR gY mK jZ iY bG mJ jB mQ lY eJ bY bW aG jG bQ dG jY m_length qG uW eY aJ aB bU dN aR aE bJ aW bT gJ dU bL bR bO mY pW rD pY) H → va_D A (wd_X10_count cI cC cZ cB cJ a_m oJ uD dY iJ lJ jQ jR jW jK pJ bM aY jO gR gY mK jZ iY bG mJ jB mQ lY eJ bY bW aG jG bQ dG jY m_length qG uW eY aJ aB bU dN aR aE bJ aW bT gJ dU bL bR bO mY pW rD pY) → va_S A s.heap H locs → lv_has ls 2 [(0, .ref a_m), (1, .int x1)] → W p l e rm_X10_count s m args below meth c H locs 0 0 (MQ below (q_X10_count dC dI cI cC cZ cB cJ A a_m oJ uD dY iJ lJ jQ jR jW jK pJ bM aY jO gR gY mK jZ iY bG mJ jB mQ lY eJ bY bW aG jG bQ jY m_length qG uW eY aJ aB bU dN aR aE bJ aW bT gJ dU bL bR bO mY pW rD pY post) args s 0 0 A) (F0 m 110 ls []) := by
  obtain ⟨hx, hb, hr, hml, hown, hts, hlocks, hA, hK, hN, tL, tM, hZL, hTL, hZM, hTM, hZX⟩ := id C0
  intro x1 dG H locs ls hp hP hD hS hl
  unfold ws_X10_count_110 at hp
  refine lv_aload_n hx hb eX10_count_94.2.2.2.2.2.2.2.2.2.2.1 rfl (lv_at hl 0 rfl) ?_
  refine lv_aload_n hx hb eX10_count_94.2.2.2.2.2.2.2.2.2.2.2.1 rfl (lv_at hl 0 rfl) ?_
  refine va_get (D := (dC, dI)) (ci := 10) (v := .ref oJ) (C := RX10) (T := TX10) (N := 51) hx hb hts i_X10 hown hK hP 0 rfl rfl 0 (Nat.le_of_ble_eq_true rfl) (hts _ q_692) (fun _ h9 => h9) rfl eX10_count_94.2.2.2.2.2.2.2.2.2.2.2.2.1 ?_
  refine lv_iload_n hx hb eX10_count_94.2.2.2.2.2.2.2.2.2.2.2.2.2.1 rfl (lv_at hl 1 rfl) ?_
  refine lv_iconst (v := 5) hx hb eX10_count_94.2.2.2.2.2.2.2.2.2.2.2.2.2.2.1 ic_5 ?_
  refine lv_isub hx hb eX10_count_94.2.2.2.2.2.2.2.2.2.2.2.2.2.2.2 ?_
  refine lv_topi (fun v_1 ev_1 => ?_)
  have hp := hp v_1 ev_1
  have hm := mgk (wc := (wd_X10_which cI cC cZ cB cJ a_m oJ uD dY iJ lJ jQ jR jW jK pJ bM aY jO gR gY mK jZ iY bG mJ jB mQ lY eJ bY bW aG jG bQ dG jY m_length qG uW eY aJ aB bU dN aR aE bJ aW bT gJ dU bL bR bO mY pW rD)) hP aCj 3 rfl rfl rfl
  refine g_calli hP hD hS hA (mixT aCj) (mixF aCj) hm.1 hm.2 (nd_F _) (dis_g _) (g_runV (As := [.ref oJ, .int v_1]) (rest := []) C0 hP hD hS (mixT aCj) hm.1 (nd_T _) 0 10 rfl rfl (c_X10_which l dC dI cI cC cZ cB cJ a_m oJ uD dY iJ lJ jQ jR jW jK pJ bM aY jO gR gY mK jZ iY bG mJ jB mQ lY eJ bY H.size v_1 bW aG jG bQ dG jY m_length qG uW eY aJ aB bU dN aR aE bJ aW bT gJ dU bL bR bO mY pW rD _ hp) q_749 q_752 q_750 q_751 q_642 h_X10_which rfl rfl ⟨Nat.le_of_ble_eq_true rfl, Nat.le_of_ble_eq_true rfl⟩ rfl rfl hl.1 rfl (lv_room (Nat.le_of_ble_eq_true rfl)) eX10_count_118.1 ⟨Nat.zero_le _, Nat.zero_le _⟩) (fun r_2 u H locs hp hP hD hS => ?_)
  have hPD := PDm (ws' := (wd_X10_count cI cC cZ cB cJ a_m oJ uD dY iJ lJ jQ jR jW jK pJ bM aY jO gR gY mK jZ iY bG mJ jB mQ lY eJ bY bW aG jG bQ dG jY m_length qG uW eY aJ aB bU dN aR aE bJ aW bT gJ dU bL bR bO mY pW rD pY)) hP hD 3 rfl rfl rfl
  have hP := hPD.1
  have hD := hPD.2
  exact W.iret (v := r_2) hx hb hr (fun t ht hW => ⟨⟨r_2, dG, rfl, hp, by rw [ht]; exact hP, va_K.moved hW.alike hK, hD⟩, hS.F ht⟩) hS.2.2 eX10_count_118.2.1
end S_X10_count
noncomputable def wp_X10_count (post : Int32 → Int32 → Prop) (p0 bW aG jG bQ dG bT : Int32) (rD pY : Nat → Int32) : Prop := (p0 = 0 → post bW 0) ∧ (p0 = 1 → post aG 0) ∧ (p0 = 2 → post (rD (17 : Int32).toNatClampNeg) 0) ∧ (p0 = 3 → post (rD (19 : Int32).toNatClampNeg) 0) ∧ (p0 = 4 → post (rD (20 : Int32).toNatClampNeg) 0) ∧ (p0 = 5 → ws_X10_count_110 post bW aG jG bQ bT rD pY p0 0) ∧ (p0 = 6 → ws_X10_count_110 post bW aG jG bQ bT rD pY p0 0) ∧ (p0 = 7 → ws_X10_count_110 post bW aG jG bQ bT rD pY p0 0) ∧ (p0 = 8 → ws_X10_count_110 post bW aG jG bQ bT rD pY p0 0) ∧ (p0 = 9 → post (rD (16 : Int32).toNatClampNeg) 0) ∧ (p0 = 10 → wp_X10_which (fun r_3 => ∀ v_4 : Int32, v_4 = rD (16 : Int32).toNatClampNeg → wp_X10_worthOfAll (fun r_5 => post r_5 0) r_3 v_4 bW pY) 2 bW rD) ∧ (p0 = 11 → post bT 0) ∧ (p0 = 12 → post bQ 0) ∧ (p0 = 13 → post jG 0) ∧ (¬ p0 = 0 → ¬ p0 = 1 → ¬ p0 = 2 → ¬ p0 = 3 → ¬ p0 = 4 → ¬ p0 = 5 → ¬ p0 = 6 → ¬ p0 = 7 → ¬ p0 = 8 → ¬ p0 = 9 → ¬ p0 = 10 → ¬ p0 = 11 → ¬ p0 = 12 → ¬ p0 = 13 → post (-100) 0)
set_option maxHeartbeats 4000000 in
set_option maxRecDepth 100000 in
theorem c_X10_count (l : Launch) (dC : Nat → ClassId) (dI : Nat → Nat → Nat) (cI cC cZ cB cJ : ClassId) (a_m oJ uD dY iJ lJ jQ jR jW jK pJ bM aY jO gR gY mK jZ iY bG mJ jB mQ lY eJ bY sz : Nat) (p0 bW aG jG bQ dG : Int32) (jY : Nat) (m_length qG uW eY aJ aB bU dN aR aE bJ aW bT gJ dU bL bR bO mY pW : Int32) (rD pY : Nat → Int32) (post : Int32 → Int32 → Prop) (hw : wp_X10_count post p0 bW aG jG bQ dG bT rD pY) : Met l yX10_count (gw yX10_count cX10_count 2 (some .int)) rm_X10_count (va_Pc [.ref a_m, .int p0] (gPre (dC, dI) (tyl cI cC cZ cB cJ) (wd_X10_count cI cC cZ cB cJ a_m oJ uD dY iJ lJ jQ jR jW jK pJ bM aY jO gR gY mK jZ iY bG mJ jB mQ lY eJ bY bW aG jG bQ dG jY m_length qG uW eY aJ aB bU dN aR aE bJ aW bT gJ dU bL bR bO mY pW rD pY) sz)) (q_X10_count dC dI cI cC cZ cB cJ (va_A (wd_X10_count cI cC cZ cB cJ a_m oJ uD dY iJ lJ jQ jR jW jK pJ bM aY jO gR gY mK jZ iY bG mJ jB mQ lY eJ bY bW aG jG bQ dG jY m_length qG uW eY aJ aB bU dN aR aE bJ aW bT gJ dU bL bR bO mY pW rD pY) sz) a_m oJ uD dY iJ lJ jQ jR jW jK pJ bM aY jO gR gY mK jZ iY bG mJ jB mQ lY eJ bY bW aG jG bQ jY m_length qG uW eY aJ aB bU dN aR aE bJ aW bT gJ dU bL bR bO mY pW rD pY post) 0 0 (va_A (wd_X10_count cI cC cZ cB cJ a_m oJ uD dY iJ lJ jQ jR jW jK pJ bM aY jO gR gY mK jZ iY bG mJ jB mQ lY eJ bY bW aG jG bQ dG jY m_length qG uW eY aJ aB bU dN aR aE bJ aW bT gJ dU bL bR bO mY pW rD pY) sz) := by
  refine g_enter (own := RX10) (dC, dI) (tyl cI cC cZ cB cJ) (wd_X10_count cI cC cZ cB cJ a_m oJ uD dY iJ lJ jQ jR jW jK pJ bM aY jO gR gY mK jZ iY bG mJ jB mQ lY eJ bY bW aG jG bQ dG jY m_length qG uW eY aJ aB bU dN aR aE bJ aW bT gJ dU bL bR bO mY pW rD pY) sz [.ref a_m, .int p0] (fun A => q_X10_count dC dI cI cC cZ cB cJ A a_m oJ uD dY iJ lJ jQ jR jW jK pJ bM aY jO gR gY mK jZ iY bG mJ jB mQ lY eJ bY bW aG jG bQ jY m_length qG uW eY aJ aB bU dN aR aE bJ aW bT gJ dU bL bR bO mY pW rD pY post) pn_RX10 rfl (Nat.le_of_ble_eq_true rfl) ?_
  intro p e s m args below meth c A H locs ls C0 hP hD hS hl
  have hl : lv_has ls 2 [(0, .ref a_m), (1, .int p0)] := hl
  obtain ⟨hx, hb, hr, hml, hown, hts, hlocks, hA, hK, hN, tL, tM, hZL, hTL, hZM, hTM, hZX⟩ := id C0
  have hp := hw
  unfold wp_X10_count at hp
  refine lv_aload_n hx hb eX10_count_0.1 rfl (lv_at hl 0 rfl) ?_
  refine lv_iconst (v := 0) hx hb eX10_count_0.2.1 ic_0 ?_
  refine va_put (D := (dC, dI)) (ci := 10) (v := .int 0) (ty := .int) (C := RX10) (T := TX10) (N := 51) hx hb hts i_X10 tyX10 tyX10_ok nmX10 hown hK hP hD hS 0 rfl rfl 14 (Nat.le_of_ble_eq_true rfl) (hts _ q_638) (fun _ h9 => h9) rfl (tyX10_ok 14 (Nat.le_of_ble_eq_true rfl)) rfl rfl (Nat.le_of_ble_eq_true rfl) eX10_count_0.2.2.1 (fun H locs hP hD hS => ?_)
  have hP : va_P (dC, dI) classes (wd_X10_count cI cC cZ cB cJ a_m oJ uD dY iJ lJ jQ jR jW jK pJ bM aY jO gR gY mK jZ iY bG mJ jB mQ lY eJ bY bW aG jG bQ 0 jY m_length qG uW eY aJ aB bU dN aR aE bJ aW bT gJ dU bL bR bO mY pW rD pY) H := hP
  have hD : va_D A (wd_X10_count cI cC cZ cB cJ a_m oJ uD dY iJ lJ jQ jR jW jK pJ bM aY jO gR gY mK jZ iY bG mJ jB mQ lY eJ bY bW aG jG bQ 0 jY m_length qG uW eY aJ aB bU dN aR aE bJ aW bT gJ dU bL bR bO mY pW rD pY) := hD
  refine lv_iload_n hx hb eX10_count_0.2.2.2.1 rfl (lv_at hl 1 rfl) ?_
  by_cases hc0 : p0 = 0
  · have hp := hp.1 hc0
    refine lv_tableIn (tgt := 76) hx hb eX10_count_0.2.2.2.2.1 (by first | (rw [hc0]; done) | (rw [hc0]; decide)) (by first | (rw [hc0]; done) | (rw [hc0]; decide)) (by first | (rw [hc0]; done) | (rw [hc0]; rfl)) (by decide) ?_
    refine lv_aload_n hx hb eX10_count_0.2.2.2.2.2.1 rfl (lv_at hl 0 rfl) ?_
    refine va_get (D := (dC, dI)) (ci := 10) (v := .int bW) (C := RX10) (T := TX10) (N := 51) hx hb hts i_X10 hown hK hP 0 rfl rfl 1 (Nat.le_of_ble_eq_true rfl) (hts _ q_677) (fun _ h9 => h9) rfl eX10_count_0.2.2.2.2.2.2.1 ?_
    exact W.iret (v := bW) hx hb hr (fun t ht hW => ⟨⟨bW, 0, rfl, hp, by rw [ht]; exact hP, va_K.moved hW.alike hK, hD⟩, hS.F ht⟩) hS.2.2 eX10_count_0.2.2.2.2.2.2.2.1
  by_cases hc1 : p0 = 1
  · have hp := hp.2.1 hc1
    refine lv_tableIn (tgt := 81) hx hb eX10_count_0.2.2.2.2.1 (by first | (rw [hc1]; done) | (rw [hc1]; decide)) (by first | (rw [hc1]; done) | (rw [hc1]; decide)) (by first | (rw [hc1]; done) | (rw [hc1]; rfl)) (by decide) ?_
    refine lv_aload_n hx hb eX10_count_0.2.2.2.2.2.2.2.2.1 rfl (lv_at hl 0 rfl) ?_
    refine va_get (D := (dC, dI)) (ci := 10) (v := .int aG) (C := RX10) (T := TX10) (N := 51) hx hb hts i_X10 hown hK hP 0 rfl rfl 6 (Nat.le_of_ble_eq_true rfl) (hts _ q_666) (fun _ h9 => h9) rfl eX10_count_0.2.2.2.2.2.2.2.2.2.1 ?_
    exact W.iret (v := aG) hx hb hr (fun t ht hW => ⟨⟨aG, 0, rfl, hp, by rw [ht]; exact hP, va_K.moved hW.alike hK, hD⟩, hS.F ht⟩) hS.2.2 eX10_count_0.2.2.2.2.2.2.2.2.2.2.1
  by_cases hc2 : p0 = 2
  · have hp := hp.2.2.1 hc2
    refine lv_tableIn (tgt := 86) hx hb eX10_count_0.2.2.2.2.1 (by first | (rw [hc2]; done) | (rw [hc2]; decide)) (by first | (rw [hc2]; done) | (rw [hc2]; decide)) (by first | (rw [hc2]; done) | (rw [hc2]; rfl)) (by decide) ?_
    refine lv_aload_n hx hb eX10_count_0.2.2.2.2.2.2.2.2.2.2.2.1 rfl (lv_at hl 0 rfl) ?_
    refine va_get (D := (dC, dI)) (ci := 10) (v := .ref oJ) (C := RX10) (T := TX10) (N := 51) hx hb hts i_X10 hown hK hP 0 rfl rfl 0 (Nat.le_of_ble_eq_true rfl) (hts _ q_692) (fun _ h9 => h9) rfl eX10_count_0.2.2.2.2.2.2.2.2.2.2.2.2.1 ?_
    refine lv_bipush (v := 17) hx hb eX10_count_0.2.2.2.2.2.2.2.2.2.2.2.2.2.1 bp_17 ?_
    refine va_iald hx hb hK hP 1 0 rfl rfl (g_in rfl) eX10_count_0.2.2.2.2.2.2.2.2.2.2.2.2.2.2.1 ?_
    exact W.iret (v := rD (17 : Int32).toNatClampNeg) hx hb hr (fun t ht hW => ⟨⟨rD (17 : Int32).toNatClampNeg, 0, rfl, hp, by rw [ht]; exact hP, va_K.moved hW.alike hK, hD⟩, hS.F ht⟩) hS.2.2 eX10_count_0.2.2.2.2.2.2.2.2.2.2.2.2.2.2.2
  by_cases hc3 : p0 = 3
  · have hp := hp.2.2.2.1 hc3
    refine lv_tableIn (tgt := 94) hx hb eX10_count_0.2.2.2.2.1 (by first | (rw [hc3]; done) | (rw [hc3]; decide)) (by first | (rw [hc3]; done) | (rw [hc3]; decide)) (by first | (rw [hc3]; done) | (rw [hc3]; rfl)) (by decide) ?_
    refine lv_aload_n hx hb eX10_count_94.1 rfl (lv_at hl 0 rfl) ?_
    refine va_get (D := (dC, dI)) (ci := 10) (v := .ref oJ) (C := RX10) (T := TX10) (N := 51) hx hb hts i_X10 hown hK hP 0 rfl rfl 0 (Nat.le_of_ble_eq_true rfl) (hts _ q_692) (fun _ h9 => h9) rfl eX10_count_94.2.1 ?_
    refine lv_bipush (v := 19) hx hb eX10_count_94.2.2.1 bp_19 ?_
    refine va_iald hx hb hK hP 1 0 rfl rfl (g_in rfl) eX10_count_94.2.2.2.1 ?_
    exact W.iret (v := rD (19 : Int32).toNatClampNeg) hx hb hr (fun t ht hW => ⟨⟨rD (19 : Int32).toNatClampNeg, 0, rfl, hp, by rw [ht]; exact hP, va_K.moved hW.alike hK, hD⟩, hS.F ht⟩) hS.2.2 eX10_count_94.2.2.2.2.1
  by_cases hc4 : p0 = 4
  · have hp := hp.2.2.2.2.1 hc4
    refine lv_tableIn (tgt := 102) hx hb eX10_count_0.2.2.2.2.1 (by first | (rw [hc4]; done) | (rw [hc4]; decide)) (by first | (rw [hc4]; done) | (rw [hc4]; decide)) (by first | (rw [hc4]; done) | (rw [hc4]; rfl)) (by decide) ?_
    refine lv_aload_n hx hb eX10_count_94.2.2.2.2.2.1 rfl (lv_at hl 0 rfl) ?_
    refine va_get (D := (dC, dI)) (ci := 10) (v := .ref oJ) (C := RX10) (T := TX10) (N := 51) hx hb hts i_X10 hown hK hP 0 rfl rfl 0 (Nat.le_of_ble_eq_true rfl) (hts _ q_692) (fun _ h9 => h9) rfl eX10_count_94.2.2.2.2.2.2.1 ?_
    refine lv_bipush (v := 20) hx hb eX10_count_94.2.2.2.2.2.2.2.1 bp_20 ?_
    refine va_iald hx hb hK hP 1 0 rfl rfl (g_in rfl) eX10_count_94.2.2.2.2.2.2.2.2.1 ?_
    exact W.iret (v := rD (20 : Int32).toNatClampNeg) hx hb hr (fun t ht hW => ⟨⟨rD (20 : Int32).toNatClampNeg, 0, rfl, hp, by rw [ht]; exact hP, va_K.moved hW.alike hK, hD⟩, hS.F ht⟩) hS.2.2 eX10_count_94.2.2.2.2.2.2.2.2.2.1
  by_cases hc5 : p0 = 5
  · have hp := hp.2.2.2.2.2.1 hc5
    refine lv_tableIn (tgt := 110) hx hb eX10_count_0.2.2.2.2.1 (by first | (rw [hc5]; done) | (rw [hc5]; decide)) (by first | (rw [hc5]; done) | (rw [hc5]; decide)) (by first | (rw [hc5]; done) | (rw [hc5]; rfl)) (by decide) ?_
    exact ks_X10_count_110 C0 p0 0 H locs ls hp hP hD hS (lv_sub hl [0, 1] rfl)
  by_cases hc6 : p0 = 6
  · have hp := hp.2.2.2.2.2.2.1 hc6
    refine lv_tableIn (tgt := 110) hx hb eX10_count_0.2.2.2.2.1 (by first | (rw [hc6]; done) | (rw [hc6]; decide)) (by first | (rw [hc6]; done) | (rw [hc6]; decide)) (by first | (rw [hc6]; done) | (rw [hc6]; rfl)) (by decide) ?_
    exact ks_X10_count_110 C0 p0 0 H locs ls hp hP hD hS (lv_sub hl [0, 1] rfl)
  by_cases hc7 : p0 = 7
  · have hp := hp.2.2.2.2.2.2.2.1 hc7
    refine lv_tableIn (tgt := 110) hx hb eX10_count_0.2.2.2.2.1 (by first | (rw [hc7]; done) | (rw [hc7]; decide)) (by first | (rw [hc7]; done) | (rw [hc7]; decide)) (by first | (rw [hc7]; done) | (rw [hc7]; rfl)) (by decide) ?_
    exact ks_X10_count_110 C0 p0 0 H locs ls hp hP hD hS (lv_sub hl [0, 1] rfl)
  by_cases hc8 : p0 = 8
  · have hp := hp.2.2.2.2.2.2.2.2.1 hc8
    refine lv_tableIn (tgt := 110) hx hb eX10_count_0.2.2.2.2.1 (by first | (rw [hc8]; done) | (rw [hc8]; decide)) (by first | (rw [hc8]; done) | (rw [hc8]; decide)) (by first | (rw [hc8]; done) | (rw [hc8]; rfl)) (by decide) ?_
    exact ks_X10_count_110 C0 p0 0 H locs ls hp hP hD hS (lv_sub hl [0, 1] rfl)
  by_cases hc9 : p0 = 9
  · have hp := hp.2.2.2.2.2.2.2.2.2.1 hc9
    refine lv_tableIn (tgt := 122) hx hb eX10_count_0.2.2.2.2.1 (by first | (rw [hc9]; done) | (rw [hc9]; decide)) (by first | (rw [hc9]; done) | (rw [hc9]; decide)) (by first | (rw [hc9]; done) | (rw [hc9]; rfl)) (by decide) ?_
    refine lv_aload_n hx hb eX10_count_118.2.2.1 rfl (lv_at hl 0 rfl) ?_
    refine va_get (D := (dC, dI)) (ci := 10) (v := .ref oJ) (C := RX10) (T := TX10) (N := 51) hx hb hts i_X10 hown hK hP 0 rfl rfl 0 (Nat.le_of_ble_eq_true rfl) (hts _ q_692) (fun _ h9 => h9) rfl eX10_count_118.2.2.2.1 ?_
    refine lv_bipush (v := 16) hx hb eX10_count_118.2.2.2.2.1 bp_16 ?_
    refine va_iald hx hb hK hP 1 0 rfl rfl (g_in rfl) eX10_count_118.2.2.2.2.2.1 ?_
    exact W.iret (v := rD (16 : Int32).toNatClampNeg) hx hb hr (fun t ht hW => ⟨⟨rD (16 : Int32).toNatClampNeg, 0, rfl, hp, by rw [ht]; exact hP, va_K.moved hW.alike hK, hD⟩, hS.F ht⟩) hS.2.2 eX10_count_118.2.2.2.2.2.2.1
  by_cases hc10 : p0 = 10
  · have hp := hp.2.2.2.2.2.2.2.2.2.2.1 hc10
    refine lv_tableIn (tgt := 130) hx hb eX10_count_0.2.2.2.2.1 (by first | (rw [hc10]; done) | (rw [hc10]; decide)) (by first | (rw [hc10]; done) | (rw [hc10]; decide)) (by first | (rw [hc10]; done) | (rw [hc10]; rfl)) (by decide) ?_
    refine lv_aload_n hx hb eX10_count_118.2.2.2.2.2.2.2.1 rfl (lv_at hl 0 rfl) ?_
    refine lv_aload_n hx hb eX10_count_118.2.2.2.2.2.2.2.2.1 rfl (lv_at hl 0 rfl) ?_
    refine lv_aload_n hx hb eX10_count_118.2.2.2.2.2.2.2.2.2.1 rfl (lv_at hl 0 rfl) ?_
    refine va_get (D := (dC, dI)) (ci := 10) (v := .ref oJ) (C := RX10) (T := TX10) (N := 51) hx hb hts i_X10 hown hK hP 0 rfl rfl 0 (Nat.le_of_ble_eq_true rfl) (hts _ q_692) (fun _ h9 => h9) rfl eX10_count_118.2.2.2.2.2.2.2.2.2.2.1 ?_
    refine lv_iconst (v := 2) hx hb eX10_count_118.2.2.2.2.2.2.2.2.2.2.2.1 ic_2 ?_
    have hm := mgk (wc := (wd_X10_which cI cC cZ cB cJ a_m oJ uD dY iJ lJ jQ jR jW jK pJ bM aY jO gR gY mK jZ iY bG mJ jB mQ lY eJ bY bW aG jG bQ 0 jY m_length qG uW eY aJ aB bU dN aR aE bJ aW bT gJ dU bL bR bO mY pW rD)) hP aCj 3 rfl rfl rfl
    refine g_calli hP hD hS hA (mixT aCj) (mixF aCj) hm.1 hm.2 (nd_F _) (dis_g _) (g_runV (As := [.ref oJ, .int 2]) (rest := [.ref a_m]) C0 hP hD hS (mixT aCj) hm.1 (nd_T _) 0 10 rfl rfl (c_X10_which l dC dI cI cC cZ cB cJ a_m oJ uD dY iJ lJ jQ jR jW jK pJ bM aY jO gR gY mK jZ iY bG mJ jB mQ lY eJ bY H.size 2 bW aG jG bQ 0 jY m_length qG uW eY aJ aB bU dN aR aE bJ aW bT gJ dU bL bR bO mY pW rD _ hp) q_749 q_752 q_750 q_751 q_642 h_X10_which rfl rfl ⟨Nat.le_of_ble_eq_true rfl, Nat.le_of_ble_eq_true rfl⟩ rfl rfl hl.1 rfl (lv_room (Nat.le_of_ble_eq_true rfl)) eX10_count_118.2.2.2.2.2.2.2.2.2.2.2.2.1 ⟨Nat.zero_le _, Nat.zero_le _⟩) (fun r_3 u H locs hp hP hD hS => ?_)
    have hPD := PDm (ws' := (wd_X10_count cI cC cZ cB cJ a_m oJ uD dY iJ lJ jQ jR jW jK pJ bM aY jO gR gY mK jZ iY bG mJ jB mQ lY eJ bY bW aG jG bQ 0 jY m_length qG uW eY aJ aB bU dN aR aE bJ aW bT gJ dU bL bR bO mY pW rD pY)) hP hD 3 rfl rfl rfl
    have hP := hPD.1
    have hD := hPD.2
    refine lv_aload_n hx hb eX10_count_118.2.2.2.2.2.2.2.2.2.2.2.2.2.1 rfl (lv_at hl 0 rfl) ?_
    refine va_get (D := (dC, dI)) (ci := 10) (v := .ref oJ) (C := RX10) (T := TX10) (N := 51) hx hb hts i_X10 hown hK hP 0 rfl rfl 0 (Nat.le_of_ble_eq_true rfl) (hts _ q_692) (fun _ h9 => h9) rfl eX10_count_118.2.2.2.2.2.2.2.2.2.2.2.2.2.2.1 ?_
    refine lv_bipush (v := 16) hx hb eX10_count_118.2.2.2.2.2.2.2.2.2.2.2.2.2.2.2 bp_16 ?_
    refine va_iald hx hb hK hP 1 0 rfl rfl (g_in rfl) eX10_count_146.1 ?_
    refine lv_topi (fun v_4 ev_4 => ?_)
    have hp := hp v_4 ev_4
    have hm := mgk (wc := (wd_X10_worthOfAll cI cC cZ cB cJ a_m oJ uD dY iJ lJ jQ jR jW jK pJ bM aY jO gR gY mK jZ iY bG mJ jB mQ lY eJ bY bW aG jG bQ 0 jY m_length qG uW eY aJ aB bU dN aR aE bJ aW bT gJ dU bL bR bO mY pW pY)) hP aGw 3 rfl rfl rfl
    refine g_calli hP hD hS hA (mixT aGw) (mixF aGw) hm.1 hm.2 (nd_F _) (dis_g _) (g_runV (As := [.int r_3, .int v_4]) (rest := []) C0 hP hD hS (mixT aGw) hm.1 (nd_T _) 0 10 rfl rfl (c_X10_worthOfAll l dC dI cI cC cZ cB cJ a_m oJ uD dY iJ lJ jQ jR jW jK pJ bM aY jO gR gY mK jZ iY bG mJ jB mQ lY eJ bY H.size r_3 v_4 bW aG jG bQ 0 jY m_length qG uW eY aJ aB bU dN aR aE bJ aW bT gJ dU bL bR bO mY pW pY _ hp) q_865 q_868 q_866 q_867 q_642 h_X10_worthOfAll rfl rfl ⟨Nat.le_of_ble_eq_true rfl, Nat.le_of_ble_eq_true rfl⟩ rfl rfl hl.1 rfl (lv_room (Nat.le_of_ble_eq_true rfl)) eX10_count_146.2.1 ⟨Nat.zero_le _, Nat.zero_le _⟩) (fun r_5 u H locs hp hP hD hS => ?_)
    have hPD := PDm (ws' := (wd_X10_count cI cC cZ cB cJ a_m oJ uD dY iJ lJ jQ jR jW jK pJ bM aY jO gR gY mK jZ iY bG mJ jB mQ lY eJ bY bW aG jG bQ 0 jY m_length qG uW eY aJ aB bU dN aR aE bJ aW bT gJ dU bL bR bO mY pW rD pY)) hP hD 3 rfl rfl rfl
    have hP := hPD.1
    have hD := hPD.2
    exact W.iret (v := r_5) hx hb hr (fun t ht hW => ⟨⟨r_5, 0, rfl, hp, by rw [ht]; exact hP, va_K.moved hW.alike hK, hD⟩, hS.F ht⟩) hS.2.2 eX10_count_146.2.2.1
  by_cases hc11 : p0 = 11
  · have hp := hp.2.2.2.2.2.2.2.2.2.2.2.1 hc11
    refine lv_tableIn (tgt := 151) hx hb eX10_count_0.2.2.2.2.1 (by first | (rw [hc11]; done) | (rw [hc11]; decide)) (by first | (rw [hc11]; done) | (rw [hc11]; decide)) (by first | (rw [hc11]; done) | (rw [hc11]; rfl)) (by decide) ?_
    refine lv_aload_n hx hb eX10_count_146.2.2.2.1 rfl (lv_at hl 0 rfl) ?_
    refine va_get (D := (dC, dI)) (ci := 10) (v := .int bT) (C := RX10) (T := TX10) (N := 51) hx hb hts i_X10 hown hK hP 0 rfl rfl 32 (Nat.le_of_ble_eq_true rfl) (hts _ q_684) (fun _ h9 => h9) rfl eX10_count_146.2.2.2.2.1 ?_
    exact W.iret (v := bT) hx hb hr (fun t ht hW => ⟨⟨bT, 0, rfl, hp, by rw [ht]; exact hP, va_K.moved hW.alike hK, hD⟩, hS.F ht⟩) hS.2.2 eX10_count_146.2.2.2.2.2.1
  by_cases hc12 : p0 = 12
  · have hp := hp.2.2.2.2.2.2.2.2.2.2.2.2.1 hc12
    refine lv_tableIn (tgt := 156) hx hb eX10_count_0.2.2.2.2.1 (by first | (rw [hc12]; done) | (rw [hc12]; decide)) (by first | (rw [hc12]; done) | (rw [hc12]; decide)) (by first | (rw [hc12]; done) | (rw [hc12]; rfl)) (by decide) ?_
    refine lv_aload_n hx hb eX10_count_146.2.2.2.2.2.2.1 rfl (lv_at hl 0 rfl) ?_
    refine va_get (D := (dC, dI)) (ci := 10) (v := .int bQ) (C := RX10) (T := TX10) (N := 51) hx hb hts i_X10 hown hK hP 0 rfl rfl 13 (Nat.le_of_ble_eq_true rfl) (hts _ q_847) (fun _ h9 => h9) rfl eX10_count_146.2.2.2.2.2.2.2.1 ?_
    exact W.iret (v := bQ) hx hb hr (fun t ht hW => ⟨⟨bQ, 0, rfl, hp, by rw [ht]; exact hP, va_K.moved hW.alike hK, hD⟩, hS.F ht⟩) hS.2.2 eX10_count_146.2.2.2.2.2.2.2.2.1
  by_cases hc13 : p0 = 13
  · have hp := hp.2.2.2.2.2.2.2.2.2.2.2.2.2.1 hc13
    refine lv_tableIn (tgt := 161) hx hb eX10_count_0.2.2.2.2.1 (by first | (rw [hc13]; done) | (rw [hc13]; decide)) (by first | (rw [hc13]; done) | (rw [hc13]; decide)) (by first | (rw [hc13]; done) | (rw [hc13]; rfl)) (by decide) ?_
    refine lv_aload_n hx hb eX10_count_146.2.2.2.2.2.2.2.2.2.1 rfl (lv_at hl 0 rfl) ?_
    refine va_get (D := (dC, dI)) (ci := 10) (v := .int jG) (C := RX10) (T := TX10) (N := 51) hx hb hts i_X10 hown hK hP 0 rfl rfl 11 (Nat.le_of_ble_eq_true rfl) (hts _ q_639) (fun _ h9 => h9) rfl eX10_count_146.2.2.2.2.2.2.2.2.2.2.1 ?_
    exact W.iret (v := jG) hx hb hr (fun t ht hW => ⟨⟨jG, 0, rfl, hp, by rw [ht]; exact hP, va_K.moved hW.alike hK, hD⟩, hS.F ht⟩) hS.2.2 eX10_count_146.2.2.2.2.2.2.2.2.2.2.2.1
  have hp := hp.2.2.2.2.2.2.2.2.2.2.2.2.2.2 hc0 hc1 hc2 hc3 hc4 hc5 hc6 hc7 hc8 hc9 hc10 hc11 hc12 hc13
  have key : W p l e rm_X10_count s m args below meth c H locs 0 0 (MQ below (q_X10_count dC dI cI cC cZ cB cJ A a_m oJ uD dY iJ lJ jQ jR jW jK pJ bM aY jO gR gY mK jZ iY bG mJ jB mQ lY eJ bY bW aG jG bQ jY m_length qG uW eY aJ aB bU dN aR aE bJ aW bT gJ dU bL bR bO mY pW rD pY post) args s 0 0 A) (F0 m 166 ls []) := by
    refine lv_bipush (v := (-100)) hx hb eX10_count_146.2.2.2.2.2.2.2.2.2.2.2.2.1 bp_m100 ?_
    exact W.iret (v := (-100)) hx hb hr (fun t ht hW => ⟨⟨(-100), 0, rfl, hp, by rw [ht]; exact hP, va_K.moved hW.alike hK, hD⟩, hS.F ht⟩) hS.2.2 eX10_count_146.2.2.2.2.2.2.2.2.2.2.2.2.2
  exact lv_tableOut (tgt := 166) hx hb eX10_count_0.2.2.2.2.1 (by have g0 := lv_neT (a := 0) hc0 rfl; have g1 := lv_neT (a := 1) hc1 rfl; have g2 := lv_neT (a := 2) hc2 rfl; have g3 := lv_neT (a := 3) hc3 rfl; have g4 := lv_neT (a := 4) hc4 rfl; have g5 := lv_neT (a := 5) hc5 rfl; have g6 := lv_neT (a := 6) hc6 rfl; have g7 := lv_neT (a := 7) hc7 rfl; have g8 := lv_neT (a := 8) hc8 rfl; have g9 := lv_neT (a := 9) hc9 rfl; have g10 := lv_neT (a := 10) hc10 rfl; have g11 := lv_neT (a := 11) hc11 rfl; have g12 := lv_neT (a := 12) hc12 rfl; have g13 := lv_neT (a := 13) hc13 rfl; omega) (by decide) key
noncomputable abbrev wd_X10_row (cI cC cZ cB cJ : ClassId) (a_m oJ uD dY iJ lJ jQ jR jW jK pJ bM aY jO gR gY mK jZ iY bG mJ jB mQ lY eJ bY : Nat) (bW aG jG bQ dG : Int32) (jY : Nat) (m_length qG uW eY aJ aB bU dN aR aE bJ aW bT gJ dU bL bR bO mY pW : Int32) (uM : Nat → Int32) : va_W := [(a_m, .inr (10, [.ref oJ, .int bW, .ref uD, .ref dY, .ref iJ, .ref lJ, .int aG, .ref jQ, .ref jR, .ref jW, .ref jK, .int jG, .ref pJ, .int bQ, .int dG, rdv jK jO jY, .int m_length, .int qG, .int uW, .int eY, .ref bM, .ref aY, .int aJ, .int aB, .ref jO, .int bU, .int dN, .int aR, .int aE, .int bJ, .int aW, .ref gR, .int bT, .ref gY, .ref mK, .int gJ, .ref jZ, .int dU, .ref iY, .ref bG, .int bL, .int bR, .int bO, .ref mJ, .ref jB, .ref mQ, .int mY, .int pW, .ref lY, .ref eJ, .ref bY])), (pJ, .inl (cI, 32, .inl uM))]
noncomputable abbrev q_X10_row (dC : Nat → ClassId) (dI : Nat → Nat → Nat) (cI cC cZ cB cJ : ClassId) (A : Nat → Prop) (a_m oJ uD dY iJ lJ jQ jR jW jK pJ bM aY jO gR gY mK jZ iY bG mJ jB mQ lY eJ bY : Nat) (bW aG jG bQ : Int32) (jY : Nat) (m_length qG uW eY aJ aB bU dN aR aE bJ aW bT gJ dU bL bR bO mY pW : Int32) (uM : Nat → Int32) (post : Int32 → Int32 → Prop) : Array Value → State → Outcome → State → Prop := va_Qi (fun (r u : Int32) => post r u) (fun u t => gB (dC, dI) (tyl cI cC cZ cB cJ) A (wd_X10_row cI cC cZ cB cJ a_m oJ uD dY iJ lJ jQ jR jW jK pJ bM aY jO gR gY mK jZ iY bG mJ jB mQ lY eJ bY bW aG jG bQ u jY m_length qG uW eY aJ aB bU dN aR aE bJ aW bT gJ dU bL bR bO mY pW uM) t) A
noncomputable abbrev rm_X10_row : Room := { frames := 1, cells := 0, slots := 0, locals := 22 }
noncomputable def wp_X10_row (post : Int32 → Int32 → Prop) (p0 bQ dG : Int32) (uM : Nat → Int32) : Prop := ∀ v_1 : Int32, v_1 = bQ - 1 → wp_X10_in (fun r_2 => (r_2 = 0 → wp_X10_lost (fun r_3 m_thrown_4 => post r_3 m_thrown_4) 0) ∧ (¬ r_2 = 0 → vp_in p0 32 ∧ (∀ v_5 : Int32, v_5 = uM p0.toNatClampNeg → post v_5 0))) p0 0 v_1
set_option maxHeartbeats 4000000 in
set_option maxRecDepth 100000 in
theorem c_X10_row (l : Launch) (dC : Nat → ClassId) (dI : Nat → Nat → Nat) (cI cC cZ cB cJ : ClassId) (a_m oJ uD dY iJ lJ jQ jR jW jK pJ bM aY jO gR gY mK jZ iY bG mJ jB mQ lY eJ bY sz : Nat) (p0 bW aG jG bQ dG : Int32) (jY : Nat) (m_length qG uW eY aJ aB bU dN aR aE bJ aW bT gJ dU bL bR bO mY pW : Int32) (uM : Nat → Int32) (post : Int32 → Int32 → Prop) (hw : wp_X10_row post p0 bQ dG uM) : Met l yX10_row (gw yX10_row cX10_row 2 (some .int)) rm_X10_row (va_Pc [.ref a_m, .int p0] (gPre (dC, dI) (tyl cI cC cZ cB cJ) (wd_X10_row cI cC cZ cB cJ a_m oJ uD dY iJ lJ jQ jR jW jK pJ bM aY jO gR gY mK jZ iY bG mJ jB mQ lY eJ bY bW aG jG bQ dG jY m_length qG uW eY aJ aB bU dN aR aE bJ aW bT gJ dU bL bR bO mY pW uM) sz)) (q_X10_row dC dI cI cC cZ cB cJ (va_A (wd_X10_row cI cC cZ cB cJ a_m oJ uD dY iJ lJ jQ jR jW jK pJ bM aY jO gR gY mK jZ iY bG mJ jB mQ lY eJ bY bW aG jG bQ dG jY m_length qG uW eY aJ aB bU dN aR aE bJ aW bT gJ dU bL bR bO mY pW uM) sz) a_m oJ uD dY iJ lJ jQ jR jW jK pJ bM aY jO gR gY mK jZ iY bG mJ jB mQ lY eJ bY bW aG jG bQ jY m_length qG uW eY aJ aB bU dN aR aE bJ aW bT gJ dU bL bR bO mY pW uM post) 0 0 (va_A (wd_X10_row cI cC cZ cB cJ a_m oJ uD dY iJ lJ jQ jR jW jK pJ bM aY jO gR gY mK jZ iY bG mJ jB mQ lY eJ bY bW aG jG bQ dG jY m_length qG uW eY aJ aB bU dN aR aE bJ aW bT gJ dU bL bR bO mY pW uM) sz) := by
  refine g_enter (own := RX10) (dC, dI) (tyl cI cC cZ cB cJ) (wd_X10_row cI cC cZ cB cJ a_m oJ uD dY iJ lJ jQ jR jW jK pJ bM aY jO gR gY mK jZ iY bG mJ jB mQ lY eJ bY bW aG jG bQ dG jY m_length qG uW eY aJ aB bU dN aR aE bJ aW bT gJ dU bL bR bO mY pW uM) sz [.ref a_m, .int p0] (fun A => q_X10_row dC dI cI cC cZ cB cJ A a_m oJ uD dY iJ lJ jQ jR jW jK pJ bM aY jO gR gY mK jZ iY bG mJ jB mQ lY eJ bY bW aG jG bQ jY m_length qG uW eY aJ aB bU dN aR aE bJ aW bT gJ dU bL bR bO mY pW uM post) pn_RX10 rfl (Nat.le_of_ble_eq_true rfl) ?_
  intro p e s m args below meth c A H locs ls C0 hP hD hS hl
  have hl : lv_has ls 2 [(0, .ref a_m), (1, .int p0)] := hl
  obtain ⟨hx, hb, hr, hml, hown, hts, hlocks, hA, hK, hN, tL, tM, hZL, hTL, hZM, hTM, hZX⟩ := id C0
  have hp := hw
  unfold wp_X10_row at hp
  refine lv_aload_n hx hb eX10_row_0.1 rfl (lv_at hl 0 rfl) ?_
  refine lv_iconst (v := 0) hx hb eX10_row_0.2.1 ic_0 ?_
  refine va_put (D := (dC, dI)) (ci := 10) (v := .int 0) (ty := .int) (C := RX10) (T := TX10) (N := 51) hx hb hts i_X10 tyX10 tyX10_ok nmX10 hown hK hP hD hS 0 rfl rfl 14 (Nat.le_of_ble_eq_true rfl) (hts _ q_638) (fun _ h9 => h9) rfl (tyX10_ok 14 (Nat.le_of_ble_eq_true rfl)) rfl rfl (Nat.le_of_ble_eq_true rfl) eX10_row_0.2.2.1 (fun H locs hP hD hS => ?_)
  have hP : va_P (dC, dI) classes (wd_X10_row cI cC cZ cB cJ a_m oJ uD dY iJ lJ jQ jR jW jK pJ bM aY jO gR gY mK jZ iY bG mJ jB mQ lY eJ bY bW aG jG bQ 0 jY m_length qG uW eY aJ aB bU dN aR aE bJ aW bT gJ dU bL bR bO mY pW uM) H := hP
  have hD : va_D A (wd_X10_row cI cC cZ cB cJ a_m oJ uD dY iJ lJ jQ jR jW jK pJ bM aY jO gR gY mK jZ iY bG mJ jB mQ lY eJ bY bW aG jG bQ 0 jY m_length qG uW eY aJ aB bU dN aR aE bJ aW bT gJ dU bL bR bO mY pW uM) := hD
  refine lv_iload_n hx hb eX10_row_0.2.2.2.1 rfl (lv_at hl 1 rfl) ?_
  refine lv_iconst (v := 0) hx hb eX10_row_0.2.2.2.2.1 ic_0 ?_
  refine lv_aload_n hx hb eX10_row_0.2.2.2.2.2.1 rfl (lv_at hl 0 rfl) ?_
  refine va_get (D := (dC, dI)) (ci := 10) (v := .int bQ) (C := RX10) (T := TX10) (N := 51) hx hb hts i_X10 hown hK hP 0 rfl rfl 13 (Nat.le_of_ble_eq_true rfl) (hts _ q_847) (fun _ h9 => h9) rfl eX10_row_0.2.2.2.2.2.2.1 ?_
  refine lv_iconst (v := 1) hx hb eX10_row_0.2.2.2.2.2.2.2.1 ic_1 ?_
  refine lv_isub hx hb eX10_row_0.2.2.2.2.2.2.2.2.1 ?_
  refine lv_topi (fun v_1 ev_1 => ?_)
  have hp := hp v_1 ev_1
  refine g_calli (wc := (wd_X10_in cI cC cZ cB cJ)) hP hD hS hA [] [0, 1] rfl rfl rfl rfl (g_runS (As := [.int p0, .int 0, .int v_1]) (rest := []) C0 hP hD hS [] rfl rfl (c_X10_in l dC dI cI cC cZ cB cJ H.size p0 0 v_1 _ hp) q_641 q_644 q_643 q_642 h_X10_in rfl rfl ⟨Nat.le_of_ble_eq_true rfl, Nat.le_of_ble_eq_true rfl⟩ rfl rfl hl.1 rfl (lv_room (Nat.le_of_ble_eq_true rfl)) eX10_row_0.2.2.2.2.2.2.2.2.2.1 ⟨Nat.zero_le _, Nat.zero_le _⟩) (fun r_2 u H locs hp hP hD hS => ?_)
  have hPD := PDs (ws' := (wd_X10_row cI cC cZ cB cJ a_m oJ uD dY iJ lJ jQ jR jW jK pJ bM aY jO gR gY mK jZ iY bG mJ jB mQ lY eJ bY bW aG jG bQ 0 jY m_length qG uW eY aJ aB bU dN aR aE bJ aW bT gJ dU bL bR bO mY pW uM)) hP hD [0, 1] (by decide) rfl
  have hP := hPD.1
  have hD := hPD.2
  refine lv_if_eq (tgt := 28) hx hb eX10_row_0.2.2.2.2.2.2.2.2.2.2.1 (by decide) (fun hc => ?_) (fun hc => ?_)
  · have hp := hp.1 hc
    refine lv_aload_n hx hb eX10_row_28.1 rfl (lv_at hl 0 rfl) ?_
    refine g_calli (wc := (wd_X10_lost cI cC cZ cB cJ a_m oJ uD dY iJ lJ jQ jR jW jK pJ bM aY jO gR gY mK jZ iY bG mJ jB mQ lY eJ bY bW aG jG bQ 0 jY m_length qG uW eY aJ aB bU dN aR aE bJ aW bT gJ dU bL bR bO mY pW)) hP hD hS hA [0] [1] rfl rfl rfl rfl (g_runV (As := []) (rest := []) C0 hP hD hS [0] rfl rfl 0 10 rfl rfl (c_X10_lost l dC dI cI cC cZ cB cJ a_m oJ uD dY iJ lJ jQ jR jW jK pJ bM aY jO gR gY mK jZ iY bG mJ jB mQ lY eJ bY H.size bW aG jG bQ 0 jY m_length qG uW eY aJ aB bU dN aR aE bJ aW bT gJ dU bL bR bO mY pW _ hp) q_745 q_748 q_746 q_747 q_642 h_X10_lost rfl rfl ⟨Nat.le_of_ble_eq_true rfl, Nat.le_of_ble_eq_true rfl⟩ rfl rfl hl.1 rfl (lv_room (Nat.le_of_ble_eq_true rfl)) eX10_row_28.2.1 ⟨Nat.zero_le _, Nat.zero_le _⟩) (fun r_3 u H locs hp hP hD hS => ?_)
    obtain ⟨m_thrown_4, rfl⟩ : ∃ z, z = u := ⟨_, rfl⟩
    have hPD := PDs (ws' := (wd_X10_row cI cC cZ cB cJ a_m oJ uD dY iJ lJ jQ jR jW jK pJ bM aY jO gR gY mK jZ iY bG mJ jB mQ lY eJ bY bW aG jG bQ m_thrown_4 jY m_length qG uW eY aJ aB bU dN aR aE bJ aW bT gJ dU bL bR bO mY pW uM)) hP hD [1, 0] (by decide) rfl
    have hP := hPD.1
    have hD := hPD.2
    exact W.iret (v := r_3) hx hb hr (fun t ht hW => ⟨⟨r_3, m_thrown_4, rfl, hp, by rw [ht]; exact hP, va_K.moved hW.alike hK, hD⟩, hS.F ht⟩) hS.2.2 eX10_row_28.2.2
  · have hp := hp.2 hc
    refine lv_aload_n hx hb eX10_row_0.2.2.2.2.2.2.2.2.2.2.2.1 rfl (lv_at hl 0 rfl) ?_
    refine va_get (D := (dC, dI)) (ci := 10) (v := .ref pJ) (C := RX10) (T := TX10) (N := 51) hx hb hts i_X10 hown hK hP 0 rfl rfl 12 (Nat.le_of_ble_eq_true rfl) (hts _ q_846) (fun _ h9 => h9) rfl eX10_row_0.2.2.2.2.2.2.2.2.2.2.2.2.1 ?_
    refine lv_iload_n hx hb eX10_row_0.2.2.2.2.2.2.2.2.2.2.2.2.2.1 rfl (lv_at hl 1 rfl) ?_
    have hin := hp.1
    have hp := hp.2
    refine va_iald hx hb hK hP 1 0 rfl rfl hin eX10_row_0.2.2.2.2.2.2.2.2.2.2.2.2.2.2.1 ?_
    refine lv_topi (fun v_5 ev_5 => ?_)
    have hp := hp v_5 ev_5
    refine lv_goto (tgt := 32) hx hb eX10_row_0.2.2.2.2.2.2.2.2.2.2.2.2.2.2.2 (by decide) ?_
    exact W.iret (v := v_5) hx hb hr (fun t ht hW => ⟨⟨v_5, 0, rfl, hp, by rw [ht]; exact hP, va_K.moved hW.alike hK, hD⟩, hS.F ht⟩) hS.2.2 eX10_row_28.2.2
