noncomputable abbrev wd_X8_add (cI cC cZ cB cJ : ClassId) (xG uT : Nat) (qI qJ rY : Int32) (qM : Nat → Int32) : va_W := [(xG, .inr (8, [.ref uT, .int qI, .int qJ, .int rY])), (uT, .inl (cC, 80, .inl qM))]
noncomputable abbrev q_X8_add (dC : Nat → ClassId) (dI : Nat → Nat → Nat) (cI cC cZ cB cJ : ClassId) (A : Nat → Prop) (xG uT : Nat) (qJ rY : Int32) (post : Int32 → Int32 → (Nat → Int32) → Prop) : Array Value → State → Outcome → State → Prop := va_Qi (fun (r : Int32) (u : Int32 × (Nat → Int32)) => post r u.1 u.2) (fun u t => gB (dC, dI) (tyl cI cC cZ cB cJ) A (wd_X8_add cI cC cZ cB cJ xG uT u.1 qJ rY u.2) t) A
noncomputable abbrev rm_X8_add : Room := { frames := 0, cells := 0, slots := 0, locals := 0 }
section S_X8_add
variable {p : Program} {l : Launch} {e : Env} {s : State} {m : MethodId} {args : Array Value} {below : List Frame} {meth : Method} {c : Code} {dC : Nat → ClassId} {dI : Nat → Nat → Nat} {cI cC cZ cB cJ : ClassId} {A : Nat → Prop} {xG uT : Nat} {qJ rY : Int32} {post : Int32 → Int32 → (Nat → Int32) → Prop}
noncomputable def ws_X8_add_14 (post : Int32 → Int32 → (Nat → Int32) → Prop) (next : Int32 → Int32 → Int32 → (Nat → Int32) → Prop) (x1 x2 qI : Int32) (qM : Nat → Int32) : Prop := (x2 < 0 → post qI qI qM) ∧ (¬ x2 < 0 → ∀ v_1 : Int32, v_1 = (x1.toUInt32 >>> (x2.toUInt32 &&& Int32.toUInt32 31)).toInt32 → ∀ v_2 : Int32, v_2 = ((v_1 &&& 255).toUInt32 % 65536).toInt32 → vp_in qI 80 ∧ (∀ v_3 : Int32, v_3 = qI + 1 → ∀ v_4 : Int32, v_4 = x2 + (-8) → next x1 v_4 v_3 (upd qM qI.toNatClampNeg (vp_nar .char v_2))))
noncomputable def wb_X8_add_14 (post : Int32 → Int32 → (Nat → Int32) → Prop) : Nat → Int32 → Int32 → Int32 → (Nat → Int32) → Prop := fun n => Nat.rec (motive := fun _ => Int32 → Int32 → Int32 → (Nat → Int32) → Prop) (fun _ _ _ _ => False) (fun _ ih => ws_X8_add_14 post ih) n
set_option maxHeartbeats 4000000 in
set_option maxRecDepth 100000 in
theorem ks_X8_add_14 (C0 : gc cX8_add (some .int) 3 RX8 (dC, dI) (tyl cI cC cZ cB cJ) A p s m args meth c) {next : Int32 → Int32 → Int32 → (Nat → Int32) → Prop} (hKn : ∀ (x1 : Int32) (x2 : Int32) (qI : Int32) (qM : Nat → Int32) (H : Heap) (locs : List Loc) (ls : Array Slot), next x1 x2 qI qM → va_P (dC, dI) classes (wd_X8_add cI cC cZ cB cJ xG uT qI qJ rY qM) H → va_D A (wd_X8_add cI cC cZ cB cJ xG uT qI qJ rY qM) → va_S A s.heap H locs → lv_has ls 3 [(0, .ref xG), (1, .int x1), (2, .int x2)] → W p l e rm_X8_add s m args below meth c H locs 0 0 (MQ below (q_X8_add dC dI cI cC cZ cB cJ A xG uT qJ rY post) args s 0 0 A) (F0 m 14 ls [])) : ∀ (x1 x2 qI : Int32) (qM : Nat → Int32) (H : Heap) (locs : List Loc) (ls : Array Slot), (ws_X8_add_14 post next) x1 x2 qI qM → va_P (dC, dI) classes (wd_X8_add cI cC cZ cB cJ xG uT qI qJ rY qM) H → va_D A (wd_X8_add cI cC cZ cB cJ xG uT qI qJ rY qM) → va_S A s.heap H locs → lv_has ls 3 [(0, .ref xG), (1, .int x1), (2, .int x2)] → W p l e rm_X8_add s m args below meth c H locs 0 0 (MQ below (q_X8_add dC dI cI cC cZ cB cJ A xG uT qJ rY post) args s 0 0 A) (F0 m 14 ls []) := by
  obtain ⟨hx, hb, hr, hml, hown, hts, hlocks, hA, hK, hN, tL, tM, hZL, hTL, hZM, hTM, hZX⟩ := id C0
  intro x1 x2 qI qM H locs ls hp hP hD hS hl
  unfold ws_X8_add_14 at hp
  refine lv_iload_n hx hb eX8_add_0.2.2.2.2.2.2.2.2.1 rfl (lv_at hl 2 rfl) ?_
  refine lv_if_lt (tgt := 51) hx hb eX8_add_0.2.2.2.2.2.2.2.2.2.1 (by decide) (fun hc => ?_) (fun hc => ?_)
  · have hp := hp.1 hc
    refine lv_aload_n hx hb eX8_add_28.2.2.2.2.2.2.2.2.2.2.2.2.2.1 rfl (lv_at hl 0 rfl) ?_
    refine va_get (D := (dC, dI)) (ci := 8) (v := .int qI) (C := RX8) (T := TX8) (N := 4) hx hb hts i_X8 hown hK hP 0 rfl rfl 1 (Nat.le_of_ble_eq_true rfl) (hts _ q_1) (fun _ h9 => h9) rfl eX8_add_28.2.2.2.2.2.2.2.2.2.2.2.2.2.2.1 ?_
    exact W.iret (v := qI) hx hb hr (fun t ht hW => ⟨⟨qI, (qI, qM), rfl, hp, by rw [ht]; exact hP, va_K.moved hW.alike hK, hD⟩, hS.F ht⟩) hS.2.2 eX8_add_28.2.2.2.2.2.2.2.2.2.2.2.2.2.2.2
  · have hp := hp.2 hc
    refine lv_aload_n hx hb eX8_add_0.2.2.2.2.2.2.2.2.2.2.1 rfl (lv_at hl 0 rfl) ?_
    refine va_get (D := (dC, dI)) (ci := 8) (v := .ref uT) (C := RX8) (T := TX8) (N := 4) hx hb hts i_X8 hown hK hP 0 rfl rfl 0 (Nat.le_of_ble_eq_true rfl) (hts _ q_2) (fun _ h9 => h9) rfl eX8_add_0.2.2.2.2.2.2.2.2.2.2.2.1 ?_
    refine lv_aload_n hx hb eX8_add_0.2.2.2.2.2.2.2.2.2.2.2.2.1 rfl (lv_at hl 0 rfl) ?_
    refine va_get (D := (dC, dI)) (ci := 8) (v := .int qI) (C := RX8) (T := TX8) (N := 4) hx hb hts i_X8 hown hK hP 0 rfl rfl 1 (Nat.le_of_ble_eq_true rfl) (hts _ q_1) (fun _ h9 => h9) rfl eX8_add_0.2.2.2.2.2.2.2.2.2.2.2.2.2.1 ?_
    refine lv_iload_n hx hb eX8_add_0.2.2.2.2.2.2.2.2.2.2.2.2.2.2.1 rfl (lv_at hl 1 rfl) ?_
    refine lv_iload_n hx hb eX8_add_0.2.2.2.2.2.2.2.2.2.2.2.2.2.2.2 rfl (lv_at hl 2 rfl) ?_
    refine lv_iushr hx hb eX8_add_28.1 rfl ?_
    refine lv_topi (fun v_1 ev_1 => ?_)
    have hp := hp v_1 ev_1
    refine lv_sipush (v := 255) hx hb eX8_add_28.2.1 sp_255 ?_
    refine lv_iand hx hb eX8_add_28.2.2.1 ?_
    refine lv_i2c hx hb eX8_add_28.2.2.2.1 rfl ?_
    refine lv_topi (fun v_2 ev_2 => ?_)
    have hp := hp v_2 ev_2
    have hin := hp.1
    have hp := hp.2
    refine va_cast hx hb hK hP hD hS 1 1 rfl rfl hin eX8_add_28.2.2.2.2.1 (fun H locs hP hD hS => ?_)
    have hP : va_P (dC, dI) classes (wd_X8_add cI cC cZ cB cJ xG uT qI qJ rY (upd qM qI.toNatClampNeg (vp_nar .char v_2))) H := hP
    have hD : va_D A (wd_X8_add cI cC cZ cB cJ xG uT qI qJ rY (upd qM qI.toNatClampNeg (vp_nar .char v_2))) := hD
    refine lv_aload_n hx hb eX8_add_28.2.2.2.2.2.1 rfl (lv_at hl 0 rfl) ?_
    refine lv_dup hx hb eX8_add_28.2.2.2.2.2.2.1 rfl ?_
    refine va_get (D := (dC, dI)) (ci := 8) (v := .int qI) (C := RX8) (T := TX8) (N := 4) hx hb hts i_X8 hown hK hP 0 rfl rfl 1 (Nat.le_of_ble_eq_true rfl) (hts _ q_1) (fun _ h9 => h9) rfl eX8_add_28.2.2.2.2.2.2.2.1 ?_
    refine lv_iconst (v := 1) hx hb eX8_add_28.2.2.2.2.2.2.2.2.1 ic_1 ?_
    refine lv_iadd hx hb eX8_add_28.2.2.2.2.2.2.2.2.2.1 ?_
    refine lv_topi (fun v_3 ev_3 => ?_)
    have hp := hp v_3 ev_3
    refine va_put (D := (dC, dI)) (ci := 8) (v := .int v_3) (ty := .int) (C := RX8) (T := TX8) (N := 4) hx hb hts i_X8 tyX8 tyX8_ok nmX8 hown hK hP hD hS 0 rfl rfl 1 (Nat.le_of_ble_eq_true rfl) (hts _ q_1) (fun _ h9 => h9) rfl (tyX8_ok 1 (Nat.le_of_ble_eq_true rfl)) rfl rfl (Nat.le_of_ble_eq_true rfl) eX8_add_28.2.2.2.2.2.2.2.2.2.2.1 (fun H locs hP hD hS => ?_)
    have hP : va_P (dC, dI) classes (wd_X8_add cI cC cZ cB cJ xG uT v_3 qJ rY (upd qM qI.toNatClampNeg (vp_nar .char v_2))) H := hP
    have hD : va_D A (wd_X8_add cI cC cZ cB cJ xG uT v_3 qJ rY (upd qM qI.toNatClampNeg (vp_nar .char v_2))) := hD
    obtain ⟨v_4, ev_4⟩ : ∃ y : Int32, y = x2 + (-8) := ⟨_, rfl⟩
    refine lv_iinc (v := v_4) (lv' := [(2, .int v_4), (0, .ref xG), (1, .int x1)]) hx hb eX8_add_28.2.2.2.2.2.2.2.2.2.2.2.1 hl (k := 2) rfl (by rw [ev_4]; rfl) (by decide) rfl (fun ls hl => ?_)
    have hp := hp v_4 ev_4
    refine lv_goto (tgt := 14) hx hb eX8_add_28.2.2.2.2.2.2.2.2.2.2.2.2.1 (by decide) ?_
    exact hKn x1 v_4 v_3 (upd qM qI.toNatClampNeg (vp_nar .char v_2)) H locs ls hp hP hD hS (lv_sub hl [1, 2, 0] rfl)
set_option maxHeartbeats 4000000 in
set_option maxRecDepth 100000 in
theorem kb_X8_add_14 (C0 : gc cX8_add (some .int) 3 RX8 (dC, dI) (tyl cI cC cZ cB cJ) A p s m args meth c) : ∀ (n : Nat), ∀ (x1 x2 qI : Int32) (qM : Nat → Int32) (H : Heap) (locs : List Loc) (ls : Array Slot), (wb_X8_add_14 post n) x1 x2 qI qM → va_P (dC, dI) classes (wd_X8_add cI cC cZ cB cJ xG uT qI qJ rY qM) H → va_D A (wd_X8_add cI cC cZ cB cJ xG uT qI qJ rY qM) → va_S A s.heap H locs → lv_has ls 3 [(0, .ref xG), (1, .int x1), (2, .int x2)] → W p l e rm_X8_add s m args below meth c H locs 0 0 (MQ below (q_X8_add dC dI cI cC cZ cB cJ A xG uT qJ rY post) args s 0 0 A) (F0 m 14 ls []) := by
  intro n
  induction n with
  | zero =>
    intro x1 x2 qI qM H locs ls hp
    exact False.elim hp
  | succ n ih =>
    intro x1 x2 qI qM H locs ls hp
    exact ks_X8_add_14 C0 ih x1 x2 qI qM H locs ls hp
end S_X8_add
noncomputable def wp_X8_add (post : Int32 → Int32 → (Nat → Int32) → Prop) (p0 qI : Int32) (qM : Nat → Int32) : Prop := (qI ≤ 76 → ∃ n : Nat, wb_X8_add_14 post n p0 24 qI qM) ∧ (¬ qI ≤ 76 → post (-1) qI qM)
set_option maxHeartbeats 4000000 in
set_option maxRecDepth 100000 in
theorem c_X8_add (l : Launch) (dC : Nat → ClassId) (dI : Nat → Nat → Nat) (cI cC cZ cB cJ : ClassId) (xG uT sz : Nat) (p0 qI qJ rY : Int32) (qM : Nat → Int32) (post : Int32 → Int32 → (Nat → Int32) → Prop) (hw : wp_X8_add post p0 qI qM) : Met l yX8_add (gw yX8_add cX8_add 3 (some .int)) rm_X8_add (va_Pc [.ref xG, .int p0] (gPre (dC, dI) (tyl cI cC cZ cB cJ) (wd_X8_add cI cC cZ cB cJ xG uT qI qJ rY qM) sz)) (q_X8_add dC dI cI cC cZ cB cJ (va_A (wd_X8_add cI cC cZ cB cJ xG uT qI qJ rY qM) sz) xG uT qJ rY post) 0 0 (va_A (wd_X8_add cI cC cZ cB cJ xG uT qI qJ rY qM) sz) := by
  refine g_enter (own := RX8) (dC, dI) (tyl cI cC cZ cB cJ) (wd_X8_add cI cC cZ cB cJ xG uT qI qJ rY qM) sz [.ref xG, .int p0] (fun A => q_X8_add dC dI cI cC cZ cB cJ A xG uT qJ rY post) pn_RX8 rfl (Nat.le_of_ble_eq_true rfl) ?_
  intro p e s m args below meth c A H locs ls C0 hP hD hS hl
  have hl : lv_has ls 3 [(0, .ref xG), (1, .int p0)] := hl
  obtain ⟨hx, hb, hr, hml, hown, hts, hlocks, hA, hK, hN, tL, tM, hZL, hTL, hZM, hTM, hZX⟩ := id C0
  have hp := hw
  unfold wp_X8_add at hp
  refine lv_aload_n hx hb eX8_add_0.1 rfl (lv_at hl 0 rfl) ?_
  refine va_get (D := (dC, dI)) (ci := 8) (v := .int qI) (C := RX8) (T := TX8) (N := 4) hx hb hts i_X8 hown hK hP 0 rfl rfl 1 (Nat.le_of_ble_eq_true rfl) (hts _ q_1) (fun _ h9 => h9) rfl eX8_add_0.2.1 ?_
  refine lv_bipush (v := 76) hx hb eX8_add_0.2.2.1 bp_76 ?_
  refine lv_icmp_le (tgt := 11) hx hb eX8_add_0.2.2.2.1 (by decide) (fun hc => ?_) (fun hc => ?_)
  · have hp := hp.1 hc
    refine lv_bipush (v := 24) hx hb eX8_add_0.2.2.2.2.2.2.1 bp_24 ?_
    refine lv_istore_n (lv' := [(2, .int 24), (0, .ref xG), (1, .int p0)]) hx hb eX8_add_0.2.2.2.2.2.2.2.1 rfl hl (by decide) rfl (fun ls hl => ?_)
    obtain ⟨n9, hp⟩ := hp
    exact kb_X8_add_14 C0 n9 p0 24 qI qM H locs ls hp hP hD hS (lv_sub hl [1, 2, 0] rfl)
  · have hp := hp.2 hc
    refine lv_iconst (v := (-1)) hx hb eX8_add_0.2.2.2.2.1 ic_m1 ?_
    exact W.iret (v := (-1)) hx hb hr (fun t ht hW => ⟨⟨(-1), (qI, qM), rfl, hp, by rw [ht]; exact hP, va_K.moved hW.alike hK, hD⟩, hS.F ht⟩) hS.2.2 eX8_add_0.2.2.2.2.2.1
noncomputable abbrev wd_X9_sign (cI cC cZ cB cJ : ClassId) (a_x xG xD wY wJ wQ xI xK xJ tW uT : Nat) (qI qJ rY : Int32) (qM : Nat → Int32) : va_W := [(a_x, .inr (9, [.ref xG, .ref xD, .ref wY, .ref wJ, .ref wQ, .ref xI, .ref xK, .ref xJ, .ref tW])), (xG, .inr (8, [.ref uT, .int qI, .int qJ, .int rY])), (uT, .inl (cC, 80, .inl qM))]
noncomputable abbrev q_X9_sign (dC : Nat → ClassId) (dI : Nat → Nat → Nat) (cI cC cZ cB cJ : ClassId) (A : Nat → Prop) (a_x xG xD wY wJ wQ xI xK xJ tW uT : Nat) (qJ rY : Int32) (post : Int32 → Int32 → (Nat → Int32) → Prop) : Array Value → State → Outcome → State → Prop := va_Qi (fun (r : Int32) (u : Int32 × (Nat → Int32)) => post r u.1 u.2) (fun u t => gB (dC, dI) (tyl cI cC cZ cB cJ) A (wd_X9_sign cI cC cZ cB cJ a_x xG xD wY wJ wQ xI xK xJ tW uT u.1 qJ rY u.2) t) A
noncomputable abbrev rm_X9_sign : Room := { frames := 1, cells := 0, slots := 0, locals := 22 }
noncomputable def wp_X9_sign (post : Int32 → Int32 → (Nat → Int32) → Prop) (p0 qI : Int32) (qM : Nat → Int32) : Prop := wp_X8_add (fun r_1 aE9 tx_signs_3 => post r_1 aE9 tx_signs_3) p0 qI qM
set_option maxHeartbeats 4000000 in
set_option maxRecDepth 100000 in
theorem c_X9_sign (l : Launch) (dC : Nat → ClassId) (dI : Nat → Nat → Nat) (cI cC cZ cB cJ : ClassId) (a_x xG xD wY wJ wQ xI xK xJ tW uT sz : Nat) (p0 qI qJ rY : Int32) (qM : Nat → Int32) (post : Int32 → Int32 → (Nat → Int32) → Prop) (hw : wp_X9_sign post p0 qI qM) : Met l yX9_sign (gw yX9_sign cX9_sign 2 (some .int)) rm_X9_sign (va_Pc [.ref a_x, .int p0] (gPre (dC, dI) (tyl cI cC cZ cB cJ) (wd_X9_sign cI cC cZ cB cJ a_x xG xD wY wJ wQ xI xK xJ tW uT qI qJ rY qM) sz)) (q_X9_sign dC dI cI cC cZ cB cJ (va_A (wd_X9_sign cI cC cZ cB cJ a_x xG xD wY wJ wQ xI xK xJ tW uT qI qJ rY qM) sz) a_x xG xD wY wJ wQ xI xK xJ tW uT qJ rY post) 0 0 (va_A (wd_X9_sign cI cC cZ cB cJ a_x xG xD wY wJ wQ xI xK xJ tW uT qI qJ rY qM) sz) := by
  refine g_enter (own := RX9) (dC, dI) (tyl cI cC cZ cB cJ) (wd_X9_sign cI cC cZ cB cJ a_x xG xD wY wJ wQ xI xK xJ tW uT qI qJ rY qM) sz [.ref a_x, .int p0] (fun A => q_X9_sign dC dI cI cC cZ cB cJ A a_x xG xD wY wJ wQ xI xK xJ tW uT qJ rY post) pn_RX9 rfl (Nat.le_of_ble_eq_true rfl) ?_
  intro p e s m args below meth c A H locs ls C0 hP hD hS hl
  have hl : lv_has ls 2 [(0, .ref a_x), (1, .int p0)] := hl
  obtain ⟨hx, hb, hr, hml, hown, hts, hlocks, hA, hK, hN, tL, tM, hZL, hTL, hZM, hTM, hZX⟩ := id C0
  have hp := hw
  unfold wp_X9_sign at hp
  refine lv_aload_n hx hb eX9_sign_0.1 rfl (lv_at hl 0 rfl) ?_
  refine va_get (D := (dC, dI)) (ci := 9) (v := .ref xG) (C := RX9) (T := TX9) (N := 9) hx hb hts i_X9 hown hK hP 0 rfl rfl 0 (Nat.le_of_ble_eq_true rfl) (hts _ q_3) (fun _ h9 => h9) rfl eX9_sign_0.2.1 ?_
  refine lv_iload_n hx hb eX9_sign_0.2.2.1 rfl (lv_at hl 1 rfl) ?_
  have hm := mgk (wc := (wd_X8_add cI cC cZ cB cJ xG uT qI qJ rY qM)) hP mk_0 3 rfl rfl rfl
  refine g_calli hP hD hS hA (mixT mk_0) (mixF mk_0) hm.1 hm.2 (nd_F _) (dis_g _) (g_runV (As := [.int p0]) (rest := []) C0 hP hD hS (mixT mk_0) hm.1 (nd_T _) 1 8 rfl rfl (c_X8_add l dC dI cI cC cZ cB cJ xG uT H.size p0 qI qJ rY qM _ hp) q_4 q_8 q_6 q_7 q_5 h_X8_add rfl rfl ⟨Nat.le_of_ble_eq_true rfl, Nat.le_of_ble_eq_true rfl⟩ rfl rfl hl.1 rfl (lv_room (Nat.le_of_ble_eq_true rfl)) eX9_sign_0.2.2.2.1 ⟨Nat.zero_le _, Nat.zero_le _⟩) (fun r_1 u H locs hp hP hD hS => ?_)
  obtain ⟨aE9, tx_signs_3⟩ := u
  have hPD := PDm (ws' := (wd_X9_sign cI cC cZ cB cJ a_x xG xD wY wJ wQ xI xK xJ tW uT aE9 qJ rY tx_signs_3)) hP hD 3 rfl rfl rfl
  have hP := hPD.1
  have hD := hPD.2
  exact W.iret (v := r_1) hx hb hr (fun t ht hW => ⟨⟨r_1, (aE9, tx_signs_3), rfl, hp, by rw [ht]; exact hP, va_K.moved hW.alike hK, hD⟩, hS.F ht⟩) hS.2.2 eX9_sign_0.2.2.2.2
noncomputable abbrev wd_X8_cut (cI cC cZ cB cJ : ClassId) (xG uT : Nat) (qI qJ rY : Int32) : va_W := [(xG, .inr (8, [.ref uT, .int qI, .int qJ, .int rY]))]
noncomputable abbrev q_X8_cut (dC : Nat → ClassId) (dI : Nat → Nat → Nat) (cI cC cZ cB cJ : ClassId) (A : Nat → Prop) (xG uT : Nat) (qJ rY : Int32) (post : Int32 → Int32 → Prop) : Array Value → State → Outcome → State → Prop := va_Qi (fun (r u : Int32) => post r u) (fun u t => gB (dC, dI) (tyl cI cC cZ cB cJ) A (wd_X8_cut cI cC cZ cB cJ xG uT u qJ rY) t) A
noncomputable abbrev rm_X8_cut : Room := { frames := 0, cells := 0, slots := 0, locals := 0 }
noncomputable def wp_X8_cut (post : Int32 → Int32 → Prop) (p0 qI : Int32) : Prop := (p0 < 0 → post 0 qI) ∧ (¬ p0 < 0 → (p0 ≤ qI → post 1 p0) ∧ (¬ p0 ≤ qI → post 0 qI))
set_option maxHeartbeats 4000000 in
set_option maxRecDepth 100000 in
theorem c_X8_cut (l : Launch) (dC : Nat → ClassId) (dI : Nat → Nat → Nat) (cI cC cZ cB cJ : ClassId) (xG uT sz : Nat) (p0 qI qJ rY : Int32) (post : Int32 → Int32 → Prop) (hw : wp_X8_cut post p0 qI) : Met l yX8_cut (gw yX8_cut cX8_cut 2 (some .boolean)) rm_X8_cut (va_Pc [.ref xG, .int p0] (gPre (dC, dI) (tyl cI cC cZ cB cJ) (wd_X8_cut cI cC cZ cB cJ xG uT qI qJ rY) sz)) (q_X8_cut dC dI cI cC cZ cB cJ (va_A (wd_X8_cut cI cC cZ cB cJ xG uT qI qJ rY) sz) xG uT qJ rY post) 0 0 (va_A (wd_X8_cut cI cC cZ cB cJ xG uT qI qJ rY) sz) := by
  refine g_enter (own := RX8) (dC, dI) (tyl cI cC cZ cB cJ) (wd_X8_cut cI cC cZ cB cJ xG uT qI qJ rY) sz [.ref xG, .int p0] (fun A => q_X8_cut dC dI cI cC cZ cB cJ A xG uT qJ rY post) pn_RX8 rfl (Nat.le_of_ble_eq_true rfl) ?_
  intro p e s m args below meth c A H locs ls C0 hP hD hS hl
  have hl : lv_has ls 2 [(0, .ref xG), (1, .int p0)] := hl
  obtain ⟨hx, hb, hr, hml, hown, hts, hlocks, hA, hK, hN, tL, tM, hZL, hTL, hZM, hTM, hZX⟩ := id C0
  have hp := hw
  unfold wp_X8_cut at hp
  refine lv_iload_n hx hb eX8_cut_0.1 rfl (lv_at hl 1 rfl) ?_
  refine lv_if_lt (tgt := 12) hx hb eX8_cut_0.2.1 (by decide) (fun hc => ?_) (fun hc => ?_)
  · have hp := hp.1 hc
    refine lv_iconst (v := 0) hx hb eX8_cut_0.2.2.2.2.2.2.1 ic_0 ?_
    exact W.zret (v := 0) hx hb hr rfl (fun t ht hW => ⟨⟨0, qI, rfl, hp, by rw [ht]; exact hP, va_K.moved hW.alike hK, hD⟩, hS.F ht⟩) hS.2.2 eX8_cut_0.2.2.2.2.2.2.2.1
  · have hp := hp.2 hc
    refine lv_iload_n hx hb eX8_cut_0.2.2.1 rfl (lv_at hl 1 rfl) ?_
    refine lv_aload_n hx hb eX8_cut_0.2.2.2.1 rfl (lv_at hl 0 rfl) ?_
    refine va_get (D := (dC, dI)) (ci := 8) (v := .int qI) (C := RX8) (T := TX8) (N := 4) hx hb hts i_X8 hown hK hP 0 rfl rfl 1 (Nat.le_of_ble_eq_true rfl) (hts _ q_1) (fun _ h9 => h9) rfl eX8_cut_0.2.2.2.2.1 ?_
    refine lv_icmp_le (tgt := 14) hx hb eX8_cut_0.2.2.2.2.2.1 (by decide) (fun hc => ?_) (fun hc => ?_)
    · have hp := hp.1 hc
      refine lv_aload_n hx hb eX8_cut_0.2.2.2.2.2.2.2.2.1 rfl (lv_at hl 0 rfl) ?_
      refine lv_iload_n hx hb eX8_cut_0.2.2.2.2.2.2.2.2.2.1 rfl (lv_at hl 1 rfl) ?_
      refine va_put (D := (dC, dI)) (ci := 8) (v := .int p0) (ty := .int) (C := RX8) (T := TX8) (N := 4) hx hb hts i_X8 tyX8 tyX8_ok nmX8 hown hK hP hD hS 0 rfl rfl 1 (Nat.le_of_ble_eq_true rfl) (hts _ q_1) (fun _ h9 => h9) rfl (tyX8_ok 1 (Nat.le_of_ble_eq_true rfl)) rfl rfl (Nat.le_of_ble_eq_true rfl) eX8_cut_0.2.2.2.2.2.2.2.2.2.2.1 (fun H locs hP hD hS => ?_)
      have hP : va_P (dC, dI) classes (wd_X8_cut cI cC cZ cB cJ xG uT p0 qJ rY) H := hP
      have hD : va_D A (wd_X8_cut cI cC cZ cB cJ xG uT p0 qJ rY) := hD
      refine lv_iconst (v := 1) hx hb eX8_cut_0.2.2.2.2.2.2.2.2.2.2.2.1 ic_1 ?_
      exact W.zret (v := 1) hx hb hr rfl (fun t ht hW => ⟨⟨1, p0, rfl, hp, by rw [ht]; exact hP, va_K.moved hW.alike hK, hD⟩, hS.F ht⟩) hS.2.2 eX8_cut_0.2.2.2.2.2.2.2.2.2.2.2.2
    · have hp := hp.2 hc
      refine lv_iconst (v := 0) hx hb eX8_cut_0.2.2.2.2.2.2.1 ic_0 ?_
      exact W.zret (v := 0) hx hb hr rfl (fun t ht hW => ⟨⟨0, qI, rfl, hp, by rw [ht]; exact hP, va_K.moved hW.alike hK, hD⟩, hS.F ht⟩) hS.2.2 eX8_cut_0.2.2.2.2.2.2.2.1
noncomputable abbrev wd_X9_end (cI cC cZ cB cJ : ClassId) (a_x xG xD wY wJ wQ xI xK xJ tW uT : Nat) (qI qJ rY : Int32) : va_W := [(a_x, .inr (9, [.ref xG, .ref xD, .ref wY, .ref wJ, .ref wQ, .ref xI, .ref xK, .ref xJ, .ref tW])), (xG, .inr (8, [.ref uT, .int qI, .int qJ, .int rY]))]
noncomputable abbrev q_X9_end (dC : Nat → ClassId) (dI : Nat → Nat → Nat) (cI cC cZ cB cJ : ClassId) (A : Nat → Prop) (a_x xG xD wY wJ wQ xI xK xJ tW uT : Nat) (qJ rY : Int32) (post : Int32 → Int32 → Prop) : Array Value → State → Outcome → State → Prop := va_Qi (fun (r u : Int32) => post r u) (fun u t => gB (dC, dI) (tyl cI cC cZ cB cJ) A (wd_X9_end cI cC cZ cB cJ a_x xG xD wY wJ wQ xI xK xJ tW uT u qJ rY) t) A
noncomputable abbrev rm_X9_end : Room := { frames := 1, cells := 0, slots := 0, locals := 21 }
noncomputable def wp_X9_end (post : Int32 → Int32 → Prop) (p0 qI : Int32) : Prop := wp_X8_cut (fun r_1 aE9 => narrow .boolean (.int r_1) = .int r_1 ∧ post r_1 aE9) p0 qI
set_option maxHeartbeats 4000000 in
set_option maxRecDepth 100000 in
theorem c_X9_end (l : Launch) (dC : Nat → ClassId) (dI : Nat → Nat → Nat) (cI cC cZ cB cJ : ClassId) (a_x xG xD wY wJ wQ xI xK xJ tW uT sz : Nat) (p0 qI qJ rY : Int32) (post : Int32 → Int32 → Prop) (hw : wp_X9_end post p0 qI) : Met l yX9_end (gw yX9_end cX9_end 2 (some .boolean)) rm_X9_end (va_Pc [.ref a_x, .int p0] (gPre (dC, dI) (tyl cI cC cZ cB cJ) (wd_X9_end cI cC cZ cB cJ a_x xG xD wY wJ wQ xI xK xJ tW uT qI qJ rY) sz)) (q_X9_end dC dI cI cC cZ cB cJ (va_A (wd_X9_end cI cC cZ cB cJ a_x xG xD wY wJ wQ xI xK xJ tW uT qI qJ rY) sz) a_x xG xD wY wJ wQ xI xK xJ tW uT qJ rY post) 0 0 (va_A (wd_X9_end cI cC cZ cB cJ a_x xG xD wY wJ wQ xI xK xJ tW uT qI qJ rY) sz) := by
  refine g_enter (own := RX9) (dC, dI) (tyl cI cC cZ cB cJ) (wd_X9_end cI cC cZ cB cJ a_x xG xD wY wJ wQ xI xK xJ tW uT qI qJ rY) sz [.ref a_x, .int p0] (fun A => q_X9_end dC dI cI cC cZ cB cJ A a_x xG xD wY wJ wQ xI xK xJ tW uT qJ rY post) pn_RX9 rfl (Nat.le_of_ble_eq_true rfl) ?_
  intro p e s m args below meth c A H locs ls C0 hP hD hS hl
  have hl : lv_has ls 2 [(0, .ref a_x), (1, .int p0)] := hl
  obtain ⟨hx, hb, hr, hml, hown, hts, hlocks, hA, hK, hN, tL, tM, hZL, hTL, hZM, hTM, hZX⟩ := id C0
  have hp := hw
  unfold wp_X9_end at hp
  refine lv_aload_n hx hb eX9_end_0.1 rfl (lv_at hl 0 rfl) ?_
  refine va_get (D := (dC, dI)) (ci := 9) (v := .ref xG) (C := RX9) (T := TX9) (N := 9) hx hb hts i_X9 hown hK hP 0 rfl rfl 0 (Nat.le_of_ble_eq_true rfl) (hts _ q_3) (fun _ h9 => h9) rfl eX9_end_0.2.1 ?_
  refine lv_iload_n hx hb eX9_end_0.2.2.1 rfl (lv_at hl 1 rfl) ?_
  refine g_calli (wc := (wd_X8_cut cI cC cZ cB cJ xG uT qI qJ rY)) hP hD hS hA [1] [0] rfl rfl rfl rfl (g_runV (As := [.int p0]) (rest := []) C0 hP hD hS [1] rfl rfl 1 8 rfl rfl (c_X8_cut l dC dI cI cC cZ cB cJ xG uT H.size p0 qI qJ rY _ hp) q_9 q_12 q_10 q_11 q_5 h_X8_cut rfl rfl ⟨Nat.le_of_ble_eq_true rfl, Nat.le_of_ble_eq_true rfl⟩ rfl rfl hl.1 rfl (lv_room (Nat.le_of_ble_eq_true rfl)) eX9_end_0.2.2.2.1 ⟨Nat.zero_le _, Nat.zero_le _⟩) (fun r_1 u H locs hp hP hD hS => ?_)
  obtain ⟨aE9, rfl⟩ : ∃ z, z = u := ⟨_, rfl⟩
  have hPD := PDs (ws' := (wd_X9_end cI cC cZ cB cJ a_x xG xD wY wJ wQ xI xK xJ tW uT aE9 qJ rY)) hP hD [0, 1] (by decide) rfl
  have hP := hPD.1
  have hD := hPD.2
  have hnz := hp.1
  have hp := hp.2
  exact W.zret (v := r_1) hx hb hr hnz (fun t ht hW => ⟨⟨r_1, aE9, rfl, hp, by rw [ht]; exact hP, va_K.moved hW.alike hK, hD⟩, hS.F ht⟩) hS.2.2 eX9_end_0.2.2.2.2
noncomputable abbrev wd_X8_open (cI cC cZ cB cJ : ClassId) (xG uT : Nat) (qI qJ rY : Int32) : va_W := [(xG, .inr (8, [.ref uT, .int qI, .int qJ, .int rY]))]
noncomputable abbrev q_X8_open (dC : Nat → ClassId) (dI : Nat → Nat → Nat) (cI cC cZ cB cJ : ClassId) (A : Nat → Prop) (xG uT : Nat) (qI : Int32) (post : Int32 → Int32 → Prop) : Array Value → State → Outcome → State → Prop := va_Qv (fun (u : Int32 × Int32) => post u.1 u.2) (fun u t => gB (dC, dI) (tyl cI cC cZ cB cJ) A (wd_X8_open cI cC cZ cB cJ xG uT qI u.1 u.2) t) A
noncomputable abbrev rm_X8_open : Room := { frames := 1, cells := 0, slots := 0, locals := 21 }
noncomputable def wp_X8_open (post : Int32 → Int32 → Prop) (p0 qI qJ rY : Int32) : Prop := ∀ v_1 : Int32, v_1 = (if p0 < qI then p0 else qI) → post 0 v_1
set_option maxHeartbeats 4000000 in
set_option maxRecDepth 100000 in
theorem c_X8_open (l : Launch) (dC : Nat → ClassId) (dI : Nat → Nat → Nat) (cI cC cZ cB cJ : ClassId) (xG uT sz : Nat) (p0 qI qJ rY : Int32) (post : Int32 → Int32 → Prop) (hw : wp_X8_open post p0 qI qJ rY) : Met l yX8_open (gw yX8_open cX8_open 2 none) rm_X8_open (va_Pc [.ref xG, .int p0] (gPre (dC, dI) (tyl cI cC cZ cB cJ) (wd_X8_open cI cC cZ cB cJ xG uT qI qJ rY) sz)) (q_X8_open dC dI cI cC cZ cB cJ (va_A (wd_X8_open cI cC cZ cB cJ xG uT qI qJ rY) sz) xG uT qI post) 0 0 (va_A (wd_X8_open cI cC cZ cB cJ xG uT qI qJ rY) sz) := by
  refine g_enter (own := RX8) (dC, dI) (tyl cI cC cZ cB cJ) (wd_X8_open cI cC cZ cB cJ xG uT qI qJ rY) sz [.ref xG, .int p0] (fun A => q_X8_open dC dI cI cC cZ cB cJ A xG uT qI post) pn_RX8 rfl (Nat.le_of_ble_eq_true rfl) ?_
  intro p e s m args below meth c A H locs ls C0 hP hD hS hl
  have hl : lv_has ls 2 [(0, .ref xG), (1, .int p0)] := hl
  obtain ⟨hx, hb, hr, hml, hown, hts, hlocks, hA, hK, hN, tL, tM, hZL, hTL, hZM, hTM, hZX⟩ := id C0
  have hp := hw
  unfold wp_X8_open at hp
  refine lv_aload_n hx hb eX8_open_0.1 rfl (lv_at hl 0 rfl) ?_
  refine lv_iconst (v := 0) hx hb eX8_open_0.2.1 ic_0 ?_
  refine va_put (D := (dC, dI)) (ci := 8) (v := .int 0) (ty := .int) (C := RX8) (T := TX8) (N := 4) hx hb hts i_X8 tyX8 tyX8_ok nmX8 hown hK hP hD hS 0 rfl rfl 2 (Nat.le_of_ble_eq_true rfl) (hts _ q_13) (fun _ h9 => h9) rfl (tyX8_ok 2 (Nat.le_of_ble_eq_true rfl)) rfl rfl (Nat.le_of_ble_eq_true rfl) eX8_open_0.2.2.1 (fun H locs hP hD hS => ?_)
  have hP : va_P (dC, dI) classes (wd_X8_open cI cC cZ cB cJ xG uT qI 0 rY) H := hP
  have hD : va_D A (wd_X8_open cI cC cZ cB cJ xG uT qI 0 rY) := hD
  refine lv_aload_n hx hb eX8_open_0.2.2.2.1 rfl (lv_at hl 0 rfl) ?_
  refine lv_aload_n hx hb eX8_open_0.2.2.2.2.1 rfl (lv_at hl 0 rfl) ?_
  refine va_get (D := (dC, dI)) (ci := 8) (v := .int qI) (C := RX8) (T := TX8) (N := 4) hx hb hts i_X8 hown hK hP 0 rfl rfl 1 (Nat.le_of_ble_eq_true rfl) (hts _ q_1) (fun _ h9 => h9) rfl eX8_open_0.2.2.2.2.2.1 ?_
  refine lv_iload_n hx hb eX8_open_0.2.2.2.2.2.2.1 rfl (lv_at hl 1 rfl) ?_
  refine va_mmin hx hb (by rw [hml]; exact hl.1.symm) hown (hts _ q_14) (hts _ q_15) (hts _ q_16) (hts _ q_17) (Nat.le_of_ble_eq_true rfl) (Nat.le_of_ble_eq_true rfl) (Nat.zero_le _) (Nat.zero_le _) eX8_open_0.2.2.2.2.2.2.2.1 ?_
  refine lv_topi (fun v_1 ev_1 => ?_)
  have hp := hp v_1 ev_1
  refine va_put (D := (dC, dI)) (ci := 8) (v := .int v_1) (ty := .int) (C := RX8) (T := TX8) (N := 4) hx hb hts i_X8 tyX8 tyX8_ok nmX8 hown hK hP hD hS 0 rfl rfl 3 (Nat.le_of_ble_eq_true rfl) (hts _ q_18) (fun _ h9 => h9) rfl (tyX8_ok 3 (Nat.le_of_ble_eq_true rfl)) rfl rfl (Nat.le_of_ble_eq_true rfl) eX8_open_0.2.2.2.2.2.2.2.2.1 (fun H locs hP hD hS => ?_)
  have hP : va_P (dC, dI) classes (wd_X8_open cI cC cZ cB cJ xG uT qI 0 v_1) H := hP
  have hD : va_D A (wd_X8_open cI cC cZ cB cJ xG uT qI 0 v_1) := hD
  exact W.vret hx hb hr (fun t ht hW => ⟨⟨(0, v_1), rfl, hp, by rw [ht]; exact hP, va_K.moved hW.alike hK, hD⟩, hS.F ht⟩) hS.2.2 eX8_open_0.2.2.2.2.2.2.2.2.2
noncomputable abbrev wd_X8_isThrough (cI cC cZ cB cJ : ClassId) (xG uT : Nat) (qI qJ rY : Int32) : va_W := [(xG, .inr (8, [.ref uT, .int qI, .int qJ, .int rY]))]
noncomputable abbrev q_X8_isThrough (dC : Nat → ClassId) (dI : Nat → Nat → Nat) (cI cC cZ cB cJ : ClassId) (A : Nat → Prop) (xG uT : Nat) (qI qJ rY : Int32) (post : Int32 → Prop) : Array Value → State → Outcome → State → Prop := va_Qi (fun (r : Int32) (u : Unit) => post r) (fun u t => gB (dC, dI) (tyl cI cC cZ cB cJ) A (wd_X8_isThrough cI cC cZ cB cJ xG uT qI qJ rY) t) A
noncomputable abbrev rm_X8_isThrough : Room := { frames := 0, cells := 0, slots := 0, locals := 0 }
noncomputable def wp_X8_isThrough (post : Int32 → Prop) (qI qJ : Int32) : Prop := (¬ qJ = qI → post 0) ∧ (qJ = qI → post 1)
set_option maxHeartbeats 4000000 in
set_option maxRecDepth 100000 in
theorem c_X8_isThrough (l : Launch) (dC : Nat → ClassId) (dI : Nat → Nat → Nat) (cI cC cZ cB cJ : ClassId) (xG uT sz : Nat) (qI qJ rY : Int32) (post : Int32 → Prop) (hw : wp_X8_isThrough post qI qJ) : Met l yX8_isThrough (gw yX8_isThrough cX8_isThrough 1 (some .boolean)) rm_X8_isThrough (va_Pc [.ref xG] (gPre (dC, dI) (tyl cI cC cZ cB cJ) (wd_X8_isThrough cI cC cZ cB cJ xG uT qI qJ rY) sz)) (q_X8_isThrough dC dI cI cC cZ cB cJ (va_A (wd_X8_isThrough cI cC cZ cB cJ xG uT qI qJ rY) sz) xG uT qI qJ rY post) 0 0 (va_A (wd_X8_isThrough cI cC cZ cB cJ xG uT qI qJ rY) sz) := by
  refine g_enter (own := RX8) (dC, dI) (tyl cI cC cZ cB cJ) (wd_X8_isThrough cI cC cZ cB cJ xG uT qI qJ rY) sz [.ref xG] (fun A => q_X8_isThrough dC dI cI cC cZ cB cJ A xG uT qI qJ rY post) pn_RX8 rfl (Nat.le_of_ble_eq_true rfl) ?_
  intro p e s m args below meth c A H locs ls C0 hP hD hS hl
  have hl : lv_has ls 1 [(0, .ref xG)] := hl
  obtain ⟨hx, hb, hr, hml, hown, hts, hlocks, hA, hK, hN, tL, tM, hZL, hTL, hZM, hTM, hZX⟩ := id C0
  have hp := hw
  unfold wp_X8_isThrough at hp
  refine lv_aload_n hx hb eX8_isThrough_0.1 rfl (lv_at hl 0 rfl) ?_
  refine va_get (D := (dC, dI)) (ci := 8) (v := .int qJ) (C := RX8) (T := TX8) (N := 4) hx hb hts i_X8 hown hK hP 0 rfl rfl 2 (Nat.le_of_ble_eq_true rfl) (hts _ q_13) (fun _ h9 => h9) rfl eX8_isThrough_0.2.1 ?_
  refine lv_aload_n hx hb eX8_isThrough_0.2.2.1 rfl (lv_at hl 0 rfl) ?_
  refine va_get (D := (dC, dI)) (ci := 8) (v := .int qI) (C := RX8) (T := TX8) (N := 4) hx hb hts i_X8 hown hK hP 0 rfl rfl 1 (Nat.le_of_ble_eq_true rfl) (hts _ q_1) (fun _ h9 => h9) rfl eX8_isThrough_0.2.2.2.1 ?_
  refine lv_icmp_ne (tgt := 15) hx hb eX8_isThrough_0.2.2.2.2.1 (by decide) (fun hc => ?_) (fun hc => ?_)
  · have hp := hp.1 hc
    refine lv_iconst (v := 0) hx hb eX8_isThrough_0.2.2.2.2.2.2.2.1 ic_0 ?_
    exact W.zret (v := 0) hx hb hr rfl (fun t ht hW => ⟨⟨0, (), rfl, hp, by rw [ht]; exact hP, va_K.moved hW.alike hK, hD⟩, hS.F ht⟩) hS.2.2 eX8_isThrough_0.2.2.2.2.2.2.2.2
  · have hp := hp.2 hc
    refine lv_iconst (v := 1) hx hb eX8_isThrough_0.2.2.2.2.2.1 ic_1 ?_
    refine lv_goto (tgt := 16) hx hb eX8_isThrough_0.2.2.2.2.2.2.1 (by decide) ?_
    exact W.zret (v := 1) hx hb hr rfl (fun t ht hW => ⟨⟨1, (), rfl, hp, by rw [ht]; exact hP, va_K.moved hW.alike hK, hD⟩, hS.F ht⟩) hS.2.2 eX8_isThrough_0.2.2.2.2.2.2.2.2
noncomputable abbrev wd_X3_takeLines (cI cC cZ cB cJ : ClassId) (wJ tX jE mX pD oO oQ eG : Nat) (bZ bD bI aI : Int32) : va_W := [(wJ, .inr (3, [.ref tX, .ref jE, .ref mX, .ref pD, .ref oO, .ref oQ, .ref eG, .int bZ, .int bD, .int bI, .int aI]))]
noncomputable abbrev q_X3_takeLines (dC : Nat → ClassId) (dI : Nat → Nat → Nat) (cI cC cZ cB cJ : ClassId) (A : Nat → Prop) (wJ tX jE mX pD oO oQ eG : Nat) (bI aI : Int32) (post : Int32 → Int32 → Prop) : Array Value → State → Outcome → State → Prop := va_Qv (fun (u : Int32 × Int32) => post u.1 u.2) (fun u t => gB (dC, dI) (tyl cI cC cZ cB cJ) A (wd_X3_takeLines cI cC cZ cB cJ wJ tX jE mX pD oO oQ eG u.1 u.2 bI aI) t) A
noncomputable abbrev rm_X3_takeLines : Room := { frames := 0, cells := 0, slots := 0, locals := 0 }
noncomputable def wp_X3_takeLines (post : Int32 → Int32 → Prop) (bZ bD bI aI : Int32) : Prop := post bI aI
set_option maxHeartbeats 4000000 in
set_option maxRecDepth 100000 in
theorem c_X3_takeLines (l : Launch) (dC : Nat → ClassId) (dI : Nat → Nat → Nat) (cI cC cZ cB cJ : ClassId) (wJ tX jE mX pD oO oQ eG sz : Nat) (bZ bD bI aI : Int32) (post : Int32 → Int32 → Prop) (hw : wp_X3_takeLines post bZ bD bI aI) : Met l yX3_takeLines (gw yX3_takeLines cX3_takeLines 1 none) rm_X3_takeLines (va_Pc [.ref wJ] (gPre (dC, dI) (tyl cI cC cZ cB cJ) (wd_X3_takeLines cI cC cZ cB cJ wJ tX jE mX pD oO oQ eG bZ bD bI aI) sz)) (q_X3_takeLines dC dI cI cC cZ cB cJ (va_A (wd_X3_takeLines cI cC cZ cB cJ wJ tX jE mX pD oO oQ eG bZ bD bI aI) sz) wJ tX jE mX pD oO oQ eG bI aI post) 0 0 (va_A (wd_X3_takeLines cI cC cZ cB cJ wJ tX jE mX pD oO oQ eG bZ bD bI aI) sz) := by
  refine g_enter (own := RX3) (dC, dI) (tyl cI cC cZ cB cJ) (wd_X3_takeLines cI cC cZ cB cJ wJ tX jE mX pD oO oQ eG bZ bD bI aI) sz [.ref wJ] (fun A => q_X3_takeLines dC dI cI cC cZ cB cJ A wJ tX jE mX pD oO oQ eG bI aI post) pn_RX3 rfl (Nat.le_of_ble_eq_true rfl) ?_
  intro p e s m args below meth c A H locs ls C0 hP hD hS hl
  have hl : lv_has ls 1 [(0, .ref wJ)] := hl
  obtain ⟨hx, hb, hr, hml, hown, hts, hlocks, hA, hK, hN, tL, tM, hZL, hTL, hZM, hTM, hZX⟩ := id C0
  have hp := hw
  unfold wp_X3_takeLines at hp
  refine lv_aload_n hx hb eX3_takeLines_0.1 rfl (lv_at hl 0 rfl) ?_
  refine lv_aload_n hx hb eX3_takeLines_0.2.1 rfl (lv_at hl 0 rfl) ?_
  refine va_get (D := (dC, dI)) (ci := 3) (v := .int bI) (C := RX3) (T := TX3) (N := 11) hx hb hts i_X3 hown hK hP 0 rfl rfl 9 (Nat.le_of_ble_eq_true rfl) (hts _ q_19) (fun _ h9 => h9) rfl eX3_takeLines_0.2.2.1 ?_
  refine va_put (D := (dC, dI)) (ci := 3) (v := .int bI) (ty := .int) (C := RX3) (T := TX3) (N := 11) hx hb hts i_X3 tyX3 tyX3_ok nmX3 hown hK hP hD hS 0 rfl rfl 7 (Nat.le_of_ble_eq_true rfl) (hts _ q_20) (fun _ h9 => h9) rfl (tyX3_ok 7 (Nat.le_of_ble_eq_true rfl)) rfl rfl (Nat.le_of_ble_eq_true rfl) eX3_takeLines_0.2.2.2.1 (fun H locs hP hD hS => ?_)
  have hP : va_P (dC, dI) classes (wd_X3_takeLines cI cC cZ cB cJ wJ tX jE mX pD oO oQ eG bI bD bI aI) H := hP
  have hD : va_D A (wd_X3_takeLines cI cC cZ cB cJ wJ tX jE mX pD oO oQ eG bI bD bI aI) := hD
  refine lv_aload_n hx hb eX3_takeLines_0.2.2.2.2.1 rfl (lv_at hl 0 rfl) ?_
  refine lv_aload_n hx hb eX3_takeLines_0.2.2.2.2.2.1 rfl (lv_at hl 0 rfl) ?_
  refine va_get (D := (dC, dI)) (ci := 3) (v := .int aI) (C := RX3) (T := TX3) (N := 11) hx hb hts i_X3 hown hK hP 0 rfl rfl 10 (Nat.le_of_ble_eq_true rfl) (hts _ q_21) (fun _ h9 => h9) rfl eX3_takeLines_0.2.2.2.2.2.2.1 ?_
  refine va_put (D := (dC, dI)) (ci := 3) (v := .int aI) (ty := .int) (C := RX3) (T := TX3) (N := 11) hx hb hts i_X3 tyX3 tyX3_ok nmX3 hown hK hP hD hS 0 rfl rfl 8 (Nat.le_of_ble_eq_true rfl) (hts _ q_22) (fun _ h9 => h9) rfl (tyX3_ok 8 (Nat.le_of_ble_eq_true rfl)) rfl rfl (Nat.le_of_ble_eq_true rfl) eX3_takeLines_0.2.2.2.2.2.2.2.1 (fun H locs hP hD hS => ?_)
  have hP : va_P (dC, dI) classes (wd_X3_takeLines cI cC cZ cB cJ wJ tX jE mX pD oO oQ eG bI aI bI aI) H := hP
  have hD : va_D A (wd_X3_takeLines cI cC cZ cB cJ wJ tX jE mX pD oO oQ eG bI aI bI aI) := hD
  exact W.vret hx hb hr (fun t ht hW => ⟨⟨(bI, aI), rfl, hp, by rw [ht]; exact hP, va_K.moved hW.alike hK, hD⟩, hS.F ht⟩) hS.2.2 eX3_takeLines_0.2.2.2.2.2.2.2.2
noncomputable abbrev wd_X4_forgetAll (cI cC cZ cB cJ : ClassId) (xI vX uO vQ : Nat) (oE uF : Int32) (tJ : Nat → Int32) : va_W := [(xI, .inr (4, [.ref vX, .ref uO, .ref vQ, .int oE, .int uF])), (vQ, .inl (cZ, 2, .inl tJ))]
noncomputable abbrev q_X4_forgetAll (dC : Nat → ClassId) (dI : Nat → Nat → Nat) (cI cC cZ cB cJ : ClassId) (A : Nat → Prop) (xI vX uO vQ : Nat) (uF : Int32) (post : Int32 → (Nat → Int32) → Prop) : Array Value → State → Outcome → State → Prop := va_Qv (fun (u : Int32 × (Nat → Int32)) => post u.1 u.2) (fun u t => gB (dC, dI) (tyl cI cC cZ cB cJ) A (wd_X4_forgetAll cI cC cZ cB cJ xI vX uO vQ u.1 uF u.2) t) A
noncomputable abbrev rm_X4_forgetAll : Room := { frames := 0, cells := 0, slots := 0, locals := 0 }
section S_X4_forgetAll
variable {p : Program} {l : Launch} {e : Env} {s : State} {m : MethodId} {args : Array Value} {below : List Frame} {meth : Method} {c : Code} {dC : Nat → ClassId} {dI : Nat → Nat → Nat} {cI cC cZ cB cJ : ClassId} {A : Nat → Prop} {xI vX uO vQ : Nat} {uF : Int32} {post : Int32 → (Nat → Int32) → Prop}
noncomputable def ws_X4_forgetAll_7 (post : Int32 → (Nat → Int32) → Prop) (next : Int32 → Int32 → (Nat → Int32) → Prop) (x1 oE : Int32) (tJ : Nat → Int32) : Prop := (2 ≤ x1 → post oE tJ) ∧ (¬ 2 ≤ x1 → vp_in x1 2 ∧ (∀ v_1 : Int32, v_1 = x1 + 1 → next v_1 oE (upd tJ x1.toNatClampNeg (vp_nar .boolean 0))))
noncomputable def wb_X4_forgetAll_7 (post : Int32 → (Nat → Int32) → Prop) : Nat → Int32 → Int32 → (Nat → Int32) → Prop := fun n => Nat.rec (motive := fun _ => Int32 → Int32 → (Nat → Int32) → Prop) (fun _ _ _ => False) (fun _ ih => ws_X4_forgetAll_7 post ih) n
set_option maxHeartbeats 4000000 in
set_option maxRecDepth 100000 in
theorem ks_X4_forgetAll_7 (C0 : gc cX4_forgetAll none 2 RX4 (dC, dI) (tyl cI cC cZ cB cJ) A p s m args meth c) {next : Int32 → Int32 → (Nat → Int32) → Prop} (hKn : ∀ (x1 : Int32) (oE : Int32) (tJ : Nat → Int32) (H : Heap) (locs : List Loc) (ls : Array Slot), next x1 oE tJ → va_P (dC, dI) classes (wd_X4_forgetAll cI cC cZ cB cJ xI vX uO vQ oE uF tJ) H → va_D A (wd_X4_forgetAll cI cC cZ cB cJ xI vX uO vQ oE uF tJ) → va_S A s.heap H locs → lv_has ls 2 [(0, .ref xI), (1, .int x1)] → W p l e rm_X4_forgetAll s m args below meth c H locs 0 0 (MQ below (q_X4_forgetAll dC dI cI cC cZ cB cJ A xI vX uO vQ uF post) args s 0 0 A) (F0 m 7 ls [])) : ∀ (x1 oE : Int32) (tJ : Nat → Int32) (H : Heap) (locs : List Loc) (ls : Array Slot), (ws_X4_forgetAll_7 post next) x1 oE tJ → va_P (dC, dI) classes (wd_X4_forgetAll cI cC cZ cB cJ xI vX uO vQ oE uF tJ) H → va_D A (wd_X4_forgetAll cI cC cZ cB cJ xI vX uO vQ oE uF tJ) → va_S A s.heap H locs → lv_has ls 2 [(0, .ref xI), (1, .int x1)] → W p l e rm_X4_forgetAll s m args below meth c H locs 0 0 (MQ below (q_X4_forgetAll dC dI cI cC cZ cB cJ A xI vX uO vQ uF post) args s 0 0 A) (F0 m 7 ls []) := by
  obtain ⟨hx, hb, hr, hml, hown, hts, hlocks, hA, hK, hN, tL, tM, hZL, hTL, hZM, hTM, hZX⟩ := id C0
  intro x1 oE tJ H locs ls hp hP hD hS hl
  unfold ws_X4_forgetAll_7 at hp
  refine lv_iload_n hx hb eX4_forgetAll_0.2.2.2.2.2.1 rfl (lv_at hl 1 rfl) ?_
  refine lv_iconst (v := 2) hx hb eX4_forgetAll_0.2.2.2.2.2.2.1 ic_2 ?_
  refine lv_icmp_ge (tgt := 25) hx hb eX4_forgetAll_0.2.2.2.2.2.2.2.1 (by decide) (fun hc => ?_) (fun hc => ?_)
  · have hp := hp.1 hc
    exact W.vret hx hb hr (fun t ht hW => ⟨⟨(oE, tJ), rfl, hp, by rw [ht]; exact hP, va_K.moved hW.alike hK, hD⟩, hS.F ht⟩) hS.2.2 eX4_forgetAll_0.2.2.2.2.2.2.2.2.2.2.2.2.2.2.2
  · have hp := hp.2 hc
    refine lv_aload_n hx hb eX4_forgetAll_0.2.2.2.2.2.2.2.2.1 rfl (lv_at hl 0 rfl) ?_
    refine va_get (D := (dC, dI)) (ci := 4) (v := .ref vQ) (C := RX4) (T := TX4) (N := 5) hx hb hts i_X4 hown hK hP 0 rfl rfl 2 (Nat.le_of_ble_eq_true rfl) (hts _ q_24) (fun _ h9 => h9) rfl eX4_forgetAll_0.2.2.2.2.2.2.2.2.2.1 ?_
    refine lv_iload_n hx hb eX4_forgetAll_0.2.2.2.2.2.2.2.2.2.2.1 rfl (lv_at hl 1 rfl) ?_
    refine lv_iconst (v := 0) hx hb eX4_forgetAll_0.2.2.2.2.2.2.2.2.2.2.2.1 ic_0 ?_
    have hin := hp.1
    have hp := hp.2
    refine va_zast hx hb hK hP hD hS 1 2 rfl rfl hin eX4_forgetAll_0.2.2.2.2.2.2.2.2.2.2.2.2.1 (fun H locs hP hD hS => ?_)
    have hP : va_P (dC, dI) classes (wd_X4_forgetAll cI cC cZ cB cJ xI vX uO vQ oE uF (upd tJ x1.toNatClampNeg (vp_nar .boolean 0))) H := hP
    have hD : va_D A (wd_X4_forgetAll cI cC cZ cB cJ xI vX uO vQ oE uF (upd tJ x1.toNatClampNeg (vp_nar .boolean 0))) := hD
    obtain ⟨v_1, ev_1⟩ : ∃ y : Int32, y = x1 + 1 := ⟨_, rfl⟩
    refine lv_iinc (v := v_1) (lv' := [(1, .int v_1), (0, .ref xI)]) hx hb eX4_forgetAll_0.2.2.2.2.2.2.2.2.2.2.2.2.2.1 hl (k := 1) rfl (by rw [ev_1]; rfl) (by decide) rfl (fun ls hl => ?_)
    have hp := hp v_1 ev_1
    refine lv_goto (tgt := 7) hx hb eX4_forgetAll_0.2.2.2.2.2.2.2.2.2.2.2.2.2.2.1 (by decide) ?_
    exact hKn v_1 oE (upd tJ x1.toNatClampNeg (vp_nar .boolean 0)) H locs ls hp hP hD hS (lv_sub hl [1, 0] rfl)
set_option maxHeartbeats 4000000 in
set_option maxRecDepth 100000 in
theorem kb_X4_forgetAll_7 (C0 : gc cX4_forgetAll none 2 RX4 (dC, dI) (tyl cI cC cZ cB cJ) A p s m args meth c) : ∀ (n : Nat), ∀ (x1 oE : Int32) (tJ : Nat → Int32) (H : Heap) (locs : List Loc) (ls : Array Slot), (wb_X4_forgetAll_7 post n) x1 oE tJ → va_P (dC, dI) classes (wd_X4_forgetAll cI cC cZ cB cJ xI vX uO vQ oE uF tJ) H → va_D A (wd_X4_forgetAll cI cC cZ cB cJ xI vX uO vQ oE uF tJ) → va_S A s.heap H locs → lv_has ls 2 [(0, .ref xI), (1, .int x1)] → W p l e rm_X4_forgetAll s m args below meth c H locs 0 0 (MQ below (q_X4_forgetAll dC dI cI cC cZ cB cJ A xI vX uO vQ uF post) args s 0 0 A) (F0 m 7 ls []) := by
  intro n
  induction n with
  | zero =>
    intro x1 oE tJ H locs ls hp
    exact False.elim hp
  | succ n ih =>
    intro x1 oE tJ H locs ls hp
    exact ks_X4_forgetAll_7 C0 ih x1 oE tJ H locs ls hp
end S_X4_forgetAll
noncomputable def wp_X4_forgetAll (post : Int32 → (Nat → Int32) → Prop) (oE : Int32) (tJ : Nat → Int32) : Prop := ∃ n : Nat, wb_X4_forgetAll_7 post n 0 0 tJ
set_option maxHeartbeats 4000000 in
set_option maxRecDepth 100000 in
theorem c_X4_forgetAll (l : Launch) (dC : Nat → ClassId) (dI : Nat → Nat → Nat) (cI cC cZ cB cJ : ClassId) (xI vX uO vQ sz : Nat) (oE uF : Int32) (tJ : Nat → Int32) (post : Int32 → (Nat → Int32) → Prop) (hw : wp_X4_forgetAll post oE tJ) : Met l yX4_forgetAll (gw yX4_forgetAll cX4_forgetAll 2 none) rm_X4_forgetAll (va_Pc [.ref xI] (gPre (dC, dI) (tyl cI cC cZ cB cJ) (wd_X4_forgetAll cI cC cZ cB cJ xI vX uO vQ oE uF tJ) sz)) (q_X4_forgetAll dC dI cI cC cZ cB cJ (va_A (wd_X4_forgetAll cI cC cZ cB cJ xI vX uO vQ oE uF tJ) sz) xI vX uO vQ uF post) 0 0 (va_A (wd_X4_forgetAll cI cC cZ cB cJ xI vX uO vQ oE uF tJ) sz) := by
  refine g_enter (own := RX4) (dC, dI) (tyl cI cC cZ cB cJ) (wd_X4_forgetAll cI cC cZ cB cJ xI vX uO vQ oE uF tJ) sz [.ref xI] (fun A => q_X4_forgetAll dC dI cI cC cZ cB cJ A xI vX uO vQ uF post) pn_RX4 rfl (Nat.le_of_ble_eq_true rfl) ?_
  intro p e s m args below meth c A H locs ls C0 hP hD hS hl
  have hl : lv_has ls 2 [(0, .ref xI)] := hl
  obtain ⟨hx, hb, hr, hml, hown, hts, hlocks, hA, hK, hN, tL, tM, hZL, hTL, hZM, hTM, hZX⟩ := id C0
  have hp := hw
  unfold wp_X4_forgetAll at hp
  refine lv_aload_n hx hb eX4_forgetAll_0.1 rfl (lv_at hl 0 rfl) ?_
  refine lv_iconst (v := 0) hx hb eX4_forgetAll_0.2.1 ic_0 ?_
  refine va_put (D := (dC, dI)) (ci := 4) (v := .int 0) (ty := .int) (C := RX4) (T := TX4) (N := 5) hx hb hts i_X4 tyX4 tyX4_ok nmX4 hown hK hP hD hS 0 rfl rfl 3 (Nat.le_of_ble_eq_true rfl) (hts _ q_23) (fun _ h9 => h9) rfl (tyX4_ok 3 (Nat.le_of_ble_eq_true rfl)) rfl rfl (Nat.le_of_ble_eq_true rfl) eX4_forgetAll_0.2.2.1 (fun H locs hP hD hS => ?_)
  have hP : va_P (dC, dI) classes (wd_X4_forgetAll cI cC cZ cB cJ xI vX uO vQ 0 uF tJ) H := hP
  have hD : va_D A (wd_X4_forgetAll cI cC cZ cB cJ xI vX uO vQ 0 uF tJ) := hD
  refine lv_iconst (v := 0) hx hb eX4_forgetAll_0.2.2.2.1 ic_0 ?_
  refine lv_istore_n (lv' := [(1, .int 0), (0, .ref xI)]) hx hb eX4_forgetAll_0.2.2.2.2.1 rfl hl (by decide) rfl (fun ls hl => ?_)
  obtain ⟨n9, hp⟩ := hp
  exact kb_X4_forgetAll_7 C0 n9 0 0 tJ H locs ls hp hP hD hS (lv_sub hl [1, 0] rfl)
noncomputable abbrev wd_X8_clear (cI cC cZ cB cJ : ClassId) (xG uT : Nat) (qI qJ rY : Int32) : va_W := [(xG, .inr (8, [.ref uT, .int qI, .int qJ, .int rY]))]
noncomputable abbrev q_X8_clear (dC : Nat → ClassId) (dI : Nat → Nat → Nat) (cI cC cZ cB cJ : ClassId) (A : Nat → Prop) (xG uT : Nat) (qJ rY : Int32) (post : Int32 → Prop) : Array Value → State → Outcome → State → Prop := va_Qv (fun (u : Int32) => post u) (fun u t => gB (dC, dI) (tyl cI cC cZ cB cJ) A (wd_X8_clear cI cC cZ cB cJ xG uT u qJ rY) t) A
noncomputable abbrev rm_X8_clear : Room := { frames := 0, cells := 0, slots := 0, locals := 0 }
noncomputable def wp_X8_clear (post : Int32 → Prop) (qI : Int32) : Prop := post 0
set_option maxHeartbeats 4000000 in
set_option maxRecDepth 100000 in
theorem c_X8_clear (l : Launch) (dC : Nat → ClassId) (dI : Nat → Nat → Nat) (cI cC cZ cB cJ : ClassId) (xG uT sz : Nat) (qI qJ rY : Int32) (post : Int32 → Prop) (hw : wp_X8_clear post qI) : Met l yX8_clear (gw yX8_clear cX8_clear 1 none) rm_X8_clear (va_Pc [.ref xG] (gPre (dC, dI) (tyl cI cC cZ cB cJ) (wd_X8_clear cI cC cZ cB cJ xG uT qI qJ rY) sz)) (q_X8_clear dC dI cI cC cZ cB cJ (va_A (wd_X8_clear cI cC cZ cB cJ xG uT qI qJ rY) sz) xG uT qJ rY post) 0 0 (va_A (wd_X8_clear cI cC cZ cB cJ xG uT qI qJ rY) sz) := by
  refine g_enter (own := RX8) (dC, dI) (tyl cI cC cZ cB cJ) (wd_X8_clear cI cC cZ cB cJ xG uT qI qJ rY) sz [.ref xG] (fun A => q_X8_clear dC dI cI cC cZ cB cJ A xG uT qJ rY post) pn_RX8 rfl (Nat.le_of_ble_eq_true rfl) ?_
  intro p e s m args below meth c A H locs ls C0 hP hD hS hl
  have hl : lv_has ls 1 [(0, .ref xG)] := hl
  obtain ⟨hx, hb, hr, hml, hown, hts, hlocks, hA, hK, hN, tL, tM, hZL, hTL, hZM, hTM, hZX⟩ := id C0
  have hp := hw
  unfold wp_X8_clear at hp
  refine lv_aload_n hx hb eX8_clear_0.1 rfl (lv_at hl 0 rfl) ?_
  refine lv_iconst (v := 0) hx hb eX8_clear_0.2.1 ic_0 ?_
  refine va_put (D := (dC, dI)) (ci := 8) (v := .int 0) (ty := .int) (C := RX8) (T := TX8) (N := 4) hx hb hts i_X8 tyX8 tyX8_ok nmX8 hown hK hP hD hS 0 rfl rfl 1 (Nat.le_of_ble_eq_true rfl) (hts _ q_1) (fun _ h9 => h9) rfl (tyX8_ok 1 (Nat.le_of_ble_eq_true rfl)) rfl rfl (Nat.le_of_ble_eq_true rfl) eX8_clear_0.2.2.1 (fun H locs hP hD hS => ?_)
  have hP : va_P (dC, dI) classes (wd_X8_clear cI cC cZ cB cJ xG uT 0 qJ rY) H := hP
  have hD : va_D A (wd_X8_clear cI cC cZ cB cJ xG uT 0 qJ rY) := hD
  exact W.vret hx hb hr (fun t ht hW => ⟨⟨0, rfl, hp, by rw [ht]; exact hP, va_K.moved hW.alike hK, hD⟩, hS.F ht⟩) hS.2.2 eX8_clear_0.2.2.2
noncomputable abbrev wd_X8_wrong (cI cC cZ cB cJ : ClassId) (xG uT : Nat) (qI qJ rY : Int32) : va_W := [(xG, .inr (8, [.ref uT, .int qI, .int qJ, .int rY]))]
noncomputable abbrev q_X8_wrong (dC : Nat → ClassId) (dI : Nat → Nat → Nat) (cI cC cZ cB cJ : ClassId) (A : Nat → Prop) (xG uT : Nat) (qI qJ rY : Int32) (post : Int32 → Prop) : Array Value → State → Outcome → State → Prop := va_Qi (fun (r : Int32) (u : Unit) => post r) (fun u t => gB (dC, dI) (tyl cI cC cZ cB cJ) A (wd_X8_wrong cI cC cZ cB cJ xG uT qI qJ rY) t) A
noncomputable abbrev rm_X8_wrong : Room := { frames := 0, cells := 0, slots := 0, locals := 0 }
noncomputable def wp_X8_wrong (post : Int32 → Prop) (qJ : Int32) : Prop := post ((-1) - qJ)
set_option maxHeartbeats 4000000 in
set_option maxRecDepth 100000 in
theorem c_X8_wrong (l : Launch) (dC : Nat → ClassId) (dI : Nat → Nat → Nat) (cI cC cZ cB cJ : ClassId) (xG uT sz : Nat) (qI qJ rY : Int32) (post : Int32 → Prop) (hw : wp_X8_wrong post qJ) : Met l yX8_wrong (gw yX8_wrong cX8_wrong 1 (some .int)) rm_X8_wrong (va_Pc [.ref xG] (gPre (dC, dI) (tyl cI cC cZ cB cJ) (wd_X8_wrong cI cC cZ cB cJ xG uT qI qJ rY) sz)) (q_X8_wrong dC dI cI cC cZ cB cJ (va_A (wd_X8_wrong cI cC cZ cB cJ xG uT qI qJ rY) sz) xG uT qI qJ rY post) 0 0 (va_A (wd_X8_wrong cI cC cZ cB cJ xG uT qI qJ rY) sz) := by
  refine g_enter (own := RX8) (dC, dI) (tyl cI cC cZ cB cJ) (wd_X8_wrong cI cC cZ cB cJ xG uT qI qJ rY) sz [.ref xG] (fun A => q_X8_wrong dC dI cI cC cZ cB cJ A xG uT qI qJ rY post) pn_RX8 rfl (Nat.le_of_ble_eq_true rfl) ?_
  intro p e s m args below meth c A H locs ls C0 hP hD hS hl
  have hl : lv_has ls 1 [(0, .ref xG)] := hl
  obtain ⟨hx, hb, hr, hml, hown, hts, hlocks, hA, hK, hN, tL, tM, hZL, hTL, hZM, hTM, hZX⟩ := id C0
  have hp := hw
  unfold wp_X8_wrong at hp
  refine lv_iconst (v := (-1)) hx hb eX8_wrong_0.1 ic_m1 ?_
  refine lv_aload_n hx hb eX8_wrong_0.2.1 rfl (lv_at hl 0 rfl) ?_
  refine va_get (D := (dC, dI)) (ci := 8) (v := .int qJ) (C := RX8) (T := TX8) (N := 4) hx hb hts i_X8 hown hK hP 0 rfl rfl 2 (Nat.le_of_ble_eq_true rfl) (hts _ q_13) (fun _ h9 => h9) rfl eX8_wrong_0.2.2.1 ?_
  refine lv_isub hx hb eX8_wrong_0.2.2.2.1 ?_
  exact W.iret (v := (-1) - qJ) hx hb hr (fun t ht hW => ⟨⟨(-1) - qJ, (), rfl, hp, by rw [ht]; exact hP, va_K.moved hW.alike hK, hD⟩, hS.F ht⟩) hS.2.2 eX8_wrong_0.2.2.2.2
noncomputable abbrev wd_X8_here (cI cC cZ cB cJ : ClassId) (xG uT : Nat) (qI qJ rY : Int32) (qM : Nat → Int32) : va_W := [(xG, .inr (8, [.ref uT, .int qI, .int qJ, .int rY])), (uT, .inl (cC, 80, .inl qM))]
noncomputable abbrev q_X8_here (dC : Nat → ClassId) (dI : Nat → Nat → Nat) (cI cC cZ cB cJ : ClassId) (A : Nat → Prop) (xG uT : Nat) (qI qJ rY : Int32) (qM : Nat → Int32) (post : Int32 → Prop) : Array Value → State → Outcome → State → Prop := va_Qi (fun (r : Int32) (u : Unit) => post r) (fun u t => gB (dC, dI) (tyl cI cC cZ cB cJ) A (wd_X8_here cI cC cZ cB cJ xG uT qI qJ rY qM) t) A
noncomputable abbrev rm_X8_here : Room := { frames := 0, cells := 0, slots := 0, locals := 0 }
noncomputable def wp_X8_here (post : Int32 → Prop) (qJ rY : Int32) (qM : Nat → Int32) : Prop := (rY ≤ qJ → post (-1)) ∧ (¬ rY ≤ qJ → vp_in qJ 80 ∧ (∀ v_1 : Int32, v_1 = qM qJ.toNatClampNeg → post v_1))
set_option maxHeartbeats 4000000 in
set_option maxRecDepth 100000 in
theorem c_X8_here (l : Launch) (dC : Nat → ClassId) (dI : Nat → Nat → Nat) (cI cC cZ cB cJ : ClassId) (xG uT sz : Nat) (qI qJ rY : Int32) (qM : Nat → Int32) (post : Int32 → Prop) (hw : wp_X8_here post qJ rY qM) : Met l yX8_here (gw yX8_here cX8_here 1 (some .int)) rm_X8_here (va_Pc [.ref xG] (gPre (dC, dI) (tyl cI cC cZ cB cJ) (wd_X8_here cI cC cZ cB cJ xG uT qI qJ rY qM) sz)) (q_X8_here dC dI cI cC cZ cB cJ (va_A (wd_X8_here cI cC cZ cB cJ xG uT qI qJ rY qM) sz) xG uT qI qJ rY qM post) 0 0 (va_A (wd_X8_here cI cC cZ cB cJ xG uT qI qJ rY qM) sz) := by
  refine g_enter (own := RX8) (dC, dI) (tyl cI cC cZ cB cJ) (wd_X8_here cI cC cZ cB cJ xG uT qI qJ rY qM) sz [.ref xG] (fun A => q_X8_here dC dI cI cC cZ cB cJ A xG uT qI qJ rY qM post) pn_RX8 rfl (Nat.le_of_ble_eq_true rfl) ?_
  intro p e s m args below meth c A H locs ls C0 hP hD hS hl
  have hl : lv_has ls 1 [(0, .ref xG)] := hl
  obtain ⟨hx, hb, hr, hml, hown, hts, hlocks, hA, hK, hN, tL, tM, hZL, hTL, hZM, hTM, hZX⟩ := id C0
  have hp := hw
  unfold wp_X8_here at hp
  refine lv_aload_n hx hb eX8_here_0.1 rfl (lv_at hl 0 rfl) ?_
  refine va_get (D := (dC, dI)) (ci := 8) (v := .int qJ) (C := RX8) (T := TX8) (N := 4) hx hb hts i_X8 hown hK hP 0 rfl rfl 2 (Nat.le_of_ble_eq_true rfl) (hts _ q_13) (fun _ h9 => h9) rfl eX8_here_0.2.1 ?_
  refine lv_aload_n hx hb eX8_here_0.2.2.1 rfl (lv_at hl 0 rfl) ?_
  refine va_get (D := (dC, dI)) (ci := 8) (v := .int rY) (C := RX8) (T := TX8) (N := 4) hx hb hts i_X8 hown hK hP 0 rfl rfl 3 (Nat.le_of_ble_eq_true rfl) (hts _ q_18) (fun _ h9 => h9) rfl eX8_here_0.2.2.2.1 ?_
  refine lv_icmp_ge (tgt := 23) hx hb eX8_here_0.2.2.2.2.1 (by decide) (fun hc => ?_) (fun hc => ?_)
  · have hp := hp.1 hc
    refine lv_iconst (v := (-1)) hx hb eX8_here_0.2.2.2.2.2.2.2.2.2.2.2.1 ic_m1 ?_
    exact W.iret (v := (-1)) hx hb hr (fun t ht hW => ⟨⟨(-1), (), rfl, hp, by rw [ht]; exact hP, va_K.moved hW.alike hK, hD⟩, hS.F ht⟩) hS.2.2 eX8_here_0.2.2.2.2.2.2.2.2.2.2.2.2
  · have hp := hp.2 hc
    refine lv_aload_n hx hb eX8_here_0.2.2.2.2.2.1 rfl (lv_at hl 0 rfl) ?_
    refine va_get (D := (dC, dI)) (ci := 8) (v := .ref uT) (C := RX8) (T := TX8) (N := 4) hx hb hts i_X8 hown hK hP 0 rfl rfl 0 (Nat.le_of_ble_eq_true rfl) (hts _ q_2) (fun _ h9 => h9) rfl eX8_here_0.2.2.2.2.2.2.1 ?_
    refine lv_aload_n hx hb eX8_here_0.2.2.2.2.2.2.2.1 rfl (lv_at hl 0 rfl) ?_
    refine va_get (D := (dC, dI)) (ci := 8) (v := .int qJ) (C := RX8) (T := TX8) (N := 4) hx hb hts i_X8 hown hK hP 0 rfl rfl 2 (Nat.le_of_ble_eq_true rfl) (hts _ q_13) (fun _ h9 => h9) rfl eX8_here_0.2.2.2.2.2.2.2.2.1 ?_
    have hin := hp.1
    have hp := hp.2
    refine va_cald hx hb hK hP 1 1 rfl rfl hin eX8_here_0.2.2.2.2.2.2.2.2.2.1 ?_
    refine lv_topi (fun v_1 ev_1 => ?_)
    have hp := hp v_1 ev_1
    refine lv_goto (tgt := 24) hx hb eX8_here_0.2.2.2.2.2.2.2.2.2.2.1 (by decide) ?_
    exact W.iret (v := v_1) hx hb hr (fun t ht hW => ⟨⟨v_1, (), rfl, hp, by rw [ht]; exact hP, va_K.moved hW.alike hK, hD⟩, hS.F ht⟩) hS.2.2 eX8_here_0.2.2.2.2.2.2.2.2.2.2.2.2
noncomputable abbrev wd_X8_skip (cI cC cZ cB cJ : ClassId) (xG uT : Nat) (qI qJ rY : Int32) : va_W := [(xG, .inr (8, [.ref uT, .int qI, .int qJ, .int rY]))]
noncomputable abbrev q_X8_skip (dC : Nat → ClassId) (dI : Nat → Nat → Nat) (cI cC cZ cB cJ : ClassId) (A : Nat → Prop) (xG uT : Nat) (qI rY : Int32) (post : Int32 → Prop) : Array Value → State → Outcome → State → Prop := va_Qv (fun (u : Int32) => post u) (fun u t => gB (dC, dI) (tyl cI cC cZ cB cJ) A (wd_X8_skip cI cC cZ cB cJ xG uT qI u rY) t) A
noncomputable abbrev rm_X8_skip : Room := { frames := 0, cells := 0, slots := 0, locals := 0 }
noncomputable def wp_X8_skip (post : Int32 → Prop) (qJ rY : Int32) : Prop := (rY ≤ qJ → post qJ) ∧ (¬ rY ≤ qJ → ∀ v_1 : Int32, v_1 = qJ + 1 → post v_1)
set_option maxHeartbeats 4000000 in
set_option maxRecDepth 100000 in
theorem c_X8_skip (l : Launch) (dC : Nat → ClassId) (dI : Nat → Nat → Nat) (cI cC cZ cB cJ : ClassId) (xG uT sz : Nat) (qI qJ rY : Int32) (post : Int32 → Prop) (hw : wp_X8_skip post qJ rY) : Met l yX8_skip (gw yX8_skip cX8_skip 1 none) rm_X8_skip (va_Pc [.ref xG] (gPre (dC, dI) (tyl cI cC cZ cB cJ) (wd_X8_skip cI cC cZ cB cJ xG uT qI qJ rY) sz)) (q_X8_skip dC dI cI cC cZ cB cJ (va_A (wd_X8_skip cI cC cZ cB cJ xG uT qI qJ rY) sz) xG uT qI rY post) 0 0 (va_A (wd_X8_skip cI cC cZ cB cJ xG uT qI qJ rY) sz) := by
  refine g_enter (own := RX8) (dC, dI) (tyl cI cC cZ cB cJ) (wd_X8_skip cI cC cZ cB cJ xG uT qI qJ rY) sz [.ref xG] (fun A => q_X8_skip dC dI cI cC cZ cB cJ A xG uT qI rY post) pn_RX8 rfl (Nat.le_of_ble_eq_true rfl) ?_
  intro p e s m args below meth c A H locs ls C0 hP hD hS hl
  have hl : lv_has ls 1 [(0, .ref xG)] := hl
  obtain ⟨hx, hb, hr, hml, hown, hts, hlocks, hA, hK, hN, tL, tM, hZL, hTL, hZM, hTM, hZX⟩ := id C0
  have hp := hw
  unfold wp_X8_skip at hp
  refine lv_aload_n hx hb eX8_skip_0.1 rfl (lv_at hl 0 rfl) ?_
  refine va_get (D := (dC, dI)) (ci := 8) (v := .int qJ) (C := RX8) (T := TX8) (N := 4) hx hb hts i_X8 hown hK hP 0 rfl rfl 2 (Nat.le_of_ble_eq_true rfl) (hts _ q_13) (fun _ h9 => h9) rfl eX8_skip_0.2.1 ?_
  refine lv_aload_n hx hb eX8_skip_0.2.2.1 rfl (lv_at hl 0 rfl) ?_
  refine va_get (D := (dC, dI)) (ci := 8) (v := .int rY) (C := RX8) (T := TX8) (N := 4) hx hb hts i_X8 hown hK hP 0 rfl rfl 3 (Nat.le_of_ble_eq_true rfl) (hts _ q_18) (fun _ h9 => h9) rfl eX8_skip_0.2.2.2.1 ?_
  refine lv_icmp_ge (tgt := 21) hx hb eX8_skip_0.2.2.2.2.1 (by decide) (fun hc => ?_) (fun hc => ?_)
  · have hp := hp.1 hc
    exact W.vret hx hb hr (fun t ht hW => ⟨⟨qJ, rfl, hp, by rw [ht]; exact hP, va_K.moved hW.alike hK, hD⟩, hS.F ht⟩) hS.2.2 eX8_skip_0.2.2.2.2.2.2.2.2.2.2.2
  · have hp := hp.2 hc
    refine lv_aload_n hx hb eX8_skip_0.2.2.2.2.2.1 rfl (lv_at hl 0 rfl) ?_
    refine lv_dup hx hb eX8_skip_0.2.2.2.2.2.2.1 rfl ?_
    refine va_get (D := (dC, dI)) (ci := 8) (v := .int qJ) (C := RX8) (T := TX8) (N := 4) hx hb hts i_X8 hown hK hP 0 rfl rfl 2 (Nat.le_of_ble_eq_true rfl) (hts _ q_13) (fun _ h9 => h9) rfl eX8_skip_0.2.2.2.2.2.2.2.1 ?_
    refine lv_iconst (v := 1) hx hb eX8_skip_0.2.2.2.2.2.2.2.2.1 ic_1 ?_
    refine lv_iadd hx hb eX8_skip_0.2.2.2.2.2.2.2.2.2.1 ?_
    refine lv_topi (fun v_1 ev_1 => ?_)
    have hp := hp v_1 ev_1
    refine va_put (D := (dC, dI)) (ci := 8) (v := .int v_1) (ty := .int) (C := RX8) (T := TX8) (N := 4) hx hb hts i_X8 tyX8 tyX8_ok nmX8 hown hK hP hD hS 0 rfl rfl 2 (Nat.le_of_ble_eq_true rfl) (hts _ q_13) (fun _ h9 => h9) rfl (tyX8_ok 2 (Nat.le_of_ble_eq_true rfl)) rfl rfl (Nat.le_of_ble_eq_true rfl) eX8_skip_0.2.2.2.2.2.2.2.2.2.2.1 (fun H locs hP hD hS => ?_)
    have hP : va_P (dC, dI) classes (wd_X8_skip cI cC cZ cB cJ xG uT qI v_1 rY) H := hP
    have hD : va_D A (wd_X8_skip cI cC cZ cB cJ xG uT qI v_1 rY) := hD
    exact W.vret hx hb hr (fun t ht hW => ⟨⟨v_1, rfl, hp, by rw [ht]; exact hP, va_K.moved hW.alike hK, hD⟩, hS.F ht⟩) hS.2.2 eX8_skip_0.2.2.2.2.2.2.2.2.2.2.2
noncomputable abbrev wd_X8_digitHere (cI cC cZ cB cJ : ClassId) (xG uT : Nat) (qI qJ rY : Int32) (qM : Nat → Int32) : va_W := [(xG, .inr (8, [.ref uT, .int qI, .int qJ, .int rY])), (uT, .inl (cC, 80, .inl qM))]
noncomputable abbrev q_X8_digitHere (dC : Nat → ClassId) (dI : Nat → Nat → Nat) (cI cC cZ cB cJ : ClassId) (A : Nat → Prop) (xG uT : Nat) (qI qJ rY : Int32) (qM : Nat → Int32) (post : Int32 → Prop) : Array Value → State → Outcome → State → Prop := va_Qi (fun (r : Int32) (u : Unit) => post r) (fun u t => gB (dC, dI) (tyl cI cC cZ cB cJ) A (wd_X8_digitHere cI cC cZ cB cJ xG uT qI qJ rY qM) t) A
noncomputable abbrev rm_X8_digitHere : Room := { frames := 0, cells := 0, slots := 0, locals := 0 }
section S_X8_digitHere
variable {p : Program} {l : Launch} {e : Env} {s : State} {m : MethodId} {args : Array Value} {below : List Frame} {meth : Method} {c : Code} {dC : Nat → ClassId} {dI : Nat → Nat → Nat} {cI cC cZ cB cJ : ClassId} {A : Nat → Prop} {xG uT : Nat} {qI qJ rY : Int32} {qM : Nat → Int32} {post : Int32 → Prop}
noncomputable def ws_X8_digitHere_24 (post : Int32 → Prop) (qJ rY : Int32) (qM : Nat → Int32) (k0 : Int32) : Prop := (k0 < 48 → post (-1)) ∧ (¬ k0 < 48 → (57 < k0 → post (-1)) ∧ (¬ 57 < k0 → ∀ v_1 : Int32, v_1 = k0 - 48 → post v_1))
set_option maxHeartbeats 4000000 in
set_option maxRecDepth 100000 in
theorem ks_X8_digitHere_24 (C0 : gc cX8_digitHere (some .int) 2 RX8 (dC, dI) (tyl cI cC cZ cB cJ) A p s m args meth c) : ∀ (k0 : Int32) (H : Heap) (locs : List Loc) (ls : Array Slot), (ws_X8_digitHere_24 post qJ rY qM) k0 → va_P (dC, dI) classes (wd_X8_digitHere cI cC cZ cB cJ xG uT qI qJ rY qM) H → va_D A (wd_X8_digitHere cI cC cZ cB cJ xG uT qI qJ rY qM) → va_S A s.heap H locs → lv_has ls 2 [] → W p l e rm_X8_digitHere s m args below meth c H locs 0 0 (MQ below (q_X8_digitHere dC dI cI cC cZ cB cJ A xG uT qI qJ rY qM post) args s 0 0 A) (F0 m 24 ls [.int k0]) := by
  obtain ⟨hx, hb, hr, hml, hown, hts, hlocks, hA, hK, hN, tL, tM, hZL, hTL, hZM, hTM, hZX⟩ := id C0
  intro k0 H locs ls hp hP hD hS hl
  unfold ws_X8_digitHere_24 at hp
  refine lv_istore_n (lv' := [(1, .int k0)]) hx hb eX8_digitHere_0.2.2.2.2.2.2.2.2.2.2.2.2.1 rfl hl (by decide) rfl (fun ls hl => ?_)
  refine lv_iload_n hx hb eX8_digitHere_0.2.2.2.2.2.2.2.2.2.2.2.2.2.1 rfl (lv_at hl 0 rfl) ?_
  refine lv_bipush (v := 48) hx hb eX8_digitHere_0.2.2.2.2.2.2.2.2.2.2.2.2.2.2.1 bp_48 ?_
  refine lv_icmp_lt (tgt := 44) hx hb eX8_digitHere_0.2.2.2.2.2.2.2.2.2.2.2.2.2.2.2 (by decide) (fun hc => ?_) (fun hc => ?_)
  · have hp := hp.1 hc
    refine lv_iconst (v := (-1)) hx hb eX8_digitHere_31.2.2.2.2.2.2.2.1 ic_m1 ?_
    exact W.iret (v := (-1)) hx hb hr (fun t ht hW => ⟨⟨(-1), (), rfl, hp, by rw [ht]; exact hP, va_K.moved hW.alike hK, hD⟩, hS.F ht⟩) hS.2.2 eX8_digitHere_31.2.2.2.2.2.2.2.2
  · have hp := hp.2 hc
    refine lv_iload_n hx hb eX8_digitHere_31.1 rfl (lv_at hl 0 rfl) ?_
    refine lv_bipush (v := 57) hx hb eX8_digitHere_31.2.1 bp_57 ?_
    refine lv_icmp_gt (tgt := 44) hx hb eX8_digitHere_31.2.2.1 (by decide) (fun hc => ?_) (fun hc => ?_)
    · have hp := hp.1 hc
      refine lv_iconst (v := (-1)) hx hb eX8_digitHere_31.2.2.2.2.2.2.2.1 ic_m1 ?_
      exact W.iret (v := (-1)) hx hb hr (fun t ht hW => ⟨⟨(-1), (), rfl, hp, by rw [ht]; exact hP, va_K.moved hW.alike hK, hD⟩, hS.F ht⟩) hS.2.2 eX8_digitHere_31.2.2.2.2.2.2.2.2
    · have hp := hp.2 hc
      refine lv_iload_n hx hb eX8_digitHere_31.2.2.2.1 rfl (lv_at hl 0 rfl) ?_
      refine lv_bipush (v := 48) hx hb eX8_digitHere_31.2.2.2.2.1 bp_48 ?_
      refine lv_isub hx hb eX8_digitHere_31.2.2.2.2.2.1 ?_
      refine lv_topi (fun v_1 ev_1 => ?_)
      have hp := hp v_1 ev_1
      refine lv_goto (tgt := 45) hx hb eX8_digitHere_31.2.2.2.2.2.2.1 (by decide) ?_
      exact W.iret (v := v_1) hx hb hr (fun t ht hW => ⟨⟨v_1, (), rfl, hp, by rw [ht]; exact hP, va_K.moved hW.alike hK, hD⟩, hS.F ht⟩) hS.2.2 eX8_digitHere_31.2.2.2.2.2.2.2.2
end S_X8_digitHere
noncomputable def wp_X8_digitHere (post : Int32 → Prop) (qJ rY : Int32) (qM : Nat → Int32) : Prop := (rY ≤ qJ → ws_X8_digitHere_24 post qJ rY qM (-1)) ∧ (¬ rY ≤ qJ → vp_in qJ 80 ∧ (∀ v_2 : Int32, v_2 = qM qJ.toNatClampNeg → ws_X8_digitHere_24 post qJ rY qM v_2))
set_option maxHeartbeats 4000000 in
set_option maxRecDepth 100000 in
theorem c_X8_digitHere (l : Launch) (dC : Nat → ClassId) (dI : Nat → Nat → Nat) (cI cC cZ cB cJ : ClassId) (xG uT sz : Nat) (qI qJ rY : Int32) (qM : Nat → Int32) (post : Int32 → Prop) (hw : wp_X8_digitHere post qJ rY qM) : Met l yX8_digitHere (gw yX8_digitHere cX8_digitHere 2 (some .int)) rm_X8_digitHere (va_Pc [.ref xG] (gPre (dC, dI) (tyl cI cC cZ cB cJ) (wd_X8_digitHere cI cC cZ cB cJ xG uT qI qJ rY qM) sz)) (q_X8_digitHere dC dI cI cC cZ cB cJ (va_A (wd_X8_digitHere cI cC cZ cB cJ xG uT qI qJ rY qM) sz) xG uT qI qJ rY qM post) 0 0 (va_A (wd_X8_digitHere cI cC cZ cB cJ xG uT qI qJ rY qM) sz) := by
  refine g_enter (own := RX8) (dC, dI) (tyl cI cC cZ cB cJ) (wd_X8_digitHere cI cC cZ cB cJ xG uT qI qJ rY qM) sz [.ref xG] (fun A => q_X8_digitHere dC dI cI cC cZ cB cJ A xG uT qI qJ rY qM post) pn_RX8 rfl (Nat.le_of_ble_eq_true rfl) ?_
  intro p e s m args below meth c A H locs ls C0 hP hD hS hl
  have hl : lv_has ls 2 [(0, .ref xG)] := hl
  obtain ⟨hx, hb, hr, hml, hown, hts, hlocks, hA, hK, hN, tL, tM, hZL, hTL, hZM, hTM, hZX⟩ := id C0
  have hp := hw
  unfold wp_X8_digitHere at hp
  refine lv_aload_n hx hb eX8_digitHere_0.1 rfl (lv_at hl 0 rfl) ?_
  refine va_get (D := (dC, dI)) (ci := 8) (v := .int qJ) (C := RX8) (T := TX8) (N := 4) hx hb hts i_X8 hown hK hP 0 rfl rfl 2 (Nat.le_of_ble_eq_true rfl) (hts _ q_13) (fun _ h9 => h9) rfl eX8_digitHere_0.2.1 ?_
  refine lv_aload_n hx hb eX8_digitHere_0.2.2.1 rfl (lv_at hl 0 rfl) ?_
  refine va_get (D := (dC, dI)) (ci := 8) (v := .int rY) (C := RX8) (T := TX8) (N := 4) hx hb hts i_X8 hown hK hP 0 rfl rfl 3 (Nat.le_of_ble_eq_true rfl) (hts _ q_18) (fun _ h9 => h9) rfl eX8_digitHere_0.2.2.2.1 ?_
  refine lv_icmp_ge (tgt := 23) hx hb eX8_digitHere_0.2.2.2.2.1 (by decide) (fun hc => ?_) (fun hc => ?_)
  · have hp := hp.1 hc
    refine lv_iconst (v := (-1)) hx hb eX8_digitHere_0.2.2.2.2.2.2.2.2.2.2.2.1 ic_m1 ?_
    exact ks_X8_digitHere_24 C0 (-1) H locs ls hp hP hD hS (lv_sub hl [] rfl)
  · have hp := hp.2 hc
    refine lv_aload_n hx hb eX8_digitHere_0.2.2.2.2.2.1 rfl (lv_at hl 0 rfl) ?_
    refine va_get (D := (dC, dI)) (ci := 8) (v := .ref uT) (C := RX8) (T := TX8) (N := 4) hx hb hts i_X8 hown hK hP 0 rfl rfl 0 (Nat.le_of_ble_eq_true rfl) (hts _ q_2) (fun _ h9 => h9) rfl eX8_digitHere_0.2.2.2.2.2.2.1 ?_
    refine lv_aload_n hx hb eX8_digitHere_0.2.2.2.2.2.2.2.1 rfl (lv_at hl 0 rfl) ?_
    refine va_get (D := (dC, dI)) (ci := 8) (v := .int qJ) (C := RX8) (T := TX8) (N := 4) hx hb hts i_X8 hown hK hP 0 rfl rfl 2 (Nat.le_of_ble_eq_true rfl) (hts _ q_13) (fun _ h9 => h9) rfl eX8_digitHere_0.2.2.2.2.2.2.2.2.1 ?_
    have hin := hp.1
    have hp := hp.2
    refine va_cald hx hb hK hP 1 1 rfl rfl hin eX8_digitHere_0.2.2.2.2.2.2.2.2.2.1 ?_
    refine lv_topi (fun v_2 ev_2 => ?_)
    have hp := hp v_2 ev_2
    refine lv_goto (tgt := 24) hx hb eX8_digitHere_0.2.2.2.2.2.2.2.2.2.2.1 (by decide) ?_
    exact ks_X8_digitHere_24 C0 v_2 H locs ls hp hP hD hS (lv_sub hl [] rfl)
noncomputable abbrev wd_X8_readNumber (cI cC cZ cB cJ : ClassId) (xG uT : Nat) (qI qJ rY : Int32) (qM : Nat → Int32) : va_W := [(xG, .inr (8, [.ref uT, .int qI, .int qJ, .int rY])), (uT, .inl (cC, 80, .inl qM))]
noncomputable abbrev q_X8_readNumber (dC : Nat → ClassId) (dI : Nat → Nat → Nat) (cI cC cZ cB cJ : ClassId) (A : Nat → Prop) (xG uT : Nat) (qI rY : Int32) (qM : Nat → Int32) (post : Int32 → Int32 → Prop) : Array Value → State → Outcome → State → Prop := va_Qi (fun (r u : Int32) => post r u) (fun u t => gB (dC, dI) (tyl cI cC cZ cB cJ) A (wd_X8_readNumber cI cC cZ cB cJ xG uT qI u rY qM) t) A
noncomputable abbrev rm_X8_readNumber : Room := { frames := 1, cells := 0, slots := 0, locals := 21 }
section S_X8_readNumber
variable {p : Program} {l : Launch} {e : Env} {s : State} {m : MethodId} {args : Array Value} {below : List Frame} {meth : Method} {c : Code} {dC : Nat → ClassId} {dI : Nat → Nat → Nat} {cI cC cZ cB cJ : ClassId} {A : Nat → Prop} {xG uT : Nat} {qI rY : Int32} {qM : Nat → Int32} {post : Int32 → Int32 → Prop}
noncomputable def ws_X8_readNumber_18 (post : Int32 → Int32 → Prop) (next : Int32 → Int32 → Int32 → Int32 → Prop) (rY : Int32) (qM : Nat → Int32) (x1 x2 x3 qJ : Int32) : Prop := (x1 ≤ x3 → post x2 qJ) ∧ (¬ x1 ≤ x3 → wp_X8_digitHere (fun r_3 => (¬ r_3 = (-1) → ∀ v_4 : Int32, v_4 = x2 * 10 → ∀ v_5 : Int32, v_5 = v_4 + r_3 → wp_X8_skip (fun yM => ∀ v_7 : Int32, v_7 = x3 + 1 → next x1 v_5 v_7 yM) qJ rY) ∧ (r_3 = (-1) → post x2 qJ)) qJ rY qM)
noncomputable def wb_X8_readNumber_18 (post : Int32 → Int32 → Prop) (rY : Int32) (qM : Nat → Int32) : Nat → Int32 → Int32 → Int32 → Int32 → Prop := fun n => Nat.rec (motive := fun _ => Int32 → Int32 → Int32 → Int32 → Prop) (fun _ _ _ _ => False) (fun _ ih => ws_X8_readNumber_18 post ih rY qM) n
set_option maxHeartbeats 4000000 in
set_option maxRecDepth 100000 in
theorem ks_X8_readNumber_18 (C0 : gc cX8_readNumber (some .int) 5 RX8 (dC, dI) (tyl cI cC cZ cB cJ) A p s m args meth c) {next : Int32 → Int32 → Int32 → Int32 → Prop} (hKn : ∀ (x1 : Int32) (x2 : Int32) (x3 : Int32) (qJ : Int32) (H : Heap) (locs : List Loc) (ls : Array Slot), next x1 x2 x3 qJ → va_P (dC, dI) classes (wd_X8_readNumber cI cC cZ cB cJ xG uT qI qJ rY qM) H → va_D A (wd_X8_readNumber cI cC cZ cB cJ xG uT qI qJ rY qM) → va_S A s.heap H locs → lv_has ls 5 [(0, .ref xG), (1, .int x1), (2, .int x2), (3, .int x3)] → W p l e rm_X8_readNumber s m args below meth c H locs 0 0 (MQ below (q_X8_readNumber dC dI cI cC cZ cB cJ A xG uT qI rY qM post) args s 0 0 A) (F0 m 18 ls [])) : ∀ (x1 x2 x3 qJ : Int32) (H : Heap) (locs : List Loc) (ls : Array Slot), (ws_X8_readNumber_18 post next rY qM) x1 x2 x3 qJ → va_P (dC, dI) classes (wd_X8_readNumber cI cC cZ cB cJ xG uT qI qJ rY qM) H → va_D A (wd_X8_readNumber cI cC cZ cB cJ xG uT qI qJ rY qM) → va_S A s.heap H locs → lv_has ls 5 [(0, .ref xG), (1, .int x1), (2, .int x2), (3, .int x3)] → W p l e rm_X8_readNumber s m args below meth c H locs 0 0 (MQ below (q_X8_readNumber dC dI cI cC cZ cB cJ A xG uT qI rY qM post) args s 0 0 A) (F0 m 18 ls []) := by
  obtain ⟨hx, hb, hr, hml, hown, hts, hlocks, hA, hK, hN, tL, tM, hZL, hTL, hZM, hTM, hZX⟩ := id C0
  intro x1 x2 x3 qJ H locs ls hp hP hD hS hl
  unfold ws_X8_readNumber_18 at hp
  refine lv_iload_n hx hb eX8_readNumber_0.2.2.2.2.2.2.2.2.2.2.2.2.1 rfl (lv_at hl 3 rfl) ?_
  refine lv_iload_n hx hb eX8_readNumber_0.2.2.2.2.2.2.2.2.2.2.2.2.2.1 rfl (lv_at hl 1 rfl) ?_
  refine lv_icmp_ge (tgt := 56) hx hb eX8_readNumber_0.2.2.2.2.2.2.2.2.2.2.2.2.2.2.1 (by decide) (fun hc => ?_) (fun hc => ?_)
  · have hp := hp.1 hc
    refine lv_iload_n hx hb eX8_readNumber_56.1 rfl (lv_at hl 2 rfl) ?_
    exact W.iret (v := x2) hx hb hr (fun t ht hW => ⟨⟨x2, qJ, rfl, hp, by rw [ht]; exact hP, va_K.moved hW.alike hK, hD⟩, hS.F ht⟩) hS.2.2 eX8_readNumber_56.2
  · have hp := hp.2 hc
    refine lv_aload_n hx hb eX8_readNumber_0.2.2.2.2.2.2.2.2.2.2.2.2.2.2.2 rfl (lv_at hl 0 rfl) ?_
    refine g_calli (wc := (wd_X8_digitHere cI cC cZ cB cJ xG uT qI qJ rY qM)) hP hD hS hA [0, 1] [] rfl rfl rfl rfl (g_runV (As := []) (rest := []) C0 hP hD hS [0, 1] rfl rfl 0 8 rfl rfl (c_X8_digitHere l dC dI cI cC cZ cB cJ xG uT H.size qI qJ rY qM _ hp) q_25 q_28 q_26 q_27 q_5 h_X8_digitHere rfl rfl ⟨Nat.le_of_ble_eq_true rfl, Nat.le_of_ble_eq_true rfl⟩ rfl rfl hl.1 rfl (lv_room (Nat.le_of_ble_eq_true rfl)) eX8_readNumber_24.1 ⟨Nat.zero_le _, Nat.zero_le _⟩) (fun r_3 u H locs hp hP hD hS => ?_)
    have hPD := PDs (ws' := (wd_X8_readNumber cI cC cZ cB cJ xG uT qI qJ rY qM)) hP hD [0, 1] (by decide) rfl
    have hP := hPD.1
    have hD := hPD.2
    refine lv_istore (lv' := [(4, .int r_3), (0, .ref xG), (1, .int x1), (2, .int x2), (3, .int x3)]) hx hb eX8_readNumber_24.2.1 hl (by decide) rfl (fun ls hl => ?_)
    refine lv_iload hx hb eX8_readNumber_24.2.2.1 (lv_at hl 0 rfl) ?_
    refine lv_iconst (v := (-1)) hx hb eX8_readNumber_24.2.2.2.1 ic_m1 ?_
    refine lv_icmp_ne (tgt := 38) hx hb eX8_readNumber_24.2.2.2.2.1 (by decide) (fun hc => ?_) (fun hc => ?_)
    · have hp := hp.1 hc
      refine lv_iload_n hx hb eX8_readNumber_24.2.2.2.2.2.2.1 rfl (lv_at hl 3 rfl) ?_
      refine lv_bipush (v := 10) hx hb eX8_readNumber_24.2.2.2.2.2.2.2.1 bp_10 ?_
      refine lv_imul hx hb eX8_readNumber_24.2.2.2.2.2.2.2.2.1 ?_
      refine lv_topi (fun v_4 ev_4 => ?_)
      have hp := hp v_4 ev_4
      refine lv_iload hx hb eX8_readNumber_24.2.2.2.2.2.2.2.2.2.1 (lv_at hl 0 rfl) ?_
      refine lv_iadd hx hb eX8_readNumber_24.2.2.2.2.2.2.2.2.2.2.1 ?_
      refine lv_topi (fun v_5 ev_5 => ?_)
      have hp := hp v_5 ev_5
      refine lv_istore_n (lv' := [(2, .int v_5), (4, .int r_3), (0, .ref xG), (1, .int x1), (3, .int x3)]) hx hb eX8_readNumber_24.2.2.2.2.2.2.2.2.2.2.2.1 rfl hl (by decide) rfl (fun ls hl => ?_)
      refine lv_aload_n hx hb eX8_readNumber_24.2.2.2.2.2.2.2.2.2.2.2.2.1 rfl (lv_at hl 2 rfl) ?_
      refine g_callv (wc := (wd_X8_skip cI cC cZ cB cJ xG uT qI qJ rY)) hP hD hS hA [0] [1] rfl rfl rfl rfl (g_runV (As := []) (rest := []) C0 hP hD hS [0] rfl rfl 0 8 rfl rfl (c_X8_skip l dC dI cI cC cZ cB cJ xG uT H.size qI qJ rY _ hp) q_29 q_32 q_30 q_31 q_5 h_X8_skip rfl rfl ⟨Nat.le_of_ble_eq_true rfl, Nat.le_of_ble_eq_true rfl⟩ rfl rfl hl.1 rfl (lv_room (Nat.le_of_ble_eq_true rfl)) eX8_readNumber_24.2.2.2.2.2.2.2.2.2.2.2.2.2.1 ⟨Nat.zero_le _, Nat.zero_le _⟩) (fun u H locs hp hP hD hS => ?_)
      obtain ⟨yM, rfl⟩ : ∃ z, z = u := ⟨_, rfl⟩
      have hPD := PDs (ws' := (wd_X8_readNumber cI cC cZ cB cJ xG uT qI yM rY qM)) hP hD [1, 0] (by decide) rfl
      have hP := hPD.1
      have hD := hPD.2
      obtain ⟨v_7, ev_7⟩ : ∃ y : Int32, y = x3 + 1 := ⟨_, rfl⟩
      refine lv_iinc (v := v_7) (lv' := [(3, .int v_7), (2, .int v_5), (4, .int r_3), (0, .ref xG), (1, .int x1)]) hx hb eX8_readNumber_24.2.2.2.2.2.2.2.2.2.2.2.2.2.2.1 hl (k := 4) rfl (by rw [ev_7]; rfl) (by decide) rfl (fun ls hl => ?_)
      have hp := hp v_7 ev_7
      refine lv_goto (tgt := 18) hx hb eX8_readNumber_24.2.2.2.2.2.2.2.2.2.2.2.2.2.2.2 (by decide) ?_
      exact hKn x1 v_5 v_7 yM H locs ls hp hP hD hS (lv_sub hl [3, 4, 1, 0] rfl)
    · have hp := hp.2 hc
      refine lv_goto (tgt := 56) hx hb eX8_readNumber_24.2.2.2.2.2.1 (by decide) ?_
      refine lv_iload_n hx hb eX8_readNumber_56.1 rfl (lv_at hl 3 rfl) ?_
      exact W.iret (v := x2) hx hb hr (fun t ht hW => ⟨⟨x2, qJ, rfl, hp, by rw [ht]; exact hP, va_K.moved hW.alike hK, hD⟩, hS.F ht⟩) hS.2.2 eX8_readNumber_56.2
set_option maxHeartbeats 4000000 in
set_option maxRecDepth 100000 in
theorem kb_X8_readNumber_18 (C0 : gc cX8_readNumber (some .int) 5 RX8 (dC, dI) (tyl cI cC cZ cB cJ) A p s m args meth c) : ∀ (n : Nat), ∀ (x1 x2 x3 qJ : Int32) (H : Heap) (locs : List Loc) (ls : Array Slot), (wb_X8_readNumber_18 post rY qM n) x1 x2 x3 qJ → va_P (dC, dI) classes (wd_X8_readNumber cI cC cZ cB cJ xG uT qI qJ rY qM) H → va_D A (wd_X8_readNumber cI cC cZ cB cJ xG uT qI qJ rY qM) → va_S A s.heap H locs → lv_has ls 5 [(0, .ref xG), (1, .int x1), (2, .int x2), (3, .int x3)] → W p l e rm_X8_readNumber s m args below meth c H locs 0 0 (MQ below (q_X8_readNumber dC dI cI cC cZ cB cJ A xG uT qI rY qM post) args s 0 0 A) (F0 m 18 ls []) := by
  intro n
  induction n with
  | zero =>
    intro x1 x2 x3 qJ H locs ls hp
    exact False.elim hp
  | succ n ih =>
    intro x1 x2 x3 qJ H locs ls hp
    exact ks_X8_readNumber_18 C0 ih x1 x2 x3 qJ H locs ls hp
end S_X8_readNumber
noncomputable def wp_X8_readNumber (post : Int32 → Int32 → Prop) (p0 qJ rY : Int32) (qM : Nat → Int32) : Prop := wp_X8_digitHere (fun r_1 => (¬ r_1 = (-1) → wp_X8_skip (fun xO => ∃ n : Nat, wb_X8_readNumber_18 post rY qM n p0 r_1 1 xO) qJ rY) ∧ (r_1 = (-1) → post (-1) qJ)) qJ rY qM
set_option maxHeartbeats 4000000 in
set_option maxRecDepth 100000 in
theorem c_X8_readNumber (l : Launch) (dC : Nat → ClassId) (dI : Nat → Nat → Nat) (cI cC cZ cB cJ : ClassId) (xG uT sz : Nat) (p0 qI qJ rY : Int32) (qM : Nat → Int32) (post : Int32 → Int32 → Prop) (hw : wp_X8_readNumber post p0 qJ rY qM) : Met l yX8_readNumber (gw yX8_readNumber cX8_readNumber 5 (some .int)) rm_X8_readNumber (va_Pc [.ref xG, .int p0] (gPre (dC, dI) (tyl cI cC cZ cB cJ) (wd_X8_readNumber cI cC cZ cB cJ xG uT qI qJ rY qM) sz)) (q_X8_readNumber dC dI cI cC cZ cB cJ (va_A (wd_X8_readNumber cI cC cZ cB cJ xG uT qI qJ rY qM) sz) xG uT qI rY qM post) 0 0 (va_A (wd_X8_readNumber cI cC cZ cB cJ xG uT qI qJ rY qM) sz) := by
  refine g_enter (own := RX8) (dC, dI) (tyl cI cC cZ cB cJ) (wd_X8_readNumber cI cC cZ cB cJ xG uT qI qJ rY qM) sz [.ref xG, .int p0] (fun A => q_X8_readNumber dC dI cI cC cZ cB cJ A xG uT qI rY qM post) pn_RX8 rfl (Nat.le_of_ble_eq_true rfl) ?_
  intro p e s m args below meth c A H locs ls C0 hP hD hS hl
  have hl : lv_has ls 5 [(0, .ref xG), (1, .int p0)] := hl
  obtain ⟨hx, hb, hr, hml, hown, hts, hlocks, hA, hK, hN, tL, tM, hZL, hTL, hZM, hTM, hZX⟩ := id C0
  have hp := hw
  unfold wp_X8_readNumber at hp
  refine lv_aload_n hx hb eX8_readNumber_0.1 rfl (lv_at hl 0 rfl) ?_
  refine g_calli (wc := (wd_X8_digitHere cI cC cZ cB cJ xG uT qI qJ rY qM)) hP hD hS hA [0, 1] [] rfl rfl rfl rfl (g_runV (As := []) (rest := []) C0 hP hD hS [0, 1] rfl rfl 0 8 rfl rfl (c_X8_digitHere l dC dI cI cC cZ cB cJ xG uT H.size qI qJ rY qM _ hp) q_25 q_28 q_26 q_27 q_5 h_X8_digitHere rfl rfl ⟨Nat.le_of_ble_eq_true rfl, Nat.le_of_ble_eq_true rfl⟩ rfl rfl hl.1 rfl (lv_room (Nat.le_of_ble_eq_true rfl)) eX8_readNumber_0.2.1 ⟨Nat.zero_le _, Nat.zero_le _⟩) (fun r_1 u H locs hp hP hD hS => ?_)
  have hPD := PDs (ws' := (wd_X8_readNumber cI cC cZ cB cJ xG uT qI qJ rY qM)) hP hD [0, 1] (by decide) rfl
  have hP := hPD.1
  have hD := hPD.2
  refine lv_istore_n (lv' := [(2, .int r_1), (0, .ref xG), (1, .int p0)]) hx hb eX8_readNumber_0.2.2.1 rfl hl (by decide) rfl (fun ls hl => ?_)
  refine lv_iload_n hx hb eX8_readNumber_0.2.2.2.1 rfl (lv_at hl 0 rfl) ?_
  refine lv_iconst (v := (-1)) hx hb eX8_readNumber_0.2.2.2.2.1 ic_m1 ?_
  refine lv_icmp_ne (tgt := 12) hx hb eX8_readNumber_0.2.2.2.2.2.1 (by decide) (fun hc => ?_) (fun hc => ?_)
  · have hp := hp.1 hc
    refine lv_aload_n hx hb eX8_readNumber_0.2.2.2.2.2.2.2.2.1 rfl (lv_at hl 1 rfl) ?_
    refine g_callv (wc := (wd_X8_skip cI cC cZ cB cJ xG uT qI qJ rY)) hP hD hS hA [0] [1] rfl rfl rfl rfl (g_runV (As := []) (rest := []) C0 hP hD hS [0] rfl rfl 0 8 rfl rfl (c_X8_skip l dC dI cI cC cZ cB cJ xG uT H.size qI qJ rY _ hp) q_29 q_32 q_30 q_31 q_5 h_X8_skip rfl rfl ⟨Nat.le_of_ble_eq_true rfl, Nat.le_of_ble_eq_true rfl⟩ rfl rfl hl.1 rfl (lv_room (Nat.le_of_ble_eq_true rfl)) eX8_readNumber_0.2.2.2.2.2.2.2.2.2.1 ⟨Nat.zero_le _, Nat.zero_le _⟩) (fun u H locs hp hP hD hS => ?_)
    obtain ⟨xO, rfl⟩ : ∃ z, z = u := ⟨_, rfl⟩
    have hPD := PDs (ws' := (wd_X8_readNumber cI cC cZ cB cJ xG uT qI xO rY qM)) hP hD [1, 0] (by decide) rfl
    have hP := hPD.1
    have hD := hPD.2
    refine lv_iconst (v := 1) hx hb eX8_readNumber_0.2.2.2.2.2.2.2.2.2.2.1 ic_1 ?_
    refine lv_istore_n (lv' := [(3, .int 1), (2, .int r_1), (0, .ref xG), (1, .int p0)]) hx hb eX8_readNumber_0.2.2.2.2.2.2.2.2.2.2.2.1 rfl hl (by decide) rfl (fun ls hl => ?_)
    obtain ⟨n9, hp⟩ := hp
    exact kb_X8_readNumber_18 C0 n9 p0 r_1 1 xO H locs ls hp hP hD hS (lv_sub hl [2, 3, 1, 0] rfl)
  · have hp := hp.2 hc
    refine lv_iconst (v := (-1)) hx hb eX8_readNumber_0.2.2.2.2.2.2.1 ic_m1 ?_
    exact W.iret (v := (-1)) hx hb hr (fun t ht hW => ⟨⟨(-1), qJ, rfl, hp, by rw [ht]; exact hP, va_K.moved hW.alike hK, hD⟩, hS.F ht⟩) hS.2.2 eX8_readNumber_0.2.2.2.2.2.2.2.1
noncomputable abbrev wd_X8_take (cI cC cZ cB cJ : ClassId) (xG uT : Nat) (qI qJ rY : Int32) (qM : Nat → Int32) : va_W := [(xG, .inr (8, [.ref uT, .int qI, .int qJ, .int rY])), (uT, .inl (cC, 80, .inl qM))]
noncomputable abbrev q_X8_take (dC : Nat → ClassId) (dI : Nat → Nat → Nat) (cI cC cZ cB cJ : ClassId) (A : Nat → Prop) (xG uT : Nat) (qI rY : Int32) (qM : Nat → Int32) (post : Int32 → Int32 → Prop) : Array Value → State → Outcome → State → Prop := va_Qi (fun (r u : Int32) => post r u) (fun u t => gB (dC, dI) (tyl cI cC cZ cB cJ) A (wd_X8_take cI cC cZ cB cJ xG uT qI u rY qM) t) A
noncomputable abbrev rm_X8_take : Room := { frames := 1, cells := 0, slots := 0, locals := 20 }
noncomputable def wp_X8_take (post : Int32 → Int32 → Prop) (p0 qJ rY : Int32) (qM : Nat → Int32) : Prop := wp_X8_here (fun r_1 => (r_1 = p0 → ∀ v_2 : Int32, v_2 = qJ + 1 → post 1 v_2) ∧ (¬ r_1 = p0 → post 0 qJ)) qJ rY qM
set_option maxHeartbeats 4000000 in
set_option maxRecDepth 100000 in
theorem c_X8_take (l : Launch) (dC : Nat → ClassId) (dI : Nat → Nat → Nat) (cI cC cZ cB cJ : ClassId) (xG uT sz : Nat) (p0 qI qJ rY : Int32) (qM : Nat → Int32) (post : Int32 → Int32 → Prop) (hw : wp_X8_take post p0 qJ rY qM) : Met l yX8_take (gw yX8_take cX8_take 2 (some .boolean)) rm_X8_take (va_Pc [.ref xG, .int p0] (gPre (dC, dI) (tyl cI cC cZ cB cJ) (wd_X8_take cI cC cZ cB cJ xG uT qI qJ rY qM) sz)) (q_X8_take dC dI cI cC cZ cB cJ (va_A (wd_X8_take cI cC cZ cB cJ xG uT qI qJ rY qM) sz) xG uT qI rY qM post) 0 0 (va_A (wd_X8_take cI cC cZ cB cJ xG uT qI qJ rY qM) sz) := by
  refine g_enter (own := RX8) (dC, dI) (tyl cI cC cZ cB cJ) (wd_X8_take cI cC cZ cB cJ xG uT qI qJ rY qM) sz [.ref xG, .int p0] (fun A => q_X8_take dC dI cI cC cZ cB cJ A xG uT qI rY qM post) pn_RX8 rfl (Nat.le_of_ble_eq_true rfl) ?_
  intro p e s m args below meth c A H locs ls C0 hP hD hS hl
  have hl : lv_has ls 2 [(0, .ref xG), (1, .int p0)] := hl
  obtain ⟨hx, hb, hr, hml, hown, hts, hlocks, hA, hK, hN, tL, tM, hZL, hTL, hZM, hTM, hZX⟩ := id C0
  have hp := hw
  unfold wp_X8_take at hp
  refine lv_aload_n hx hb eX8_take_0.1 rfl (lv_at hl 0 rfl) ?_
  refine g_calli (wc := (wd_X8_here cI cC cZ cB cJ xG uT qI qJ rY qM)) hP hD hS hA [0, 1] [] rfl rfl rfl rfl (g_runV (As := []) (rest := []) C0 hP hD hS [0, 1] rfl rfl 0 8 rfl rfl (c_X8_here l dC dI cI cC cZ cB cJ xG uT H.size qI qJ rY qM _ hp) q_33 q_36 q_34 q_35 q_5 h_X8_here rfl rfl ⟨Nat.le_of_ble_eq_true rfl, Nat.le_of_ble_eq_true rfl⟩ rfl rfl hl.1 rfl (lv_room (Nat.le_of_ble_eq_true rfl)) eX8_take_0.2.1 ⟨Nat.zero_le _, Nat.zero_le _⟩) (fun r_1 u H locs hp hP hD hS => ?_)
  have hPD := PDs (ws' := (wd_X8_take cI cC cZ cB cJ xG uT qI qJ rY qM)) hP hD [0, 1] (by decide) rfl
  have hP := hPD.1
  have hD := hPD.2
  refine lv_iload_n hx hb eX8_take_0.2.2.1 rfl (lv_at hl 1 rfl) ?_
  refine lv_icmp_eq (tgt := 10) hx hb eX8_take_0.2.2.2.1 (by decide) (fun hc => ?_) (fun hc => ?_)
  · have hp := hp.1 hc
    refine lv_aload_n hx hb eX8_take_0.2.2.2.2.2.2.1 rfl (lv_at hl 0 rfl) ?_
    refine lv_dup hx hb eX8_take_0.2.2.2.2.2.2.2.1 rfl ?_
    refine va_get (D := (dC, dI)) (ci := 8) (v := .int qJ) (C := RX8) (T := TX8) (N := 4) hx hb hts i_X8 hown hK hP 0 rfl rfl 2 (Nat.le_of_ble_eq_true rfl) (hts _ q_13) (fun _ h9 => h9) rfl eX8_take_0.2.2.2.2.2.2.2.2.1 ?_
    refine lv_iconst (v := 1) hx hb eX8_take_0.2.2.2.2.2.2.2.2.2.1 ic_1 ?_
    refine lv_iadd hx hb eX8_take_0.2.2.2.2.2.2.2.2.2.2.1 ?_
    refine lv_topi (fun v_2 ev_2 => ?_)
    have hp := hp v_2 ev_2
    refine va_put (D := (dC, dI)) (ci := 8) (v := .int v_2) (ty := .int) (C := RX8) (T := TX8) (N := 4) hx hb hts i_X8 tyX8 tyX8_ok nmX8 hown hK hP hD hS 0 rfl rfl 2 (Nat.le_of_ble_eq_true rfl) (hts _ q_13) (fun _ h9 => h9) rfl (tyX8_ok 2 (Nat.le_of_ble_eq_true rfl)) rfl rfl (Nat.le_of_ble_eq_true rfl) eX8_take_0.2.2.2.2.2.2.2.2.2.2.2.1 (fun H locs hP hD hS => ?_)
    have hP : va_P (dC, dI) classes (wd_X8_take cI cC cZ cB cJ xG uT qI v_2 rY qM) H := hP
    have hD : va_D A (wd_X8_take cI cC cZ cB cJ xG uT qI v_2 rY qM) := hD
    refine lv_iconst (v := 1) hx hb eX8_take_0.2.2.2.2.2.2.2.2.2.2.2.2.1 ic_1 ?_
    exact W.zret (v := 1) hx hb hr rfl (fun t ht hW => ⟨⟨1, v_2, rfl, hp, by rw [ht]; exact hP, va_K.moved hW.alike hK, hD⟩, hS.F ht⟩) hS.2.2 eX8_take_0.2.2.2.2.2.2.2.2.2.2.2.2.2
  · have hp := hp.2 hc
    refine lv_iconst (v := 0) hx hb eX8_take_0.2.2.2.2.1 ic_0 ?_
    exact W.zret (v := 0) hx hb hr rfl (fun t ht hW => ⟨⟨0, qJ, rfl, hp, by rw [ht]; exact hP, va_K.moved hW.alike hK, hD⟩, hS.F ht⟩) hS.2.2 eX8_take_0.2.2.2.2.2.1
noncomputable abbrev wd_X3_readPair (cI cC cZ cB cJ : ClassId) (xG uT tX jE : Nat) (qI qJ rY : Int32) (qM wD gF : Nat → Int32) : va_W := [(xG, .inr (8, [.ref uT, .int qI, .int qJ, .int rY])), (uT, .inl (cC, 80, .inl qM)), (tX, .inl (cI, 16, .inl wD)), (jE, .inl (cI, 16, .inl gF))]
noncomputable abbrev q_X3_readPair (dC : Nat → ClassId) (dI : Nat → Nat → Nat) (cI cC cZ cB cJ : ClassId) (A : Nat → Prop) (xG uT tX jE : Nat) (qI rY : Int32) (qM : Nat → Int32) (post : Int32 → Int32 → (Nat → Int32) → (Nat → Int32) → Prop) : Array Value → State → Outcome → State → Prop := va_Qi (fun (r : Int32) (u : Int32 × (Nat → Int32) × (Nat → Int32)) => post r u.1 u.2.1 u.2.2) (fun u t => gB (dC, dI) (tyl cI cC cZ cB cJ) A (wd_X3_readPair cI cC cZ cB cJ xG uT tX jE qI u.1 rY qM u.2.1 u.2.2) t) A
noncomputable abbrev rm_X3_readPair : Room := { frames := 2, cells := 0, slots := 0, locals := 45 }
noncomputable def wp_X3_readPair (post : Int32 → Int32 → (Nat → Int32) → (Nat → Int32) → Prop) (p3 qJ rY : Int32) (qM wD gF : Nat → Int32) : Prop := wp_X8_readNumber (fun r_1 xO => (r_1 = (-1) → post 0 xO wD gF) ∧ (¬ r_1 = (-1) → wp_X8_take (fun r_3 xU => (¬ r_3 = 0 → wp_X8_readNumber (fun r_5 yM => (r_5 = (-1) → post 0 yM wD gF) ∧ (¬ r_5 = (-1) → (p3 < 0 → post 0 yM wD gF) ∧ (¬ p3 < 0 → (16 ≤ p3 → post 0 yM wD gF) ∧ (¬ 16 ≤ p3 → (p3 < 16 → vp_in p3 16 ∧ (vp_in p3 16 ∧ (post 1 yM (upd wD p3.toNatClampNeg r_1) (upd gF p3.toNatClampNeg r_5)))) ∧ (¬ p3 < 16 → post 0 yM wD gF))))) 2 xU rY qM) ∧ (r_3 = 0 → post 0 xU wD gF)) 44 xO rY qM)) 2 qJ rY qM
set_option maxHeartbeats 4000000 in
set_option maxRecDepth 100000 in
theorem c_X3_readPair (l : Launch) (dC : Nat → ClassId) (dI : Nat → Nat → Nat) (cI cC cZ cB cJ : ClassId) (xG uT tX jE sz : Nat) (p3 qI qJ rY : Int32) (qM wD gF : Nat → Int32) (post : Int32 → Int32 → (Nat → Int32) → (Nat → Int32) → Prop) (hw : wp_X3_readPair post p3 qJ rY qM wD gF) : Met l yX3_readPair (gw yX3_readPair cX3_readPair 6 (some .boolean)) rm_X3_readPair (va_Pc [.ref xG, .ref tX, .ref jE, .int p3] (gPre (dC, dI) (tyl cI cC cZ cB cJ) (wd_X3_readPair cI cC cZ cB cJ xG uT tX jE qI qJ rY qM wD gF) sz)) (q_X3_readPair dC dI cI cC cZ cB cJ (va_A (wd_X3_readPair cI cC cZ cB cJ xG uT tX jE qI qJ rY qM wD gF) sz) xG uT tX jE qI rY qM post) 0 0 (va_A (wd_X3_readPair cI cC cZ cB cJ xG uT tX jE qI qJ rY qM wD gF) sz) := by
  refine g_enter (own := RX3) (dC, dI) (tyl cI cC cZ cB cJ) (wd_X3_readPair cI cC cZ cB cJ xG uT tX jE qI qJ rY qM wD gF) sz [.ref xG, .ref tX, .ref jE, .int p3] (fun A => q_X3_readPair dC dI cI cC cZ cB cJ A xG uT tX jE qI rY qM post) pn_RX3 rfl (Nat.le_of_ble_eq_true rfl) ?_
  intro p e s m args below meth c A H locs ls C0 hP hD hS hl
  have hl : lv_has ls 6 [(0, .ref xG), (1, .ref tX), (2, .ref jE), (3, .int p3)] := hl
  obtain ⟨hx, hb, hr, hml, hown, hts, hlocks, hA, hK, hN, tL, tM, hZL, hTL, hZM, hTM, hZX⟩ := id C0
  have hp := hw
  unfold wp_X3_readPair at hp
  refine lv_aload_n hx hb eX3_readPair_0.1 rfl (lv_at hl 0 rfl) ?_
  refine lv_iconst (v := 2) hx hb eX3_readPair_0.2.1 ic_2 ?_
  have hm := mgk (wc := (wd_X8_readNumber cI cC cZ cB cJ xG uT qI qJ rY qM)) hP mk_1 4 rfl rfl rfl
  refine g_calli hP hD hS hA (mixT mk_1) (mixF mk_1) hm.1 hm.2 (nd_F _) (dis_g _) (g_runV (As := [.int 2]) (rest := []) C0 hP hD hS (mixT mk_1) hm.1 (nd_T _) 0 8 rfl rfl (c_X8_readNumber l dC dI cI cC cZ cB cJ xG uT H.size 2 qI qJ rY qM _ hp) q_37 q_40 q_38 q_39 q_5 h_X8_readNumber rfl rfl ⟨Nat.le_of_ble_eq_true rfl, Nat.le_of_ble_eq_true rfl⟩ rfl rfl hl.1 rfl (lv_room (Nat.le_of_ble_eq_true rfl)) eX3_readPair_0.2.2.1 ⟨Nat.zero_le _, Nat.zero_le _⟩) (fun r_1 u H locs hp hP hD hS => ?_)
  obtain ⟨xO, rfl⟩ : ∃ z, z = u := ⟨_, rfl⟩
  have hPD := PDm (ws' := (wd_X3_readPair cI cC cZ cB cJ xG uT tX jE qI xO rY qM wD gF)) hP hD 4 rfl rfl rfl
  have hP := hPD.1
  have hD := hPD.2
  refine lv_istore (lv' := [(4, .int r_1), (0, .ref xG), (1, .ref tX), (2, .ref jE), (3, .int p3)]) hx hb eX3_readPair_0.2.2.2.1 hl (by decide) rfl (fun ls hl => ?_)
  refine lv_iload hx hb eX3_readPair_0.2.2.2.2.1 (lv_at hl 0 rfl) ?_
  refine lv_iconst (v := (-1)) hx hb eX3_readPair_0.2.2.2.2.2.1 ic_m1 ?_
  refine lv_icmp_eq (tgt := 22) hx hb eX3_readPair_0.2.2.2.2.2.2.1 (by decide) (fun hc => ?_) (fun hc => ?_)
  · have hp := hp.1 hc
    refine lv_iconst (v := 0) hx hb eX3_readPair_0.2.2.2.2.2.2.2.2.2.2.2.1 ic_0 ?_
    exact W.zret (v := 0) hx hb hr rfl (fun t ht hW => ⟨⟨0, (xO, wD, gF), rfl, hp, by rw [ht]; exact hP, va_K.moved hW.alike hK, hD⟩, hS.F ht⟩) hS.2.2 eX3_readPair_0.2.2.2.2.2.2.2.2.2.2.2.2.1
  · have hp := hp.2 hc
    refine lv_aload_n hx hb eX3_readPair_0.2.2.2.2.2.2.2.1 rfl (lv_at hl 1 rfl) ?_
    refine lv_bipush (v := 44) hx hb eX3_readPair_0.2.2.2.2.2.2.2.2.1 bp_44 ?_
    have hm := mgk (wc := (wd_X8_take cI cC cZ cB cJ xG uT qI xO rY qM)) hP mk_1 4 rfl rfl rfl
    refine g_calli hP hD hS hA (mixT mk_1) (mixF mk_1) hm.1 hm.2 (nd_F _) (dis_g _) (g_runV (As := [.int 44]) (rest := []) C0 hP hD hS (mixT mk_1) hm.1 (nd_T _) 0 8 rfl rfl (c_X8_take l dC dI cI cC cZ cB cJ xG uT H.size 44 qI xO rY qM _ hp) q_41 q_44 q_42 q_43 q_5 h_X8_take rfl rfl ⟨Nat.le_of_ble_eq_true rfl, Nat.le_of_ble_eq_true rfl⟩ rfl rfl hl.1 rfl (lv_room (Nat.le_of_ble_eq_true rfl)) eX3_readPair_0.2.2.2.2.2.2.2.2.2.1 ⟨Nat.zero_le _, Nat.zero_le _⟩) (fun r_3 u H locs hp hP hD hS => ?_)
    obtain ⟨xU, rfl⟩ : ∃ z, z = u := ⟨_, rfl⟩
    have hPD := PDm (ws' := (wd_X3_readPair cI cC cZ cB cJ xG uT tX jE qI xU rY qM wD gF)) hP hD 4 rfl rfl rfl
    have hP := hPD.1
    have hD := hPD.2
    refine lv_if_ne (tgt := 24) hx hb eX3_readPair_0.2.2.2.2.2.2.2.2.2.2.1 (by decide) (fun hc => ?_) (fun hc => ?_)
    · have hp := hp.1 hc
      refine lv_aload_n hx hb eX3_readPair_0.2.2.2.2.2.2.2.2.2.2.2.2.2.1 rfl (lv_at hl 1 rfl) ?_
      refine lv_iconst (v := 2) hx hb eX3_readPair_0.2.2.2.2.2.2.2.2.2.2.2.2.2.2.1 ic_2 ?_
      have hm := mgk (wc := (wd_X8_readNumber cI cC cZ cB cJ xG uT qI xU rY qM)) hP mk_1 4 rfl rfl rfl
      refine g_calli hP hD hS hA (mixT mk_1) (mixF mk_1) hm.1 hm.2 (nd_F _) (dis_g _) (g_runV (As := [.int 2]) (rest := []) C0 hP hD hS (mixT mk_1) hm.1 (nd_T _) 0 8 rfl rfl (c_X8_readNumber l dC dI cI cC cZ cB cJ xG uT H.size 2 qI xU rY qM _ hp) q_37 q_40 q_38 q_39 q_5 h_X8_readNumber rfl rfl ⟨Nat.le_of_ble_eq_true rfl, Nat.le_of_ble_eq_true rfl⟩ rfl rfl hl.1 rfl (lv_room (Nat.le_of_ble_eq_true rfl)) eX3_readPair_0.2.2.2.2.2.2.2.2.2.2.2.2.2.2.2 ⟨Nat.zero_le _, Nat.zero_le _⟩) (fun r_5 u H locs hp hP hD hS => ?_)
      obtain ⟨yM, rfl⟩ : ∃ z, z = u := ⟨_, rfl⟩
      have hPD := PDm (ws' := (wd_X3_readPair cI cC cZ cB cJ xG uT tX jE qI yM rY qM wD gF)) hP hD 4 rfl rfl rfl
      have hP := hPD.1
      have hD := hPD.2
      refine lv_istore (lv' := [(5, .int r_5), (4, .int r_1), (0, .ref xG), (1, .ref tX), (2, .ref jE), (3, .int p3)]) hx hb eX3_readPair_29.1 hl (by decide) rfl (fun ls hl => ?_)
      refine lv_iload hx hb eX3_readPair_29.2.1 (lv_at hl 0 rfl) ?_
      refine lv_iconst (v := (-1)) hx hb eX3_readPair_29.2.2.1 ic_m1 ?_
      refine lv_icmp_eq (tgt := 53) hx hb eX3_readPair_29.2.2.2.1 (by decide) (fun hc => ?_) (fun hc => ?_)
      · have hp := hp.1 hc
        refine lv_iconst (v := 0) hx hb eX3_readPair_29.2.2.2.2.2.2.2.2.2.2.2.2.2.2.1 ic_0 ?_
        exact W.zret (v := 0) hx hb hr rfl (fun t ht hW => ⟨⟨0, (yM, wD, gF), rfl, hp, by rw [ht]; exact hP, va_K.moved hW.alike hK, hD⟩, hS.F ht⟩) hS.2.2 eX3_readPair_29.2.2.2.2.2.2.2.2.2.2.2.2.2.2.2
      · have hp := hp.2 hc
        refine lv_iload_n hx hb eX3_readPair_29.2.2.2.2.1 rfl (lv_at hl 5 rfl) ?_
        refine lv_if_lt (tgt := 53) hx hb eX3_readPair_29.2.2.2.2.2.1 (by decide) (fun hc => ?_) (fun hc => ?_)
        · have hp := hp.1 hc
          refine lv_iconst (v := 0) hx hb eX3_readPair_29.2.2.2.2.2.2.2.2.2.2.2.2.2.2.1 ic_0 ?_
          exact W.zret (v := 0) hx hb hr rfl (fun t ht hW => ⟨⟨0, (yM, wD, gF), rfl, hp, by rw [ht]; exact hP, va_K.moved hW.alike hK, hD⟩, hS.F ht⟩) hS.2.2 eX3_readPair_29.2.2.2.2.2.2.2.2.2.2.2.2.2.2.2
        · have hp := hp.2 hc
          refine lv_iload_n hx hb eX3_readPair_29.2.2.2.2.2.2.1 rfl (lv_at hl 5 rfl) ?_
          refine lv_aload_n hx hb eX3_readPair_29.2.2.2.2.2.2.2.1 rfl (lv_at hl 3 rfl) ?_
          refine va_alen (v := 16) hx hb hK hP 2 0 rfl rfl rfl eX3_readPair_29.2.2.2.2.2.2.2.2.1 ?_
          refine lv_icmp_ge (tgt := 53) hx hb eX3_readPair_29.2.2.2.2.2.2.2.2.2.1 (by decide) (fun hc => ?_) (fun hc => ?_)
          · have hp := hp.1 hc
            refine lv_iconst (v := 0) hx hb eX3_readPair_29.2.2.2.2.2.2.2.2.2.2.2.2.2.2.1 ic_0 ?_
            exact W.zret (v := 0) hx hb hr rfl (fun t ht hW => ⟨⟨0, (yM, wD, gF), rfl, hp, by rw [ht]; exact hP, va_K.moved hW.alike hK, hD⟩, hS.F ht⟩) hS.2.2 eX3_readPair_29.2.2.2.2.2.2.2.2.2.2.2.2.2.2.2
          · have hp := hp.2 hc
            refine lv_iload_n hx hb eX3_readPair_29.2.2.2.2.2.2.2.2.2.2.1 rfl (lv_at hl 5 rfl) ?_
            refine lv_aload_n hx hb eX3_readPair_29.2.2.2.2.2.2.2.2.2.2.2.1 rfl (lv_at hl 4 rfl) ?_
            refine va_alen (v := 16) hx hb hK hP 3 0 rfl rfl rfl eX3_readPair_29.2.2.2.2.2.2.2.2.2.2.2.2.1 ?_
            refine lv_icmp_lt (tgt := 55) hx hb eX3_readPair_29.2.2.2.2.2.2.2.2.2.2.2.2.2.1 (by decide) (fun hc => ?_) (fun hc => ?_)
            · have hp := hp.1 hc
              refine lv_aload_n hx hb eX3_readPair_55.1 rfl (lv_at hl 3 rfl) ?_
              refine lv_iload_n hx hb eX3_readPair_55.2.1 rfl (lv_at hl 5 rfl) ?_
              refine lv_iload hx hb eX3_readPair_55.2.2.1 (lv_at hl 1 rfl) ?_
              have hin := hp.1
              have hp := hp.2
              refine va_iast hx hb hK hP hD hS 2 0 rfl rfl hin eX3_readPair_55.2.2.2.1 (fun H locs hP hD hS => ?_)
              have hP : va_P (dC, dI) classes (wd_X3_readPair cI cC cZ cB cJ xG uT tX jE qI yM rY qM (upd wD p3.toNatClampNeg r_1) gF) H := hP
              have hD : va_D A (wd_X3_readPair cI cC cZ cB cJ xG uT tX jE qI yM rY qM (upd wD p3.toNatClampNeg r_1) gF) := hD
              refine lv_aload_n hx hb eX3_readPair_55.2.2.2.2.1 rfl (lv_at hl 4 rfl) ?_
              refine lv_iload_n hx hb eX3_readPair_55.2.2.2.2.2.1 rfl (lv_at hl 5 rfl) ?_
              refine lv_iload hx hb eX3_readPair_55.2.2.2.2.2.2.1 (lv_at hl 0 rfl) ?_
              have hin := hp.1
              have hp := hp.2
              refine va_iast hx hb hK hP hD hS 3 0 rfl rfl hin eX3_readPair_55.2.2.2.2.2.2.2.1 (fun H locs hP hD hS => ?_)
              have hP : va_P (dC, dI) classes (wd_X3_readPair cI cC cZ cB cJ xG uT tX jE qI yM rY qM (upd wD p3.toNatClampNeg r_1) (upd gF p3.toNatClampNeg r_5)) H := hP
              have hD : va_D A (wd_X3_readPair cI cC cZ cB cJ xG uT tX jE qI yM rY qM (upd wD p3.toNatClampNeg r_1) (upd gF p3.toNatClampNeg r_5)) := hD
              refine lv_iconst (v := 1) hx hb eX3_readPair_55.2.2.2.2.2.2.2.2.1 ic_1 ?_
              exact W.zret (v := 1) hx hb hr rfl (fun t ht hW => ⟨⟨1, (yM, (upd wD p3.toNatClampNeg r_1), (upd gF p3.toNatClampNeg r_5)), rfl, hp, by rw [ht]; exact hP, va_K.moved hW.alike hK, hD⟩, hS.F ht⟩) hS.2.2 eX3_readPair_55.2.2.2.2.2.2.2.2.2
            · have hp := hp.2 hc
              refine lv_iconst (v := 0) hx hb eX3_readPair_29.2.2.2.2.2.2.2.2.2.2.2.2.2.2.1 ic_0 ?_
              exact W.zret (v := 0) hx hb hr rfl (fun t ht hW => ⟨⟨0, (yM, wD, gF), rfl, hp, by rw [ht]; exact hP, va_K.moved hW.alike hK, hD⟩, hS.F ht⟩) hS.2.2 eX3_readPair_29.2.2.2.2.2.2.2.2.2.2.2.2.2.2.2
    · have hp := hp.2 hc
      refine lv_iconst (v := 0) hx hb eX3_readPair_0.2.2.2.2.2.2.2.2.2.2.2.1 ic_0 ?_
      exact W.zret (v := 0) hx hb hr rfl (fun t ht hW => ⟨⟨0, (xU, wD, gF), rfl, hp, by rw [ht]; exact hP, va_K.moved hW.alike hK, hD⟩, hS.F ht⟩) hS.2.2 eX3_readPair_0.2.2.2.2.2.2.2.2.2.2.2.2.1
noncomputable abbrev wd_X3_readFruit (cI cC cZ cB cJ : ClassId) (xG uT wJ tX jE mX pD oO oQ eG : Nat) (qI qJ rY : Int32) (qM : Nat → Int32) (bZ bD bI aI : Int32) (wD gF pE qA : Nat → Int32) : va_W := [(xG, .inr (8, [.ref uT, .int qI, .int qJ, .int rY])), (uT, .inl (cC, 80, .inl qM)), (wJ, .inr (3, [.ref tX, .ref jE, .ref mX, .ref pD, .ref oO, .ref oQ, .ref eG, .int bZ, .int bD, .int bI, .int aI])), (tX, .inl (cI, 16, .inl wD)), (jE, .inl (cI, 16, .inl gF)), (mX, .inl (cI, 16, .inl pE)), (pD, .inl (cI, 16, .inl qA))]
noncomputable abbrev q_X3_readFruit (dC : Nat → ClassId) (dI : Nat → Nat → Nat) (cI cC cZ cB cJ : ClassId) (A : Nat → Prop) (xG uT wJ tX jE mX pD oO oQ eG : Nat) (qI rY : Int32) (qM : Nat → Int32) (bZ bD aI : Int32) (post : Int32 → Int32 → Int32 → (Nat → Int32) → (Nat → Int32) → (Nat → Int32) → (Nat → Int32) → Prop) : Array Value → State → Outcome → State → Prop := va_Qi (fun (r : Int32) (u : Int32 × Int32 × (Nat → Int32) × (Nat → Int32) × (Nat → Int32) × (Nat → Int32)) => post r u.1 u.2.1 u.2.2.1 u.2.2.2.1 u.2.2.2.2.1 u.2.2.2.2.2) (fun u t => gB (dC, dI) (tyl cI cC cZ cB cJ) A (wd_X3_readFruit cI cC cZ cB cJ xG uT wJ tX jE mX pD oO oQ eG qI u.1 rY qM bZ bD u.2.1 aI u.2.2.1 u.2.2.2.1 u.2.2.2.2.1 u.2.2.2.2.2) t) A
noncomputable abbrev rm_X3_readFruit : Room := { frames := 3, cells := 0, slots := 0, locals := 70 }
section S_X3_readFruit
variable {p : Program} {l : Launch} {e : Env} {s : State} {m : MethodId} {args : Array Value} {below : List Frame} {meth : Method} {c : Code} {dC : Nat → ClassId} {dI : Nat → Nat → Nat} {cI cC cZ cB cJ : ClassId} {A : Nat → Prop} {xG uT wJ tX jE mX pD oO oQ eG : Nat} {qI rY : Int32} {qM : Nat → Int32} {bZ bD aI : Int32} {post : Int32 → Int32 → Int32 → (Nat → Int32) → (Nat → Int32) → (Nat → Int32) → (Nat → Int32) → Prop}
noncomputable def ws_X3_readFruit_82 (post : Int32 → Int32 → Int32 → (Nat → Int32) → (Nat → Int32) → (Nat → Int32) → (Nat → Int32) → Prop) (rY : Int32) (qM : Nat → Int32) (x2 k1 k2 qJ bI : Int32) (wD gF pE qA : Nat → Int32) : Prop := vp_in k1 16 ∧ (vp_in x2 16 ∧ (∀ v_10 : Int32, v_10 = (upd qA k1.toNatClampNeg k2) x2.toNatClampNeg → (¬ v_10 = (-1) → ∀ v_11 : Int32, v_11 = bI + 1 → post 1 qJ v_11 wD gF pE (upd qA k1.toNatClampNeg k2)) ∧ (v_10 = (-1) → post 0 qJ bI wD gF pE (upd qA k1.toNatClampNeg k2))))
set_option maxHeartbeats 4000000 in
set_option maxRecDepth 100000 in
theorem ks_X3_readFruit_82 (C0 : gc cX3_readFruit (some .boolean) 3 RX3 (dC, dI) (tyl cI cC cZ cB cJ) A p s m args meth c) : ∀ (x2 k1 k2 qJ bI : Int32) (wD gF pE qA : Nat → Int32) (H : Heap) (locs : List Loc) (ls : Array Slot), (ws_X3_readFruit_82 post rY qM) x2 k1 k2 qJ bI wD gF pE qA → va_P (dC, dI) classes (wd_X3_readFruit cI cC cZ cB cJ xG uT wJ tX jE mX pD oO oQ eG qI qJ rY qM bZ bD bI aI wD gF pE qA) H → va_D A (wd_X3_readFruit cI cC cZ cB cJ xG uT wJ tX jE mX pD oO oQ eG qI qJ rY qM bZ bD bI aI wD gF pE qA) → va_S A s.heap H locs → lv_has ls 3 [(0, .ref wJ), (2, .int x2)] → W p l e rm_X3_readFruit s m args below meth c H locs 0 0 (MQ below (q_X3_readFruit dC dI cI cC cZ cB cJ A xG uT wJ tX jE mX pD oO oQ eG qI rY qM bZ bD aI post) args s 0 0 A) (F0 m 82 ls [.int k2, .int k1, .ref pD]) := by
  obtain ⟨hx, hb, hr, hml, hown, hts, hlocks, hA, hK, hN, tL, tM, hZL, hTL, hZM, hTM, hZX⟩ := id C0
  intro x2 k1 k2 qJ bI wD gF pE qA H locs ls hp hP hD hS hl
  unfold ws_X3_readFruit_82 at hp
  have hin := hp.1
  have hp := hp.2
  refine va_iast hx hb hK hP hD hS 6 0 rfl rfl hin eX3_readFruit_64.2.2.2.2.2.2.2.2.2.1 (fun H locs hP hD hS => ?_)
  have hP : va_P (dC, dI) classes (wd_X3_readFruit cI cC cZ cB cJ xG uT wJ tX jE mX pD oO oQ eG qI qJ rY qM bZ bD bI aI wD gF pE (upd qA k1.toNatClampNeg k2)) H := hP
  have hD : va_D A (wd_X3_readFruit cI cC cZ cB cJ xG uT wJ tX jE mX pD oO oQ eG qI qJ rY qM bZ bD bI aI wD gF pE (upd qA k1.toNatClampNeg k2)) := hD
  refine lv_aload_n hx hb eX3_readFruit_64.2.2.2.2.2.2.2.2.2.2.1 rfl (lv_at hl 0 rfl) ?_
  refine va_get (D := (dC, dI)) (ci := 3) (v := .ref pD) (C := RX3) (T := TX3) (N := 11) hx hb hts i_X3 hown hK hP 2 rfl rfl 3 (Nat.le_of_ble_eq_true rfl) (hts _ q_52) (fun _ h9 => h9) rfl eX3_readFruit_64.2.2.2.2.2.2.2.2.2.2.2.1 ?_
  refine lv_iload_n hx hb eX3_readFruit_64.2.2.2.2.2.2.2.2.2.2.2.2.1 rfl (lv_at hl 1 rfl) ?_
  have hin := hp.1
  have hp := hp.2
  refine va_iald hx hb hK hP 6 0 rfl rfl hin eX3_readFruit_64.2.2.2.2.2.2.2.2.2.2.2.2.2.1 ?_
  refine lv_topi (fun v_10 ev_10 => ?_)
  have hp := hp v_10 ev_10
  refine lv_iconst (v := (-1)) hx hb eX3_readFruit_64.2.2.2.2.2.2.2.2.2.2.2.2.2.2.1 ic_m1 ?_
  refine lv_icmp_ne (tgt := 95) hx hb eX3_readFruit_64.2.2.2.2.2.2.2.2.2.2.2.2.2.2.2 (by decide) (fun hc => ?_) (fun hc => ?_)
  · have hp := hp.1 hc
    refine lv_aload_n hx hb eX3_readFruit_93.2.2.1 rfl (lv_at hl 0 rfl) ?_
    refine lv_dup hx hb eX3_readFruit_93.2.2.2.1 rfl ?_
    refine va_get (D := (dC, dI)) (ci := 3) (v := .int bI) (C := RX3) (T := TX3) (N := 11) hx hb hts i_X3 hown hK hP 2 rfl rfl 9 (Nat.le_of_ble_eq_true rfl) (hts _ q_19) (fun _ h9 => h9) rfl eX3_readFruit_93.2.2.2.2.1 ?_
    refine lv_iconst (v := 1) hx hb eX3_readFruit_93.2.2.2.2.2.1 ic_1 ?_
    refine lv_iadd hx hb eX3_readFruit_93.2.2.2.2.2.2.1 ?_
    refine lv_topi (fun v_11 ev_11 => ?_)
    have hp := hp v_11 ev_11
    refine va_put (D := (dC, dI)) (ci := 3) (v := .int v_11) (ty := .int) (C := RX3) (T := TX3) (N := 11) hx hb hts i_X3 tyX3 tyX3_ok nmX3 hown hK hP hD hS 2 rfl rfl 9 (Nat.le_of_ble_eq_true rfl) (hts _ q_19) (fun _ h9 => h9) rfl (tyX3_ok 9 (Nat.le_of_ble_eq_true rfl)) rfl rfl (Nat.le_of_ble_eq_true rfl) eX3_readFruit_93.2.2.2.2.2.2.2.1 (fun H locs hP hD hS => ?_)
    have hP : va_P (dC, dI) classes (wd_X3_readFruit cI cC cZ cB cJ xG uT wJ tX jE mX pD oO oQ eG qI qJ rY qM bZ bD v_11 aI wD gF pE (upd qA k1.toNatClampNeg k2)) H := hP
    have hD : va_D A (wd_X3_readFruit cI cC cZ cB cJ xG uT wJ tX jE mX pD oO oQ eG qI qJ rY qM bZ bD v_11 aI wD gF pE (upd qA k1.toNatClampNeg k2)) := hD
    refine lv_iconst (v := 1) hx hb eX3_readFruit_93.2.2.2.2.2.2.2.2.1 ic_1 ?_
    exact W.zret (v := 1) hx hb hr rfl (fun t ht hW => ⟨⟨1, (qJ, v_11, wD, gF, pE, (upd qA k1.toNatClampNeg k2)), rfl, hp, by rw [ht]; exact hP, va_K.moved hW.alike hK, hD⟩, hS.F ht⟩) hS.2.2 eX3_readFruit_93.2.2.2.2.2.2.2.2.2
  · have hp := hp.2 hc
    refine lv_iconst (v := 0) hx hb eX3_readFruit_93.1 ic_0 ?_
    exact W.zret (v := 0) hx hb hr rfl (fun t ht hW => ⟨⟨0, (qJ, bI, wD, gF, pE, (upd qA k1.toNatClampNeg k2)), rfl, hp, by rw [ht]; exact hP, va_K.moved hW.alike hK, hD⟩, hS.F ht⟩) hS.2.2 eX3_readFruit_93.2.1
noncomputable def ws_X3_readFruit_46 (post : Int32 → Int32 → Int32 → (Nat → Int32) → (Nat → Int32) → (Nat → Int32) → (Nat → Int32) → Prop) (rY : Int32) (qM : Nat → Int32) (x2 k1 k2 qJ bI : Int32) (wD gF pE qA : Nat → Int32) : Prop := vp_in k1 16 ∧ (vp_in x2 16 ∧ (∀ v_7 : Int32, v_7 = (upd pE k1.toNatClampNeg k2) x2.toNatClampNeg → (¬ v_7 = (-1) → wp_X8_take (fun r_8 aBg => (r_8 = 0 → ws_X3_readFruit_82 post rY qM x2 x2 0 aBg bI wD gF (upd pE k1.toNatClampNeg k2) qA) ∧ (¬ r_8 = 0 → wp_X8_readNumber (fun r_12 tx_place_13 => ws_X3_readFruit_82 post rY qM x2 x2 r_12 tx_place_13 bI wD gF (upd pE k1.toNatClampNeg k2) qA) 1 aBg rY qM)) 64 qJ rY qM) ∧ (v_7 = (-1) → post 0 qJ bI wD gF (upd pE k1.toNatClampNeg k2) qA)))
set_option maxHeartbeats 4000000 in
set_option maxRecDepth 100000 in
theorem ks_X3_readFruit_46 (C0 : gc cX3_readFruit (some .boolean) 3 RX3 (dC, dI) (tyl cI cC cZ cB cJ) A p s m args meth c) : ∀ (x2 k1 k2 qJ bI : Int32) (wD gF pE qA : Nat → Int32) (H : Heap) (locs : List Loc) (ls : Array Slot), (ws_X3_readFruit_46 post rY qM) x2 k1 k2 qJ bI wD gF pE qA → va_P (dC, dI) classes (wd_X3_readFruit cI cC cZ cB cJ xG uT wJ tX jE mX pD oO oQ eG qI qJ rY qM bZ bD bI aI wD gF pE qA) H → va_D A (wd_X3_readFruit cI cC cZ cB cJ xG uT wJ tX jE mX pD oO oQ eG qI qJ rY qM bZ bD bI aI wD gF pE qA) → va_S A s.heap H locs → lv_has ls 3 [(0, .ref wJ), (1, .ref xG), (2, .int x2)] → W p l e rm_X3_readFruit s m args below meth c H locs 0 0 (MQ below (q_X3_readFruit dC dI cI cC cZ cB cJ A xG uT wJ tX jE mX pD oO oQ eG qI rY qM bZ bD aI post) args s 0 0 A) (F0 m 46 ls [.int k2, .int k1, .ref mX]) := by
  obtain ⟨hx, hb, hr, hml, hown, hts, hlocks, hA, hK, hN, tL, tM, hZL, hTL, hZM, hTM, hZX⟩ := id C0
  intro x2 k1 k2 qJ bI wD gF pE qA H locs ls hp hP hD hS hl
  unfold ws_X3_readFruit_46 at hp
  have hin := hp.1
  have hp := hp.2
  refine va_iast hx hb hK hP hD hS 5 0 rfl rfl hin eX3_readFruit_38.2.2.2.2.1 (fun H locs hP hD hS => ?_)
  have hP : va_P (dC, dI) classes (wd_X3_readFruit cI cC cZ cB cJ xG uT wJ tX jE mX pD oO oQ eG qI qJ rY qM bZ bD bI aI wD gF (upd pE k1.toNatClampNeg k2) qA) H := hP
  have hD : va_D A (wd_X3_readFruit cI cC cZ cB cJ xG uT wJ tX jE mX pD oO oQ eG qI qJ rY qM bZ bD bI aI wD gF (upd pE k1.toNatClampNeg k2) qA) := hD
  refine lv_aload_n hx hb eX3_readFruit_38.2.2.2.2.2.1 rfl (lv_at hl 0 rfl) ?_
  refine va_get (D := (dC, dI)) (ci := 3) (v := .ref mX) (C := RX3) (T := TX3) (N := 11) hx hb hts i_X3 hown hK hP 2 rfl rfl 2 (Nat.le_of_ble_eq_true rfl) (hts _ q_51) (fun _ h9 => h9) rfl eX3_readFruit_38.2.2.2.2.2.2.1 ?_
  refine lv_iload_n hx hb eX3_readFruit_38.2.2.2.2.2.2.2.1 rfl (lv_at hl 2 rfl) ?_
  have hin := hp.1
  have hp := hp.2
  refine va_iald hx hb hK hP 5 0 rfl rfl hin eX3_readFruit_38.2.2.2.2.2.2.2.2.1 ?_
  refine lv_topi (fun v_7 ev_7 => ?_)
  have hp := hp v_7 ev_7
  refine lv_iconst (v := (-1)) hx hb eX3_readFruit_38.2.2.2.2.2.2.2.2.2.1 ic_m1 ?_
  refine lv_icmp_ne (tgt := 59) hx hb eX3_readFruit_38.2.2.2.2.2.2.2.2.2.2.1 (by decide) (fun hc => ?_) (fun hc => ?_)
  · have hp := hp.1 hc
    refine lv_aload_n hx hb eX3_readFruit_38.2.2.2.2.2.2.2.2.2.2.2.2.2.1 rfl (lv_at hl 0 rfl) ?_
    refine va_get (D := (dC, dI)) (ci := 3) (v := .ref pD) (C := RX3) (T := TX3) (N := 11) hx hb hts i_X3 hown hK hP 2 rfl rfl 3 (Nat.le_of_ble_eq_true rfl) (hts _ q_52) (fun _ h9 => h9) rfl eX3_readFruit_38.2.2.2.2.2.2.2.2.2.2.2.2.2.2.1 ?_
    refine lv_iload_n hx hb eX3_readFruit_38.2.2.2.2.2.2.2.2.2.2.2.2.2.2.2 rfl (lv_at hl 2 rfl) ?_
    refine lv_aload_n hx hb eX3_readFruit_64.1 rfl (lv_at hl 1 rfl) ?_
    refine lv_bipush (v := 64) hx hb eX3_readFruit_64.2.1 bp_64 ?_
    have hm := mgk (wc := (wd_X8_take cI cC cZ cB cJ xG uT qI qJ rY qM)) hP mk_2 7 rfl rfl rfl
    refine g_calli hP hD hS hA (mixT mk_2) (mixF mk_2) hm.1 hm.2 (nd_F _) (dis_g _) (g_runV (As := [.int 64]) (rest := [.int x2, .ref pD]) C0 hP hD hS (mixT mk_2) hm.1 (nd_T _) 0 8 rfl rfl (c_X8_take l dC dI cI cC cZ cB cJ xG uT H.size 64 qI qJ rY qM _ hp) q_41 q_44 q_42 q_43 q_5 h_X8_take rfl rfl ⟨Nat.le_of_ble_eq_true rfl, Nat.le_of_ble_eq_true rfl⟩ rfl rfl hl.1 rfl (lv_room (Nat.le_of_ble_eq_true rfl)) eX3_readFruit_64.2.2.1 ⟨Nat.zero_le _, Nat.zero_le _⟩) (fun r_8 u H locs hp hP hD hS => ?_)
    obtain ⟨aBg, rfl⟩ : ∃ z, z = u := ⟨_, rfl⟩
    have hPD := PDm (ws' := (wd_X3_readFruit cI cC cZ cB cJ xG uT wJ tX jE mX pD oO oQ eG qI aBg rY qM bZ bD bI aI wD gF (upd pE k1.toNatClampNeg k2) qA)) hP hD 7 rfl rfl rfl
    have hP := hPD.1
    have hD := hPD.2
    refine lv_if_eq (tgt := 81) hx hb eX3_readFruit_64.2.2.2.1 (by decide) (fun hc => ?_) (fun hc => ?_)
    · have hp := hp.1 hc
      refine lv_iconst (v := 0) hx hb eX3_readFruit_64.2.2.2.2.2.2.2.2.1 ic_0 ?_
      exact ks_X3_readFruit_82 C0 x2 x2 0 aBg bI wD gF (upd pE k1.toNatClampNeg k2) qA H locs ls hp hP hD hS (lv_sub hl [0, 2] rfl)
    · have hp := hp.2 hc
      refine lv_aload_n hx hb eX3_readFruit_64.2.2.2.2.1 rfl (lv_at hl 1 rfl) ?_
      refine lv_iconst (v := 1) hx hb eX3_readFruit_64.2.2.2.2.2.1 ic_1 ?_
      have hm := mgk (wc := (wd_X8_readNumber cI cC cZ cB cJ xG uT qI aBg rY qM)) hP mk_2 7 rfl rfl rfl
      refine g_calli hP hD hS hA (mixT mk_2) (mixF mk_2) hm.1 hm.2 (nd_F _) (dis_g _) (g_runV (As := [.int 1]) (rest := [.int x2, .ref pD]) C0 hP hD hS (mixT mk_2) hm.1 (nd_T _) 0 8 rfl rfl (c_X8_readNumber l dC dI cI cC cZ cB cJ xG uT H.size 1 qI aBg rY qM _ hp) q_37 q_40 q_38 q_39 q_5 h_X8_readNumber rfl rfl ⟨Nat.le_of_ble_eq_true rfl, Nat.le_of_ble_eq_true rfl⟩ rfl rfl hl.1 rfl (lv_room (Nat.le_of_ble_eq_true rfl)) eX3_readFruit_64.2.2.2.2.2.2.1 ⟨Nat.zero_le _, Nat.zero_le _⟩) (fun r_12 u H locs hp hP hD hS => ?_)
      obtain ⟨tx_place_13, rfl⟩ : ∃ z, z = u := ⟨_, rfl⟩
      have hPD := PDm (ws' := (wd_X3_readFruit cI cC cZ cB cJ xG uT wJ tX jE mX pD oO oQ eG qI tx_place_13 rY qM bZ bD bI aI wD gF (upd pE k1.toNatClampNeg k2) qA)) hP hD 7 rfl rfl rfl
      have hP := hPD.1
      have hD := hPD.2
      refine lv_goto (tgt := 82) hx hb eX3_readFruit_64.2.2.2.2.2.2.2.1 (by decide) ?_
      exact ks_X3_readFruit_82 C0 x2 x2 r_12 tx_place_13 bI wD gF (upd pE k1.toNatClampNeg k2) qA H locs ls hp hP hD hS (lv_sub hl [0, 2] rfl)
  · have hp := hp.2 hc
    refine lv_iconst (v := 0) hx hb eX3_readFruit_38.2.2.2.2.2.2.2.2.2.2.2.1 ic_0 ?_
    exact W.zret (v := 0) hx hb hr rfl (fun t ht hW => ⟨⟨0, (qJ, bI, wD, gF, (upd pE k1.toNatClampNeg k2), qA), rfl, hp, by rw [ht]; exact hP, va_K.moved hW.alike hK, hD⟩, hS.F ht⟩) hS.2.2 eX3_readFruit_38.2.2.2.2.2.2.2.2.2.2.2.2.1
end S_X3_readFruit
noncomputable def wp_X3_readFruit (post : Int32 → Int32 → Int32 → (Nat → Int32) → (Nat → Int32) → (Nat → Int32) → (Nat → Int32) → Prop) (qJ rY : Int32) (qM : Nat → Int32) (bI : Int32) (wD gF pE qA : Nat → Int32) : Prop := wp_X3_readPair (fun r_1 xO tr_x_3 aDv => (¬ r_1 = 0 → wp_X8_take (fun r_5 yM => (r_5 = 0 → ws_X3_readFruit_46 post rY qM bI bI 1 yM bI tr_x_3 aDv pE qA) ∧ (¬ r_5 = 0 → wp_X8_readNumber (fun r_14 tx_place_15 => ws_X3_readFruit_46 post rY qM bI bI r_14 tx_place_15 bI tr_x_3 aDv pE qA) 1 yM rY qM)) 42 xO rY qM) ∧ (r_1 = 0 → post 0 xO bI tr_x_3 aDv pE qA)) bI qJ rY qM wD gF
set_option maxHeartbeats 4000000 in
set_option maxRecDepth 100000 in
theorem c_X3_readFruit (l : Launch) (dC : Nat → ClassId) (dI : Nat → Nat → Nat) (cI cC cZ cB cJ : ClassId) (xG uT wJ tX jE mX pD oO oQ eG sz : Nat) (qI qJ rY : Int32) (qM : Nat → Int32) (bZ bD bI aI : Int32) (wD gF pE qA : Nat → Int32) (post : Int32 → Int32 → Int32 → (Nat → Int32) → (Nat → Int32) → (Nat → Int32) → (Nat → Int32) → Prop) (hw : wp_X3_readFruit post qJ rY qM bI wD gF pE qA) : Met l yX3_readFruit (gw yX3_readFruit cX3_readFruit 3 (some .boolean)) rm_X3_readFruit (va_Pc [.ref wJ, .ref xG] (gPre (dC, dI) (tyl cI cC cZ cB cJ) (wd_X3_readFruit cI cC cZ cB cJ xG uT wJ tX jE mX pD oO oQ eG qI qJ rY qM bZ bD bI aI wD gF pE qA) sz)) (q_X3_readFruit dC dI cI cC cZ cB cJ (va_A (wd_X3_readFruit cI cC cZ cB cJ xG uT wJ tX jE mX pD oO oQ eG qI qJ rY qM bZ bD bI aI wD gF pE qA) sz) xG uT wJ tX jE mX pD oO oQ eG qI rY qM bZ bD aI post) 0 0 (va_A (wd_X3_readFruit cI cC cZ cB cJ xG uT wJ tX jE mX pD oO oQ eG qI qJ rY qM bZ bD bI aI wD gF pE qA) sz) := by
  refine g_enter (own := RX3) (dC, dI) (tyl cI cC cZ cB cJ) (wd_X3_readFruit cI cC cZ cB cJ xG uT wJ tX jE mX pD oO oQ eG qI qJ rY qM bZ bD bI aI wD gF pE qA) sz [.ref wJ, .ref xG] (fun A => q_X3_readFruit dC dI cI cC cZ cB cJ A xG uT wJ tX jE mX pD oO oQ eG qI rY qM bZ bD aI post) pn_RX3 rfl (Nat.le_of_ble_eq_true rfl) ?_
  intro p e s m args below meth c A H locs ls C0 hP hD hS hl
  have hl : lv_has ls 3 [(0, .ref wJ), (1, .ref xG)] := hl
  obtain ⟨hx, hb, hr, hml, hown, hts, hlocks, hA, hK, hN, tL, tM, hZL, hTL, hZM, hTM, hZX⟩ := id C0
  have hp := hw
  unfold wp_X3_readFruit at hp
  refine lv_aload_n hx hb eX3_readFruit_0.1 rfl (lv_at hl 0 rfl) ?_
  refine va_get (D := (dC, dI)) (ci := 3) (v := .int bI) (C := RX3) (T := TX3) (N := 11) hx hb hts i_X3 hown hK hP 2 rfl rfl 9 (Nat.le_of_ble_eq_true rfl) (hts _ q_19) (fun _ h9 => h9) rfl eX3_readFruit_0.2.1 ?_
  refine lv_istore_n (lv' := [(2, .int bI), (0, .ref wJ), (1, .ref xG)]) hx hb eX3_readFruit_0.2.2.1 rfl hl (by decide) rfl (fun ls hl => ?_)
  refine lv_aload_n hx hb eX3_readFruit_0.2.2.2.1 rfl (lv_at hl 2 rfl) ?_
  refine lv_aload_n hx hb eX3_readFruit_0.2.2.2.2 rfl (lv_at hl 1 rfl) ?_
  refine va_get (D := (dC, dI)) (ci := 3) (v := .ref tX) (C := RX3) (T := TX3) (N := 11) hx hb hts i_X3 hown hK hP 2 rfl rfl 0 (Nat.le_of_ble_eq_true rfl) (hts _ q_45) (fun _ h9 => h9) rfl eX3_readFruit_7.1 ?_
  refine lv_aload_n hx hb eX3_readFruit_7.2.1 rfl (lv_at hl 1 rfl) ?_
  refine va_get (D := (dC, dI)) (ci := 3) (v := .ref jE) (C := RX3) (T := TX3) (N := 11) hx hb hts i_X3 hown hK hP 2 rfl rfl 1 (Nat.le_of_ble_eq_true rfl) (hts _ q_46) (fun _ h9 => h9) rfl eX3_readFruit_7.2.2.1 ?_
  refine lv_iload_n hx hb eX3_readFruit_7.2.2.2.1 rfl (lv_at hl 0 rfl) ?_
  have hm := mgk (wc := (wd_X3_readPair cI cC cZ cB cJ xG uT tX jE qI qJ rY qM wD gF)) hP mk_3 7 rfl rfl rfl
  refine g_calli hP hD hS hA (mixT mk_3) (mixF mk_3) hm.1 hm.2 (nd_F _) (dis_g _) (g_runS (As := [.ref xG, .ref tX, .ref jE, .int bI]) (rest := []) C0 hP hD hS (mixT mk_3) hm.1 (nd_T _) (c_X3_readPair l dC dI cI cC cZ cB cJ xG uT tX jE H.size bI qI qJ rY qM wD gF _ hp) q_47 q_50 q_49 q_48 h_X3_readPair rfl rfl ⟨Nat.le_of_ble_eq_true rfl, Nat.le_of_ble_eq_true rfl⟩ rfl rfl hl.1 rfl (lv_room (Nat.le_of_ble_eq_true rfl)) eX3_readFruit_7.2.2.2.2.1 ⟨Nat.zero_le _, Nat.zero_le _⟩) (fun r_1 u H locs hp hP hD hS => ?_)
  obtain ⟨xO, tr_x_3, aDv⟩ := u
  have hPD := PDm (ws' := (wd_X3_readFruit cI cC cZ cB cJ xG uT wJ tX jE mX pD oO oQ eG qI xO rY qM bZ bD bI aI tr_x_3 aDv pE qA)) hP hD 7 rfl rfl rfl
  have hP := hPD.1
  have hD := hPD.2
  refine lv_if_ne (tgt := 23) hx hb eX3_readFruit_7.2.2.2.2.2.1 (by decide) (fun hc => ?_) (fun hc => ?_)
  · have hp := hp.1 hc
    refine lv_aload_n hx hb eX3_readFruit_7.2.2.2.2.2.2.2.2.1 rfl (lv_at hl 1 rfl) ?_
    refine va_get (D := (dC, dI)) (ci := 3) (v := .ref mX) (C := RX3) (T := TX3) (N := 11) hx hb hts i_X3 hown hK hP 2 rfl rfl 2 (Nat.le_of_ble_eq_true rfl) (hts _ q_51) (fun _ h9 => h9) rfl eX3_readFruit_7.2.2.2.2.2.2.2.2.2.1 ?_
    refine lv_iload_n hx hb eX3_readFruit_7.2.2.2.2.2.2.2.2.2.2.1 rfl (lv_at hl 0 rfl) ?_
    refine lv_aload_n hx hb eX3_readFruit_7.2.2.2.2.2.2.2.2.2.2.2.1 rfl (lv_at hl 2 rfl) ?_
    refine lv_bipush (v := 42) hx hb eX3_readFruit_7.2.2.2.2.2.2.2.2.2.2.2.2.1 bp_42 ?_
    have hm := mgk (wc := (wd_X8_take cI cC cZ cB cJ xG uT qI xO rY qM)) hP mk_2 7 rfl rfl rfl
    refine g_calli hP hD hS hA (mixT mk_2) (mixF mk_2) hm.1 hm.2 (nd_F _) (dis_g _) (g_runV (As := [.int 42]) (rest := [.int bI, .ref mX]) C0 hP hD hS (mixT mk_2) hm.1 (nd_T _) 0 8 rfl rfl (c_X8_take l dC dI cI cC cZ cB cJ xG uT H.size 42 qI xO rY qM _ hp) q_41 q_44 q_42 q_43 q_5 h_X8_take rfl rfl ⟨Nat.le_of_ble_eq_true rfl, Nat.le_of_ble_eq_true rfl⟩ rfl rfl hl.1 rfl (lv_room (Nat.le_of_ble_eq_true rfl)) eX3_readFruit_7.2.2.2.2.2.2.2.2.2.2.2.2.2.1 ⟨Nat.zero_le _, Nat.zero_le _⟩) (fun r_5 u H locs hp hP hD hS => ?_)
    obtain ⟨yM, rfl⟩ : ∃ z, z = u := ⟨_, rfl⟩
    have hPD := PDm (ws' := (wd_X3_readFruit cI cC cZ cB cJ xG uT wJ tX jE mX pD oO oQ eG qI yM rY qM bZ bD bI aI tr_x_3 aDv pE qA)) hP hD 7 rfl rfl rfl
    have hP := hPD.1
    have hD := hPD.2
    refine lv_if_eq (tgt := 45) hx hb eX3_readFruit_7.2.2.2.2.2.2.2.2.2.2.2.2.2.2.1 (by decide) (fun hc => ?_) (fun hc => ?_)
    · have hp := hp.1 hc
      refine lv_iconst (v := 1) hx hb eX3_readFruit_38.2.2.2.1 ic_1 ?_
      exact ks_X3_readFruit_46 C0 bI bI 1 yM bI tr_x_3 aDv pE qA H locs ls hp hP hD hS (lv_sub hl [1, 2, 0] rfl)
    · have hp := hp.2 hc
      refine lv_aload_n hx hb eX3_readFruit_7.2.2.2.2.2.2.2.2.2.2.2.2.2.2.2 rfl (lv_at hl 2 rfl) ?_
      refine lv_iconst (v := 1) hx hb eX3_readFruit_38.1 ic_1 ?_
      have hm := mgk (wc := (wd_X8_readNumber cI cC cZ cB cJ xG uT qI yM rY qM)) hP mk_2 7 rfl rfl rfl
      refine g_calli hP hD hS hA (mixT mk_2) (mixF mk_2) hm.1 hm.2 (nd_F _) (dis_g _) (g_runV (As := [.int 1]) (rest := [.int bI, .ref mX]) C0 hP hD hS (mixT mk_2) hm.1 (nd_T _) 0 8 rfl rfl (c_X8_readNumber l dC dI cI cC cZ cB cJ xG uT H.size 1 qI yM rY qM _ hp) q_37 q_40 q_38 q_39 q_5 h_X8_readNumber rfl rfl ⟨Nat.le_of_ble_eq_true rfl, Nat.le_of_ble_eq_true rfl⟩ rfl rfl hl.1 rfl (lv_room (Nat.le_of_ble_eq_true rfl)) eX3_readFruit_38.2.1 ⟨Nat.zero_le _, Nat.zero_le _⟩) (fun r_14 u H locs hp hP hD hS => ?_)
      obtain ⟨tx_place_15, rfl⟩ : ∃ z, z = u := ⟨_, rfl⟩
      have hPD := PDm (ws' := (wd_X3_readFruit cI cC cZ cB cJ xG uT wJ tX jE mX pD oO oQ eG qI tx_place_15 rY qM bZ bD bI aI tr_x_3 aDv pE qA)) hP hD 7 rfl rfl rfl
      have hP := hPD.1
      have hD := hPD.2
      refine lv_goto (tgt := 46) hx hb eX3_readFruit_38.2.2.1 (by decide) ?_
      exact ks_X3_readFruit_46 C0 bI bI r_14 tx_place_15 bI tr_x_3 aDv pE qA H locs ls hp hP hD hS (lv_sub hl [1, 2, 0] rfl)
  · have hp := hp.2 hc
    refine lv_iconst (v := 0) hx hb eX3_readFruit_7.2.2.2.2.2.2.1 ic_0 ?_
    exact W.zret (v := 0) hx hb hr rfl (fun t ht hW => ⟨⟨0, (xO, bI, tr_x_3, aDv, pE, qA), rfl, hp, by rw [ht]; exact hP, va_K.moved hW.alike hK, hD⟩, hS.F ht⟩) hS.2.2 eX3_readFruit_7.2.2.2.2.2.2.2.1
noncomputable abbrev wd_X3_readPair_b2 (cI cC cZ cB cJ : ClassId) (xG uT oO oQ : Nat) (qI qJ rY : Int32) (qM nJ nY : Nat → Int32) : va_W := [(xG, .inr (8, [.ref uT, .int qI, .int qJ, .int rY])), (uT, .inl (cC, 80, .inl qM)), (oO, .inl (cI, 8, .inl nJ)), (oQ, .inl (cI, 8, .inl nY))]
noncomputable abbrev q_X3_readPair_b2 (dC : Nat → ClassId) (dI : Nat → Nat → Nat) (cI cC cZ cB cJ : ClassId) (A : Nat → Prop) (xG uT oO oQ : Nat) (qI rY : Int32) (qM : Nat → Int32) (post : Int32 → Int32 → (Nat → Int32) → (Nat → Int32) → Prop) : Array Value → State → Outcome → State → Prop := va_Qi (fun (r : Int32) (u : Int32 × (Nat → Int32) × (Nat → Int32)) => post r u.1 u.2.1 u.2.2) (fun u t => gB (dC, dI) (tyl cI cC cZ cB cJ) A (wd_X3_readPair_b2 cI cC cZ cB cJ xG uT oO oQ qI u.1 rY qM u.2.1 u.2.2) t) A
noncomputable abbrev rm_X3_readPair_b2 : Room := { frames := 2, cells := 0, slots := 0, locals := 45 }
noncomputable def wp_X3_readPair_b2 (post : Int32 → Int32 → (Nat → Int32) → (Nat → Int32) → Prop) (p3 qJ rY : Int32) (qM nJ nY : Nat → Int32) : Prop := wp_X8_readNumber (fun r_1 xO => (r_1 = (-1) → post 0 xO nJ nY) ∧ (¬ r_1 = (-1) → wp_X8_take (fun r_3 xU => (¬ r_3 = 0 → wp_X8_readNumber (fun r_5 yM => (r_5 = (-1) → post 0 yM nJ nY) ∧ (¬ r_5 = (-1) → (p3 < 0 → post 0 yM nJ nY) ∧ (¬ p3 < 0 → (8 ≤ p3 → post 0 yM nJ nY) ∧ (¬ 8 ≤ p3 → (p3 < 8 → vp_in p3 8 ∧ (vp_in p3 8 ∧ (post 1 yM (upd nJ p3.toNatClampNeg r_1) (upd nY p3.toNatClampNeg r_5)))) ∧ (¬ p3 < 8 → post 0 yM nJ nY))))) 2 xU rY qM) ∧ (r_3 = 0 → post 0 xU nJ nY)) 44 xO rY qM)) 2 qJ rY qM
set_option maxHeartbeats 4000000 in
set_option maxRecDepth 100000 in
theorem c_X3_readPair_b2 (l : Launch) (dC : Nat → ClassId) (dI : Nat → Nat → Nat) (cI cC cZ cB cJ : ClassId) (xG uT oO oQ sz : Nat) (p3 qI qJ rY : Int32) (qM nJ nY : Nat → Int32) (post : Int32 → Int32 → (Nat → Int32) → (Nat → Int32) → Prop) (hw : wp_X3_readPair_b2 post p3 qJ rY qM nJ nY) : Met l yX3_readPair (gw yX3_readPair cX3_readPair 6 (some .boolean)) rm_X3_readPair_b2 (va_Pc [.ref xG, .ref oO, .ref oQ, .int p3] (gPre (dC, dI) (tyl cI cC cZ cB cJ) (wd_X3_readPair_b2 cI cC cZ cB cJ xG uT oO oQ qI qJ rY qM nJ nY) sz)) (q_X3_readPair_b2 dC dI cI cC cZ cB cJ (va_A (wd_X3_readPair_b2 cI cC cZ cB cJ xG uT oO oQ qI qJ rY qM nJ nY) sz) xG uT oO oQ qI rY qM post) 0 0 (va_A (wd_X3_readPair_b2 cI cC cZ cB cJ xG uT oO oQ qI qJ rY qM nJ nY) sz) := by
  refine g_enter (own := RX3) (dC, dI) (tyl cI cC cZ cB cJ) (wd_X3_readPair_b2 cI cC cZ cB cJ xG uT oO oQ qI qJ rY qM nJ nY) sz [.ref xG, .ref oO, .ref oQ, .int p3] (fun A => q_X3_readPair_b2 dC dI cI cC cZ cB cJ A xG uT oO oQ qI rY qM post) pn_RX3 rfl (Nat.le_of_ble_eq_true rfl) ?_
  intro p e s m args below meth c A H locs ls C0 hP hD hS hl
  have hl : lv_has ls 6 [(0, .ref xG), (1, .ref oO), (2, .ref oQ), (3, .int p3)] := hl
  obtain ⟨hx, hb, hr, hml, hown, hts, hlocks, hA, hK, hN, tL, tM, hZL, hTL, hZM, hTM, hZX⟩ := id C0
  have hp := hw
  unfold wp_X3_readPair_b2 at hp
  refine lv_aload_n hx hb eX3_readPair_0.1 rfl (lv_at hl 0 rfl) ?_
  refine lv_iconst (v := 2) hx hb eX3_readPair_0.2.1 ic_2 ?_
  have hm := mgk (wc := (wd_X8_readNumber cI cC cZ cB cJ xG uT qI qJ rY qM)) hP mk_1 4 rfl rfl rfl
  refine g_calli hP hD hS hA (mixT mk_1) (mixF mk_1) hm.1 hm.2 (nd_F _) (dis_g _) (g_runV (As := [.int 2]) (rest := []) C0 hP hD hS (mixT mk_1) hm.1 (nd_T _) 0 8 rfl rfl (c_X8_readNumber l dC dI cI cC cZ cB cJ xG uT H.size 2 qI qJ rY qM _ hp) q_37 q_40 q_38 q_39 q_5 h_X8_readNumber rfl rfl ⟨Nat.le_of_ble_eq_true rfl, Nat.le_of_ble_eq_true rfl⟩ rfl rfl hl.1 rfl (lv_room (Nat.le_of_ble_eq_true rfl)) eX3_readPair_0.2.2.1 ⟨Nat.zero_le _, Nat.zero_le _⟩) (fun r_1 u H locs hp hP hD hS => ?_)
  obtain ⟨xO, rfl⟩ : ∃ z, z = u := ⟨_, rfl⟩
  have hPD := PDm (ws' := (wd_X3_readPair_b2 cI cC cZ cB cJ xG uT oO oQ qI xO rY qM nJ nY)) hP hD 4 rfl rfl rfl
  have hP := hPD.1
  have hD := hPD.2
  refine lv_istore (lv' := [(4, .int r_1), (0, .ref xG), (1, .ref oO), (2, .ref oQ), (3, .int p3)]) hx hb eX3_readPair_0.2.2.2.1 hl (by decide) rfl (fun ls hl => ?_)
  refine lv_iload hx hb eX3_readPair_0.2.2.2.2.1 (lv_at hl 0 rfl) ?_
  refine lv_iconst (v := (-1)) hx hb eX3_readPair_0.2.2.2.2.2.1 ic_m1 ?_
  refine lv_icmp_eq (tgt := 22) hx hb eX3_readPair_0.2.2.2.2.2.2.1 (by decide) (fun hc => ?_) (fun hc => ?_)
  · have hp := hp.1 hc
    refine lv_iconst (v := 0) hx hb eX3_readPair_0.2.2.2.2.2.2.2.2.2.2.2.1 ic_0 ?_
    exact W.zret (v := 0) hx hb hr rfl (fun t ht hW => ⟨⟨0, (xO, nJ, nY), rfl, hp, by rw [ht]; exact hP, va_K.moved hW.alike hK, hD⟩, hS.F ht⟩) hS.2.2 eX3_readPair_0.2.2.2.2.2.2.2.2.2.2.2.2.1
  · have hp := hp.2 hc
    refine lv_aload_n hx hb eX3_readPair_0.2.2.2.2.2.2.2.1 rfl (lv_at hl 1 rfl) ?_
    refine lv_bipush (v := 44) hx hb eX3_readPair_0.2.2.2.2.2.2.2.2.1 bp_44 ?_
    have hm := mgk (wc := (wd_X8_take cI cC cZ cB cJ xG uT qI xO rY qM)) hP mk_1 4 rfl rfl rfl
    refine g_calli hP hD hS hA (mixT mk_1) (mixF mk_1) hm.1 hm.2 (nd_F _) (dis_g _) (g_runV (As := [.int 44]) (rest := []) C0 hP hD hS (mixT mk_1) hm.1 (nd_T _) 0 8 rfl rfl (c_X8_take l dC dI cI cC cZ cB cJ xG uT H.size 44 qI xO rY qM _ hp) q_41 q_44 q_42 q_43 q_5 h_X8_take rfl rfl ⟨Nat.le_of_ble_eq_true rfl, Nat.le_of_ble_eq_true rfl⟩ rfl rfl hl.1 rfl (lv_room (Nat.le_of_ble_eq_true rfl)) eX3_readPair_0.2.2.2.2.2.2.2.2.2.1 ⟨Nat.zero_le _, Nat.zero_le _⟩) (fun r_3 u H locs hp hP hD hS => ?_)
    obtain ⟨xU, rfl⟩ : ∃ z, z = u := ⟨_, rfl⟩
    have hPD := PDm (ws' := (wd_X3_readPair_b2 cI cC cZ cB cJ xG uT oO oQ qI xU rY qM nJ nY)) hP hD 4 rfl rfl rfl
    have hP := hPD.1
    have hD := hPD.2
    refine lv_if_ne (tgt := 24) hx hb eX3_readPair_0.2.2.2.2.2.2.2.2.2.2.1 (by decide) (fun hc => ?_) (fun hc => ?_)
    · have hp := hp.1 hc
      refine lv_aload_n hx hb eX3_readPair_0.2.2.2.2.2.2.2.2.2.2.2.2.2.1 rfl (lv_at hl 1 rfl) ?_
      refine lv_iconst (v := 2) hx hb eX3_readPair_0.2.2.2.2.2.2.2.2.2.2.2.2.2.2.1 ic_2 ?_
      have hm := mgk (wc := (wd_X8_readNumber cI cC cZ cB cJ xG uT qI xU rY qM)) hP mk_1 4 rfl rfl rfl
      refine g_calli hP hD hS hA (mixT mk_1) (mixF mk_1) hm.1 hm.2 (nd_F _) (dis_g _) (g_runV (As := [.int 2]) (rest := []) C0 hP hD hS (mixT mk_1) hm.1 (nd_T _) 0 8 rfl rfl (c_X8_readNumber l dC dI cI cC cZ cB cJ xG uT H.size 2 qI xU rY qM _ hp) q_37 q_40 q_38 q_39 q_5 h_X8_readNumber rfl rfl ⟨Nat.le_of_ble_eq_true rfl, Nat.le_of_ble_eq_true rfl⟩ rfl rfl hl.1 rfl (lv_room (Nat.le_of_ble_eq_true rfl)) eX3_readPair_0.2.2.2.2.2.2.2.2.2.2.2.2.2.2.2 ⟨Nat.zero_le _, Nat.zero_le _⟩) (fun r_5 u H locs hp hP hD hS => ?_)
      obtain ⟨yM, rfl⟩ : ∃ z, z = u := ⟨_, rfl⟩
      have hPD := PDm (ws' := (wd_X3_readPair_b2 cI cC cZ cB cJ xG uT oO oQ qI yM rY qM nJ nY)) hP hD 4 rfl rfl rfl
      have hP := hPD.1
      have hD := hPD.2
      refine lv_istore (lv' := [(5, .int r_5), (4, .int r_1), (0, .ref xG), (1, .ref oO), (2, .ref oQ), (3, .int p3)]) hx hb eX3_readPair_29.1 hl (by decide) rfl (fun ls hl => ?_)
      refine lv_iload hx hb eX3_readPair_29.2.1 (lv_at hl 0 rfl) ?_
      refine lv_iconst (v := (-1)) hx hb eX3_readPair_29.2.2.1 ic_m1 ?_
      refine lv_icmp_eq (tgt := 53) hx hb eX3_readPair_29.2.2.2.1 (by decide) (fun hc => ?_) (fun hc => ?_)
      · have hp := hp.1 hc
        refine lv_iconst (v := 0) hx hb eX3_readPair_29.2.2.2.2.2.2.2.2.2.2.2.2.2.2.1 ic_0 ?_
        exact W.zret (v := 0) hx hb hr rfl (fun t ht hW => ⟨⟨0, (yM, nJ, nY), rfl, hp, by rw [ht]; exact hP, va_K.moved hW.alike hK, hD⟩, hS.F ht⟩) hS.2.2 eX3_readPair_29.2.2.2.2.2.2.2.2.2.2.2.2.2.2.2
      · have hp := hp.2 hc
        refine lv_iload_n hx hb eX3_readPair_29.2.2.2.2.1 rfl (lv_at hl 5 rfl) ?_
        refine lv_if_lt (tgt := 53) hx hb eX3_readPair_29.2.2.2.2.2.1 (by decide) (fun hc => ?_) (fun hc => ?_)
        · have hp := hp.1 hc
          refine lv_iconst (v := 0) hx hb eX3_readPair_29.2.2.2.2.2.2.2.2.2.2.2.2.2.2.1 ic_0 ?_
          exact W.zret (v := 0) hx hb hr rfl (fun t ht hW => ⟨⟨0, (yM, nJ, nY), rfl, hp, by rw [ht]; exact hP, va_K.moved hW.alike hK, hD⟩, hS.F ht⟩) hS.2.2 eX3_readPair_29.2.2.2.2.2.2.2.2.2.2.2.2.2.2.2
        · have hp := hp.2 hc
          refine lv_iload_n hx hb eX3_readPair_29.2.2.2.2.2.2.1 rfl (lv_at hl 5 rfl) ?_
          refine lv_aload_n hx hb eX3_readPair_29.2.2.2.2.2.2.2.1 rfl (lv_at hl 3 rfl) ?_
          refine va_alen (v := 8) hx hb hK hP 2 0 rfl rfl rfl eX3_readPair_29.2.2.2.2.2.2.2.2.1 ?_
          refine lv_icmp_ge (tgt := 53) hx hb eX3_readPair_29.2.2.2.2.2.2.2.2.2.1 (by decide) (fun hc => ?_) (fun hc => ?_)
          · have hp := hp.1 hc
            refine lv_iconst (v := 0) hx hb eX3_readPair_29.2.2.2.2.2.2.2.2.2.2.2.2.2.2.1 ic_0 ?_
            exact W.zret (v := 0) hx hb hr rfl (fun t ht hW => ⟨⟨0, (yM, nJ, nY), rfl, hp, by rw [ht]; exact hP, va_K.moved hW.alike hK, hD⟩, hS.F ht⟩) hS.2.2 eX3_readPair_29.2.2.2.2.2.2.2.2.2.2.2.2.2.2.2
          · have hp := hp.2 hc
            refine lv_iload_n hx hb eX3_readPair_29.2.2.2.2.2.2.2.2.2.2.1 rfl (lv_at hl 5 rfl) ?_
            refine lv_aload_n hx hb eX3_readPair_29.2.2.2.2.2.2.2.2.2.2.2.1 rfl (lv_at hl 4 rfl) ?_
            refine va_alen (v := 8) hx hb hK hP 3 0 rfl rfl rfl eX3_readPair_29.2.2.2.2.2.2.2.2.2.2.2.2.1 ?_
            refine lv_icmp_lt (tgt := 55) hx hb eX3_readPair_29.2.2.2.2.2.2.2.2.2.2.2.2.2.1 (by decide) (fun hc => ?_) (fun hc => ?_)
            · have hp := hp.1 hc
              refine lv_aload_n hx hb eX3_readPair_55.1 rfl (lv_at hl 3 rfl) ?_
              refine lv_iload_n hx hb eX3_readPair_55.2.1 rfl (lv_at hl 5 rfl) ?_
              refine lv_iload hx hb eX3_readPair_55.2.2.1 (lv_at hl 1 rfl) ?_
              have hin := hp.1
              have hp := hp.2
              refine va_iast hx hb hK hP hD hS 2 0 rfl rfl hin eX3_readPair_55.2.2.2.1 (fun H locs hP hD hS => ?_)
              have hP : va_P (dC, dI) classes (wd_X3_readPair_b2 cI cC cZ cB cJ xG uT oO oQ qI yM rY qM (upd nJ p3.toNatClampNeg r_1) nY) H := hP
              have hD : va_D A (wd_X3_readPair_b2 cI cC cZ cB cJ xG uT oO oQ qI yM rY qM (upd nJ p3.toNatClampNeg r_1) nY) := hD
              refine lv_aload_n hx hb eX3_readPair_55.2.2.2.2.1 rfl (lv_at hl 4 rfl) ?_
              refine lv_iload_n hx hb eX3_readPair_55.2.2.2.2.2.1 rfl (lv_at hl 5 rfl) ?_
              refine lv_iload hx hb eX3_readPair_55.2.2.2.2.2.2.1 (lv_at hl 0 rfl) ?_
              have hin := hp.1
              have hp := hp.2
              refine va_iast hx hb hK hP hD hS 3 0 rfl rfl hin eX3_readPair_55.2.2.2.2.2.2.2.1 (fun H locs hP hD hS => ?_)
              have hP : va_P (dC, dI) classes (wd_X3_readPair_b2 cI cC cZ cB cJ xG uT oO oQ qI yM rY qM (upd nJ p3.toNatClampNeg r_1) (upd nY p3.toNatClampNeg r_5)) H := hP
              have hD : va_D A (wd_X3_readPair_b2 cI cC cZ cB cJ xG uT oO oQ qI yM rY qM (upd nJ p3.toNatClampNeg r_1) (upd nY p3.toNatClampNeg r_5)) := hD
              refine lv_iconst (v := 1) hx hb eX3_readPair_55.2.2.2.2.2.2.2.2.1 ic_1 ?_
              exact W.zret (v := 1) hx hb hr rfl (fun t ht hW => ⟨⟨1, (yM, (upd nJ p3.toNatClampNeg r_1), (upd nY p3.toNatClampNeg r_5)), rfl, hp, by rw [ht]; exact hP, va_K.moved hW.alike hK, hD⟩, hS.F ht⟩) hS.2.2 eX3_readPair_55.2.2.2.2.2.2.2.2.2
            · have hp := hp.2 hc
              refine lv_iconst (v := 0) hx hb eX3_readPair_29.2.2.2.2.2.2.2.2.2.2.2.2.2.2.1 ic_0 ?_
              exact W.zret (v := 0) hx hb hr rfl (fun t ht hW => ⟨⟨0, (yM, nJ, nY), rfl, hp, by rw [ht]; exact hP, va_K.moved hW.alike hK, hD⟩, hS.F ht⟩) hS.2.2 eX3_readPair_29.2.2.2.2.2.2.2.2.2.2.2.2.2.2.2
    · have hp := hp.2 hc
      refine lv_iconst (v := 0) hx hb eX3_readPair_0.2.2.2.2.2.2.2.2.2.2.2.1 ic_0 ?_
      exact W.zret (v := 0) hx hb hr rfl (fun t ht hW => ⟨⟨0, (xU, nJ, nY), rfl, hp, by rw [ht]; exact hP, va_K.moved hW.alike hK, hD⟩, hS.F ht⟩) hS.2.2 eX3_readPair_0.2.2.2.2.2.2.2.2.2.2.2.2.1
noncomputable abbrev wd_X3_readStanding (cI cC cZ cB cJ : ClassId) (xG uT wJ tX jE mX pD oO oQ eG : Nat) (qI qJ rY : Int32) (qM : Nat → Int32) (bZ bD bI aI : Int32) (nJ nY : Nat → Int32) : va_W := [(xG, .inr (8, [.ref uT, .int qI, .int qJ, .int rY])), (uT, .inl (cC, 80, .inl qM)), (wJ, .inr (3, [.ref tX, .ref jE, .ref mX, .ref pD, .ref oO, .ref oQ, .ref eG, .int bZ, .int bD, .int bI, .int aI])), (oO, .inl (cI, 8, .inl nJ)), (oQ, .inl (cI, 8, .inl nY))]
noncomputable abbrev q_X3_readStanding (dC : Nat → ClassId) (dI : Nat → Nat → Nat) (cI cC cZ cB cJ : ClassId) (A : Nat → Prop) (xG uT wJ tX jE mX pD oO oQ eG : Nat) (qI rY : Int32) (qM : Nat → Int32) (bZ bD bI : Int32) (post : Int32 → Int32 → Int32 → (Nat → Int32) → (Nat → Int32) → Prop) : Array Value → State → Outcome → State → Prop := va_Qi (fun (r : Int32) (u : Int32 × Int32 × (Nat → Int32) × (Nat → Int32)) => post r u.1 u.2.1 u.2.2.1 u.2.2.2) (fun u t => gB (dC, dI) (tyl cI cC cZ cB cJ) A (wd_X3_readStanding cI cC cZ cB cJ xG uT wJ tX jE mX pD oO oQ eG qI u.1 rY qM bZ bD bI u.2.1 u.2.2.1 u.2.2.2) t) A
noncomputable abbrev rm_X3_readStanding : Room := { frames := 3, cells := 0, slots := 0, locals := 70 }
noncomputable def wp_X3_readStanding (post : Int32 → Int32 → Int32 → (Nat → Int32) → (Nat → Int32) → Prop) (qJ rY : Int32) (qM : Nat → Int32) (aI : Int32) (nJ nY : Nat → Int32) : Prop := wp_X3_readPair_b2 (fun r_1 xO tr_foot_3 tr_fork_4 => (¬ r_1 = 0 → ∀ v_5 : Int32, v_5 = aI + 1 → post 1 xO v_5 tr_foot_3 tr_fork_4) ∧ (r_1 = 0 → post 0 xO aI tr_foot_3 tr_fork_4)) aI qJ rY qM nJ nY
set_option maxHeartbeats 4000000 in
set_option maxRecDepth 100000 in
theorem c_X3_readStanding (l : Launch) (dC : Nat → ClassId) (dI : Nat → Nat → Nat) (cI cC cZ cB cJ : ClassId) (xG uT wJ tX jE mX pD oO oQ eG sz : Nat) (qI qJ rY : Int32) (qM : Nat → Int32) (bZ bD bI aI : Int32) (nJ nY : Nat → Int32) (post : Int32 → Int32 → Int32 → (Nat → Int32) → (Nat → Int32) → Prop) (hw : wp_X3_readStanding post qJ rY qM aI nJ nY) : Met l yX3_readStanding (gw yX3_readStanding cX3_readStanding 2 (some .boolean)) rm_X3_readStanding (va_Pc [.ref wJ, .ref xG] (gPre (dC, dI) (tyl cI cC cZ cB cJ) (wd_X3_readStanding cI cC cZ cB cJ xG uT wJ tX jE mX pD oO oQ eG qI qJ rY qM bZ bD bI aI nJ nY) sz)) (q_X3_readStanding dC dI cI cC cZ cB cJ (va_A (wd_X3_readStanding cI cC cZ cB cJ xG uT wJ tX jE mX pD oO oQ eG qI qJ rY qM bZ bD bI aI nJ nY) sz) xG uT wJ tX jE mX pD oO oQ eG qI rY qM bZ bD bI post) 0 0 (va_A (wd_X3_readStanding cI cC cZ cB cJ xG uT wJ tX jE mX pD oO oQ eG qI qJ rY qM bZ bD bI aI nJ nY) sz) := by
  refine g_enter (own := RX3) (dC, dI) (tyl cI cC cZ cB cJ) (wd_X3_readStanding cI cC cZ cB cJ xG uT wJ tX jE mX pD oO oQ eG qI qJ rY qM bZ bD bI aI nJ nY) sz [.ref wJ, .ref xG] (fun A => q_X3_readStanding dC dI cI cC cZ cB cJ A xG uT wJ tX jE mX pD oO oQ eG qI rY qM bZ bD bI post) pn_RX3 rfl (Nat.le_of_ble_eq_true rfl) ?_
  intro p e s m args below meth c A H locs ls C0 hP hD hS hl
  have hl : lv_has ls 2 [(0, .ref wJ), (1, .ref xG)] := hl
  obtain ⟨hx, hb, hr, hml, hown, hts, hlocks, hA, hK, hN, tL, tM, hZL, hTL, hZM, hTM, hZX⟩ := id C0
  have hp := hw
  unfold wp_X3_readStanding at hp
  refine lv_aload_n hx hb eX3_readStanding_0.1 rfl (lv_at hl 1 rfl) ?_
  refine lv_aload_n hx hb eX3_readStanding_0.2.1 rfl (lv_at hl 0 rfl) ?_
  refine va_get (D := (dC, dI)) (ci := 3) (v := .ref oO) (C := RX3) (T := TX3) (N := 11) hx hb hts i_X3 hown hK hP 2 rfl rfl 4 (Nat.le_of_ble_eq_true rfl) (hts _ q_53) (fun _ h9 => h9) rfl eX3_readStanding_0.2.2.1 ?_
  refine lv_aload_n hx hb eX3_readStanding_0.2.2.2.1 rfl (lv_at hl 0 rfl) ?_
  refine va_get (D := (dC, dI)) (ci := 3) (v := .ref oQ) (C := RX3) (T := TX3) (N := 11) hx hb hts i_X3 hown hK hP 2 rfl rfl 5 (Nat.le_of_ble_eq_true rfl) (hts _ q_54) (fun _ h9 => h9) rfl eX3_readStanding_0.2.2.2.2.1 ?_
  refine lv_aload_n hx hb eX3_readStanding_0.2.2.2.2.2.1 rfl (lv_at hl 0 rfl) ?_
  refine va_get (D := (dC, dI)) (ci := 3) (v := .int aI) (C := RX3) (T := TX3) (N := 11) hx hb hts i_X3 hown hK hP 2 rfl rfl 10 (Nat.le_of_ble_eq_true rfl) (hts _ q_21) (fun _ h9 => h9) rfl eX3_readStanding_0.2.2.2.2.2.2.1 ?_
  have hm := mgk (wc := (wd_X3_readPair_b2 cI cC cZ cB cJ xG uT oO oQ qI qJ rY qM nJ nY)) hP mk_4 5 rfl rfl rfl
  refine g_calli hP hD hS hA (mixT mk_4) (mixF mk_4) hm.1 hm.2 (nd_F _) (dis_g _) (g_runS (As := [.ref xG, .ref oO, .ref oQ, .int aI]) (rest := []) C0 hP hD hS (mixT mk_4) hm.1 (nd_T _) (c_X3_readPair_b2 l dC dI cI cC cZ cB cJ xG uT oO oQ H.size aI qI qJ rY qM nJ nY _ hp) q_47 q_50 q_49 q_48 h_X3_readPair rfl rfl ⟨Nat.le_of_ble_eq_true rfl, Nat.le_of_ble_eq_true rfl⟩ rfl rfl hl.1 rfl (lv_room (Nat.le_of_ble_eq_true rfl)) eX3_readStanding_0.2.2.2.2.2.2.2.1 ⟨Nat.zero_le _, Nat.zero_le _⟩) (fun r_1 u H locs hp hP hD hS => ?_)
  obtain ⟨xO, tr_foot_3, tr_fork_4⟩ := u
  have hPD := PDm (ws' := (wd_X3_readStanding cI cC cZ cB cJ xG uT wJ tX jE mX pD oO oQ eG qI xO rY qM bZ bD bI aI tr_foot_3 tr_fork_4)) hP hD 5 rfl rfl rfl
  have hP := hPD.1
  have hD := hPD.2
  refine lv_if_ne (tgt := 21) hx hb eX3_readStanding_0.2.2.2.2.2.2.2.2.1 (by decide) (fun hc => ?_) (fun hc => ?_)
  · have hp := hp.1 hc
    refine lv_aload_n hx hb eX3_readStanding_0.2.2.2.2.2.2.2.2.2.2.2.1 rfl (lv_at hl 0 rfl) ?_
    refine lv_dup hx hb eX3_readStanding_0.2.2.2.2.2.2.2.2.2.2.2.2.1 rfl ?_
    refine va_get (D := (dC, dI)) (ci := 3) (v := .int aI) (C := RX3) (T := TX3) (N := 11) hx hb hts i_X3 hown hK hP 2 rfl rfl 10 (Nat.le_of_ble_eq_true rfl) (hts _ q_21) (fun _ h9 => h9) rfl eX3_readStanding_0.2.2.2.2.2.2.2.2.2.2.2.2.2.1 ?_
    refine lv_iconst (v := 1) hx hb eX3_readStanding_0.2.2.2.2.2.2.2.2.2.2.2.2.2.2.1 ic_1 ?_
    refine lv_iadd hx hb eX3_readStanding_0.2.2.2.2.2.2.2.2.2.2.2.2.2.2.2 ?_
    refine lv_topi (fun v_5 ev_5 => ?_)
    have hp := hp v_5 ev_5
    refine va_put (D := (dC, dI)) (ci := 3) (v := .int v_5) (ty := .int) (C := RX3) (T := TX3) (N := 11) hx hb hts i_X3 tyX3 tyX3_ok nmX3 hown hK hP hD hS 2 rfl rfl 10 (Nat.le_of_ble_eq_true rfl) (hts _ q_21) (fun _ h9 => h9) rfl (tyX3_ok 10 (Nat.le_of_ble_eq_true rfl)) rfl rfl (Nat.le_of_ble_eq_true rfl) eX3_readStanding_28.1 (fun H locs hP hD hS => ?_)
    have hP : va_P (dC, dI) classes (wd_X3_readStanding cI cC cZ cB cJ xG uT wJ tX jE mX pD oO oQ eG qI xO rY qM bZ bD bI v_5 tr_foot_3 tr_fork_4) H := hP
    have hD : va_D A (wd_X3_readStanding cI cC cZ cB cJ xG uT wJ tX jE mX pD oO oQ eG qI xO rY qM bZ bD bI v_5 tr_foot_3 tr_fork_4) := hD
    refine lv_iconst (v := 1) hx hb eX3_readStanding_28.2.1 ic_1 ?_
    exact W.zret (v := 1) hx hb hr rfl (fun t ht hW => ⟨⟨1, (xO, v_5, tr_foot_3, tr_fork_4), rfl, hp, by rw [ht]; exact hP, va_K.moved hW.alike hK, hD⟩, hS.F ht⟩) hS.2.2 eX3_readStanding_28.2.2
  · have hp := hp.2 hc
    refine lv_iconst (v := 0) hx hb eX3_readStanding_0.2.2.2.2.2.2.2.2.2.1 ic_0 ?_
    exact W.zret (v := 0) hx hb hr rfl (fun t ht hW => ⟨⟨0, (xO, aI, tr_foot_3, tr_fork_4), rfl, hp, by rw [ht]; exact hP, va_K.moved hW.alike hK, hD⟩, hS.F ht⟩) hS.2.2 eX3_readStanding_0.2.2.2.2.2.2.2.2.2.2.1
noncomputable abbrev wd_X3_readLine (cI cC cZ cB cJ : ClassId) (xG uT wJ tX jE mX pD oO oQ eG : Nat) (qI qJ rY : Int32) (qM : Nat → Int32) (bZ bD bI aI : Int32) (wD gF pE qA nJ nY : Nat → Int32) : va_W := [(xG, .inr (8, [.ref uT, .int qI, .int qJ, .int rY])), (uT, .inl (cC, 80, .inl qM)), (wJ, .inr (3, [.ref tX, .ref jE, .ref mX, .ref pD, .ref oO, .ref oQ, .ref eG, .int bZ, .int bD, .int bI, .int aI])), (tX, .inl (cI, 16, .inl wD)), (jE, .inl (cI, 16, .inl gF)), (mX, .inl (cI, 16, .inl pE)), (pD, .inl (cI, 16, .inl qA)), (oO, .inl (cI, 8, .inl nJ)), (oQ, .inl (cI, 8, .inl nY))]
noncomputable abbrev q_X3_readLine (dC : Nat → ClassId) (dI : Nat → Nat → Nat) (cI cC cZ cB cJ : ClassId) (A : Nat → Prop) (xG uT wJ tX jE mX pD oO oQ eG : Nat) (qI rY : Int32) (qM : Nat → Int32) (bZ bD : Int32) (post : Int32 → Int32 → Int32 → Int32 → (Nat → Int32) → (Nat → Int32) → (Nat → Int32) → (Nat → Int32) → (Nat → Int32) → (Nat → Int32) → Prop) : Array Value → State → Outcome → State → Prop := va_Qi (fun (r : Int32) (u : Int32 × Int32 × Int32 × (Nat → Int32) × (Nat → Int32) × (Nat → Int32) × (Nat → Int32) × (Nat → Int32) × (Nat → Int32)) => post r u.1 u.2.1 u.2.2.1 u.2.2.2.1 u.2.2.2.2.1 u.2.2.2.2.2.1 u.2.2.2.2.2.2.1 u.2.2.2.2.2.2.2.1 u.2.2.2.2.2.2.2.2) (fun u t => gB (dC, dI) (tyl cI cC cZ cB cJ) A (wd_X3_readLine cI cC cZ cB cJ xG uT wJ tX jE mX pD oO oQ eG qI u.1 rY qM bZ bD u.2.1 u.2.2.1 u.2.2.2.1 u.2.2.2.2.1 u.2.2.2.2.2.1 u.2.2.2.2.2.2.1 u.2.2.2.2.2.2.2.1 u.2.2.2.2.2.2.2.2) t) A
noncomputable abbrev rm_X3_readLine : Room := { frames := 4, cells := 0, slots := 0, locals := 92 }
section S_X3_readLine
variable {p : Program} {l : Launch} {e : Env} {s : State} {m : MethodId} {args : Array Value} {below : List Frame} {meth : Method} {c : Code} {dC : Nat → ClassId} {dI : Nat → Nat → Nat} {cI cC cZ cB cJ : ClassId} {A : Nat → Prop} {xG uT wJ tX jE mX pD oO oQ eG : Nat} {qI rY : Int32} {qM : Nat → Int32} {bZ bD : Int32} {post : Int32 → Int32 → Int32 → Int32 → (Nat → Int32) → (Nat → Int32) → (Nat → Int32) → (Nat → Int32) → (Nat → Int32) → (Nat → Int32) → Prop}
noncomputable def ws_X3_readLine_28 (post : Int32 → Int32 → Int32 → Int32 → (Nat → Int32) → (Nat → Int32) → (Nat → Int32) → (Nat → Int32) → (Nat → Int32) → (Nat → Int32) → Prop) (rY : Int32) (qM : Nat → Int32) (qJ bI aI : Int32) (wD gF pE qA nJ nY : Nat → Int32) : Prop := wp_X8_here (fun r_2 => (¬ r_2 = 115 → post 0 qJ bI aI wD gF pE qA nJ nY) ∧ (r_2 = 115 → (8 ≤ aI → post 0 qJ bI aI wD gF pE qA nJ nY) ∧ (¬ 8 ≤ aI → wp_X8_skip (fun aEo => wp_X3_readStanding (fun r_4 aAF aAE tr_foot_7 tr_fork_8 => narrow .boolean (.int r_4) = .int r_4 ∧ post r_4 aAF bI aAE wD gF pE qA tr_foot_7 tr_fork_8) aEo rY qM aI nJ nY) qJ rY))) qJ rY qM
set_option maxHeartbeats 4000000 in
set_option maxRecDepth 100000 in
theorem ks_X3_readLine_28 (C0 : gc cX3_readLine (some .boolean) 2 RX3 (dC, dI) (tyl cI cC cZ cB cJ) A p s m args meth c) : ∀ (qJ bI aI : Int32) (wD gF pE qA nJ nY : Nat → Int32) (H : Heap) (locs : List Loc) (ls : Array Slot), (ws_X3_readLine_28 post rY qM) qJ bI aI wD gF pE qA nJ nY → va_P (dC, dI) classes (wd_X3_readLine cI cC cZ cB cJ xG uT wJ tX jE mX pD oO oQ eG qI qJ rY qM bZ bD bI aI wD gF pE qA nJ nY) H → va_D A (wd_X3_readLine cI cC cZ cB cJ xG uT wJ tX jE mX pD oO oQ eG qI qJ rY qM bZ bD bI aI wD gF pE qA nJ nY) → va_S A s.heap H locs → lv_has ls 2 [(0, .ref wJ), (1, .ref xG)] → W p l e rm_X3_readLine s m args below meth c H locs 0 0 (MQ below (q_X3_readLine dC dI cI cC cZ cB cJ A xG uT wJ tX jE mX pD oO oQ eG qI rY qM bZ bD post) args s 0 0 A) (F0 m 28 ls []) := by
  obtain ⟨hx, hb, hr, hml, hown, hts, hlocks, hA, hK, hN, tL, tM, hZL, hTL, hZM, hTM, hZX⟩ := id C0
  intro qJ bI aI wD gF pE qA nJ nY H locs ls hp hP hD hS hl
  unfold ws_X3_readLine_28 at hp
  refine lv_aload_n hx hb eX3_readLine_0.2.2.2.2.2.2.2.2.2.2.2.2.2.2.1 rfl (lv_at hl 1 rfl) ?_
  have hm := mgk (wc := (wd_X8_here cI cC cZ cB cJ xG uT qI qJ rY qM)) hP mk_5 9 rfl rfl rfl
  refine g_calli hP hD hS hA (mixT mk_5) (mixF mk_5) hm.1 hm.2 (nd_F _) (dis_g _) (g_runV (As := []) (rest := []) C0 hP hD hS (mixT mk_5) hm.1 (nd_T _) 0 8 rfl rfl (c_X8_here l dC dI cI cC cZ cB cJ xG uT H.size qI qJ rY qM _ hp) q_33 q_55 q_34 q_35 q_5 h_X8_here rfl rfl ⟨Nat.le_of_ble_eq_true rfl, Nat.le_of_ble_eq_true rfl⟩ rfl rfl hl.1 rfl (lv_room (Nat.le_of_ble_eq_true rfl)) eX3_readLine_0.2.2.2.2.2.2.2.2.2.2.2.2.2.2.2 ⟨Nat.zero_le _, Nat.zero_le _⟩) (fun r_2 u H locs hp hP hD hS => ?_)
  have hPD := PDm (ws' := (wd_X3_readLine cI cC cZ cB cJ xG uT wJ tX jE mX pD oO oQ eG qI qJ rY qM bZ bD bI aI wD gF pE qA nJ nY)) hP hD 9 rfl rfl rfl
  have hP := hPD.1
  have hD := hPD.2
  refine lv_bipush (v := 115) hx hb eX3_readLine_32.1 bp_115 ?_
  refine lv_icmp_ne (tgt := 56) hx hb eX3_readLine_32.2.1 (by decide) (fun hc => ?_) (fun hc => ?_)
  · have hp := hp.1 hc
    refine lv_iconst (v := 0) hx hb eX3_readLine_32.2.2.2.2.2.2.2.2.2.2.2.2.1 ic_0 ?_
    exact W.zret (v := 0) hx hb hr rfl (fun t ht hW => ⟨⟨0, (qJ, bI, aI, wD, gF, pE, qA, nJ, nY), rfl, hp, by rw [ht]; exact hP, va_K.moved hW.alike hK, hD⟩, hS.F ht⟩) hS.2.2 eX3_readLine_32.2.2.2.2.2.2.2.2.2.2.2.2.2
  · have hp := hp.2 hc
    refine lv_aload_n hx hb eX3_readLine_32.2.2.1 rfl (lv_at hl 0 rfl) ?_
    refine va_get (D := (dC, dI)) (ci := 3) (v := .int aI) (C := RX3) (T := TX3) (N := 11) hx hb hts i_X3 hown hK hP 2 rfl rfl 10 (Nat.le_of_ble_eq_true rfl) (hts _ q_21) (fun _ h9 => h9) rfl eX3_readLine_32.2.2.2.1 ?_
    refine lv_bipush (v := 8) hx hb eX3_readLine_32.2.2.2.2.1 bp_8 ?_
    refine lv_icmp_ge (tgt := 56) hx hb eX3_readLine_32.2.2.2.2.2.1 (by decide) (fun hc => ?_) (fun hc => ?_)
    · have hp := hp.1 hc
      refine lv_iconst (v := 0) hx hb eX3_readLine_32.2.2.2.2.2.2.2.2.2.2.2.2.1 ic_0 ?_
      exact W.zret (v := 0) hx hb hr rfl (fun t ht hW => ⟨⟨0, (qJ, bI, aI, wD, gF, pE, qA, nJ, nY), rfl, hp, by rw [ht]; exact hP, va_K.moved hW.alike hK, hD⟩, hS.F ht⟩) hS.2.2 eX3_readLine_32.2.2.2.2.2.2.2.2.2.2.2.2.2
    · have hp := hp.2 hc
      refine lv_aload_n hx hb eX3_readLine_32.2.2.2.2.2.2.1 rfl (lv_at hl 1 rfl) ?_
      have hm := mgk (wc := (wd_X8_skip cI cC cZ cB cJ xG uT qI qJ rY)) hP mk_6 9 rfl rfl rfl
      refine g_callv hP hD hS hA (mixT mk_6) (mixF mk_6) hm.1 hm.2 (nd_F _) (dis_g _) (g_runV (As := []) (rest := []) C0 hP hD hS (mixT mk_6) hm.1 (nd_T _) 0 8 rfl rfl (c_X8_skip l dC dI cI cC cZ cB cJ xG uT H.size qI qJ rY _ hp) q_29 q_56 q_30 q_31 q_5 h_X8_skip rfl rfl ⟨Nat.le_of_ble_eq_true rfl, Nat.le_of_ble_eq_true rfl⟩ rfl rfl hl.1 rfl (lv_room (Nat.le_of_ble_eq_true rfl)) eX3_readLine_32.2.2.2.2.2.2.2.1 ⟨Nat.zero_le _, Nat.zero_le _⟩) (fun u H locs hp hP hD hS => ?_)
      obtain ⟨aEo, rfl⟩ : ∃ z, z = u := ⟨_, rfl⟩
      have hPD := PDm (ws' := (wd_X3_readLine cI cC cZ cB cJ xG uT wJ tX jE mX pD oO oQ eG qI aEo rY qM bZ bD bI aI wD gF pE qA nJ nY)) hP hD 9 rfl rfl rfl
      have hP := hPD.1
      have hD := hPD.2
      refine lv_aload_n hx hb eX3_readLine_32.2.2.2.2.2.2.2.2.1 rfl (lv_at hl 0 rfl) ?_
      refine lv_aload_n hx hb eX3_readLine_32.2.2.2.2.2.2.2.2.2.1 rfl (lv_at hl 1 rfl) ?_
      have hm := mgk (wc := (wd_X3_readStanding cI cC cZ cB cJ xG uT wJ tX jE mX pD oO oQ eG qI aEo rY qM bZ bD bI aI nJ nY)) hP mk_7 9 rfl rfl rfl
      refine g_calli hP hD hS hA (mixT mk_7) (mixF mk_7) hm.1 hm.2 (nd_F _) (dis_g _) (g_runV (As := [.ref xG]) (rest := []) C0 hP hD hS (mixT mk_7) hm.1 (nd_T _) 2 3 rfl rfl (c_X3_readStanding l dC dI cI cC cZ cB cJ xG uT wJ tX jE mX pD oO oQ eG H.size qI aEo rY qM bZ bD bI aI nJ nY _ hp) q_57 q_60 q_58 q_59 q_48 h_X3_readStanding rfl rfl ⟨Nat.le_of_ble_eq_true rfl, Nat.le_of_ble_eq_true rfl⟩ rfl rfl hl.1 rfl (lv_room (Nat.le_of_ble_eq_true rfl)) eX3_readLine_32.2.2.2.2.2.2.2.2.2.2.1 ⟨Nat.zero_le _, Nat.zero_le _⟩) (fun r_4 u H locs hp hP hD hS => ?_)
      obtain ⟨aAF, aAE, tr_foot_7, tr_fork_8⟩ := u
      have hPD := PDm (ws' := (wd_X3_readLine cI cC cZ cB cJ xG uT wJ tX jE mX pD oO oQ eG qI aAF rY qM bZ bD bI aAE wD gF pE qA tr_foot_7 tr_fork_8)) hP hD 9 rfl rfl rfl
      have hP := hPD.1
      have hD := hPD.2
      have hnz := hp.1
      have hp := hp.2
      exact W.zret (v := r_4) hx hb hr hnz (fun t ht hW => ⟨⟨r_4, (aAF, bI, aAE, wD, gF, pE, qA, tr_foot_7, tr_fork_8), rfl, hp, by rw [ht]; exact hP, va_K.moved hW.alike hK, hD⟩, hS.F ht⟩) hS.2.2 eX3_readLine_32.2.2.2.2.2.2.2.2.2.2.2.1
end S_X3_readLine
noncomputable def wp_X3_readLine (post : Int32 → Int32 → Int32 → Int32 → (Nat → Int32) → (Nat → Int32) → (Nat → Int32) → (Nat → Int32) → (Nat → Int32) → (Nat → Int32) → Prop) (qJ rY : Int32) (qM : Nat → Int32) (bI aI : Int32) (wD gF pE qA nJ nY : Nat → Int32) : Prop := wp_X8_here (fun r_1 => (¬ r_1 = 102 → ws_X3_readLine_28 post rY qM qJ bI aI wD gF pE qA nJ nY) ∧ (r_1 = 102 → (16 ≤ bI → ws_X3_readLine_28 post rY qM qJ bI aI wD gF pE qA nJ nY) ∧ (¬ 16 ≤ bI → wp_X8_skip (fun aBg => wp_X3_readFruit (fun r_10 tx_place_11 aGp tr_x_13 tr_height_14 tr_worth_15 tr_ripe_16 => narrow .boolean (.int r_10) = .int r_10 ∧ post r_10 tx_place_11 aGp aI tr_x_13 tr_height_14 tr_worth_15 tr_ripe_16 nJ nY) aBg rY qM bI wD gF pE qA) qJ rY))) qJ rY qM
set_option maxHeartbeats 4000000 in
set_option maxRecDepth 100000 in
theorem c_X3_readLine (l : Launch) (dC : Nat → ClassId) (dI : Nat → Nat → Nat) (cI cC cZ cB cJ : ClassId) (xG uT wJ tX jE mX pD oO oQ eG sz : Nat) (qI qJ rY : Int32) (qM : Nat → Int32) (bZ bD bI aI : Int32) (wD gF pE qA nJ nY : Nat → Int32) (post : Int32 → Int32 → Int32 → Int32 → (Nat → Int32) → (Nat → Int32) → (Nat → Int32) → (Nat → Int32) → (Nat → Int32) → (Nat → Int32) → Prop) (hw : wp_X3_readLine post qJ rY qM bI aI wD gF pE qA nJ nY) : Met l yX3_readLine (gw yX3_readLine cX3_readLine 2 (some .boolean)) rm_X3_readLine (va_Pc [.ref wJ, .ref xG] (gPre (dC, dI) (tyl cI cC cZ cB cJ) (wd_X3_readLine cI cC cZ cB cJ xG uT wJ tX jE mX pD oO oQ eG qI qJ rY qM bZ bD bI aI wD gF pE qA nJ nY) sz)) (q_X3_readLine dC dI cI cC cZ cB cJ (va_A (wd_X3_readLine cI cC cZ cB cJ xG uT wJ tX jE mX pD oO oQ eG qI qJ rY qM bZ bD bI aI wD gF pE qA nJ nY) sz) xG uT wJ tX jE mX pD oO oQ eG qI rY qM bZ bD post) 0 0 (va_A (wd_X3_readLine cI cC cZ cB cJ xG uT wJ tX jE mX pD oO oQ eG qI qJ rY qM bZ bD bI aI wD gF pE qA nJ nY) sz) := by
  refine g_enter (own := RX3) (dC, dI) (tyl cI cC cZ cB cJ) (wd_X3_readLine cI cC cZ cB cJ xG uT wJ tX jE mX pD oO oQ eG qI qJ rY qM bZ bD bI aI wD gF pE qA nJ nY) sz [.ref wJ, .ref xG] (fun A => q_X3_readLine dC dI cI cC cZ cB cJ A xG uT wJ tX jE mX pD oO oQ eG qI rY qM bZ bD post) pn_RX3 rfl (Nat.le_of_ble_eq_true rfl) ?_
  intro p e s m args below meth c A H locs ls C0 hP hD hS hl
  have hl : lv_has ls 2 [(0, .ref wJ), (1, .ref xG)] := hl
  obtain ⟨hx, hb, hr, hml, hown, hts, hlocks, hA, hK, hN, tL, tM, hZL, hTL, hZM, hTM, hZX⟩ := id C0
  have hp := hw
  unfold wp_X3_readLine at hp
  refine lv_aload_n hx hb eX3_readLine_0.1 rfl (lv_at hl 1 rfl) ?_
  have hm := mgk (wc := (wd_X8_here cI cC cZ cB cJ xG uT qI qJ rY qM)) hP mk_5 9 rfl rfl rfl
  refine g_calli hP hD hS hA (mixT mk_5) (mixF mk_5) hm.1 hm.2 (nd_F _) (dis_g _) (g_runV (As := []) (rest := []) C0 hP hD hS (mixT mk_5) hm.1 (nd_T _) 0 8 rfl rfl (c_X8_here l dC dI cI cC cZ cB cJ xG uT H.size qI qJ rY qM _ hp) q_33 q_55 q_34 q_35 q_5 h_X8_here rfl rfl ⟨Nat.le_of_ble_eq_true rfl, Nat.le_of_ble_eq_true rfl⟩ rfl rfl hl.1 rfl (lv_room (Nat.le_of_ble_eq_true rfl)) eX3_readLine_0.2.1 ⟨Nat.zero_le _, Nat.zero_le _⟩) (fun r_1 u H locs hp hP hD hS => ?_)
  have hPD := PDm (ws' := (wd_X3_readLine cI cC cZ cB cJ xG uT wJ tX jE mX pD oO oQ eG qI qJ rY qM bZ bD bI aI wD gF pE qA nJ nY)) hP hD 9 rfl rfl rfl
  have hP := hPD.1
  have hD := hPD.2
  refine lv_bipush (v := 102) hx hb eX3_readLine_0.2.2.1 bp_102 ?_
  refine lv_icmp_ne (tgt := 28) hx hb eX3_readLine_0.2.2.2.1 (by decide) (fun hc => ?_) (fun hc => ?_)
  · have hp := hp.1 hc
    exact ks_X3_readLine_28 C0 qJ bI aI wD gF pE qA nJ nY H locs ls hp hP hD hS (lv_sub hl [0, 1] rfl)
  · have hp := hp.2 hc
    refine lv_aload_n hx hb eX3_readLine_0.2.2.2.2.1 rfl (lv_at hl 0 rfl) ?_
    refine va_get (D := (dC, dI)) (ci := 3) (v := .int bI) (C := RX3) (T := TX3) (N := 11) hx hb hts i_X3 hown hK hP 2 rfl rfl 9 (Nat.le_of_ble_eq_true rfl) (hts _ q_19) (fun _ h9 => h9) rfl eX3_readLine_0.2.2.2.2.2.1 ?_
    refine lv_bipush (v := 16) hx hb eX3_readLine_0.2.2.2.2.2.2.1 bp_16 ?_
    refine lv_icmp_ge (tgt := 28) hx hb eX3_readLine_0.2.2.2.2.2.2.2.1 (by decide) (fun hc => ?_) (fun hc => ?_)
    · have hp := hp.1 hc
      exact ks_X3_readLine_28 C0 qJ bI aI wD gF pE qA nJ nY H locs ls hp hP hD hS (lv_sub hl [0, 1] rfl)
    · have hp := hp.2 hc
      refine lv_aload_n hx hb eX3_readLine_0.2.2.2.2.2.2.2.2.1 rfl (lv_at hl 1 rfl) ?_
      have hm := mgk (wc := (wd_X8_skip cI cC cZ cB cJ xG uT qI qJ rY)) hP mk_6 9 rfl rfl rfl
      refine g_callv hP hD hS hA (mixT mk_6) (mixF mk_6) hm.1 hm.2 (nd_F _) (dis_g _) (g_runV (As := []) (rest := []) C0 hP hD hS (mixT mk_6) hm.1 (nd_T _) 0 8 rfl rfl (c_X8_skip l dC dI cI cC cZ cB cJ xG uT H.size qI qJ rY _ hp) q_29 q_56 q_30 q_31 q_5 h_X8_skip rfl rfl ⟨Nat.le_of_ble_eq_true rfl, Nat.le_of_ble_eq_true rfl⟩ rfl rfl hl.1 rfl (lv_room (Nat.le_of_ble_eq_true rfl)) eX3_readLine_0.2.2.2.2.2.2.2.2.2.1 ⟨Nat.zero_le _, Nat.zero_le _⟩) (fun u H locs hp hP hD hS => ?_)
      obtain ⟨aBg, rfl⟩ : ∃ z, z = u := ⟨_, rfl⟩
      have hPD := PDm (ws' := (wd_X3_readLine cI cC cZ cB cJ xG uT wJ tX jE mX pD oO oQ eG qI aBg rY qM bZ bD bI aI wD gF pE qA nJ nY)) hP hD 9 rfl rfl rfl
      have hP := hPD.1
      have hD := hPD.2
      refine lv_aload_n hx hb eX3_readLine_0.2.2.2.2.2.2.2.2.2.2.1 rfl (lv_at hl 0 rfl) ?_
      refine lv_aload_n hx hb eX3_readLine_0.2.2.2.2.2.2.2.2.2.2.2.1 rfl (lv_at hl 1 rfl) ?_
      have hm := mgk (wc := (wd_X3_readFruit cI cC cZ cB cJ xG uT wJ tX jE mX pD oO oQ eG qI aBg rY qM bZ bD bI aI wD gF pE qA)) hP mk_8 9 rfl rfl rfl
      refine g_calli hP hD hS hA (mixT mk_8) (mixF mk_8) hm.1 hm.2 (nd_F _) (dis_g _) (g_runV (As := [.ref xG]) (rest := []) C0 hP hD hS (mixT mk_8) hm.1 (nd_T _) 2 3 rfl rfl (c_X3_readFruit l dC dI cI cC cZ cB cJ xG uT wJ tX jE mX pD oO oQ eG H.size qI aBg rY qM bZ bD bI aI wD gF pE qA _ hp) q_61 q_64 q_62 q_63 q_48 h_X3_readFruit rfl rfl ⟨Nat.le_of_ble_eq_true rfl, Nat.le_of_ble_eq_true rfl⟩ rfl rfl hl.1 rfl (lv_room (Nat.le_of_ble_eq_true rfl)) eX3_readLine_0.2.2.2.2.2.2.2.2.2.2.2.2.1 ⟨Nat.zero_le _, Nat.zero_le _⟩) (fun r_10 u H locs hp hP hD hS => ?_)
      obtain ⟨tx_place_11, aGp, tr_x_13, tr_height_14, tr_worth_15, tr_ripe_16⟩ := u
      have hPD := PDm (ws' := (wd_X3_readLine cI cC cZ cB cJ xG uT wJ tX jE mX pD oO oQ eG qI tx_place_11 rY qM bZ bD aGp aI tr_x_13 tr_height_14 tr_worth_15 tr_ripe_16 nJ nY)) hP hD 9 rfl rfl rfl
      have hP := hPD.1
      have hD := hPD.2
      have hnz := hp.1
      have hp := hp.2
      exact W.zret (v := r_10) hx hb hr hnz (fun t ht hW => ⟨⟨r_10, (tx_place_11, aGp, aI, tr_x_13, tr_height_14, tr_worth_15, tr_ripe_16, nJ, nY), rfl, hp, by rw [ht]; exact hP, va_K.moved hW.alike hK, hD⟩, hS.F ht⟩) hS.2.2 eX3_readLine_0.2.2.2.2.2.2.2.2.2.2.2.2.2.1
noncomputable abbrev wd_X3_readLines (cI cC cZ cB cJ : ClassId) (xG uT wJ tX jE mX pD oO oQ eG : Nat) (qI qJ rY : Int32) (qM : Nat → Int32) (bZ bD bI aI : Int32) (wD gF pE qA nJ nY : Nat → Int32) : va_W := [(xG, .inr (8, [.ref uT, .int qI, .int qJ, .int rY])), (uT, .inl (cC, 80, .inl qM)), (wJ, .inr (3, [.ref tX, .ref jE, .ref mX, .ref pD, .ref oO, .ref oQ, .ref eG, .int bZ, .int bD, .int bI, .int aI])), (tX, .inl (cI, 16, .inl wD)), (jE, .inl (cI, 16, .inl gF)), (mX, .inl (cI, 16, .inl pE)), (pD, .inl (cI, 16, .inl qA)), (oO, .inl (cI, 8, .inl nJ)), (oQ, .inl (cI, 8, .inl nY))]
noncomputable abbrev q_X3_readLines (dC : Nat → ClassId) (dI : Nat → Nat → Nat) (cI cC cZ cB cJ : ClassId) (A : Nat → Prop) (xG uT wJ tX jE mX pD oO oQ eG : Nat) (qI rY : Int32) (qM : Nat → Int32) (bZ bD : Int32) (post : Int32 → Int32 → Int32 → Int32 → (Nat → Int32) → (Nat → Int32) → (Nat → Int32) → (Nat → Int32) → (Nat → Int32) → (Nat → Int32) → Prop) : Array Value → State → Outcome → State → Prop := va_Qi (fun (r : Int32) (u : Int32 × Int32 × Int32 × (Nat → Int32) × (Nat → Int32) × (Nat → Int32) × (Nat → Int32) × (Nat → Int32) × (Nat → Int32)) => post r u.1 u.2.1 u.2.2.1 u.2.2.2.1 u.2.2.2.2.1 u.2.2.2.2.2.1 u.2.2.2.2.2.2.1 u.2.2.2.2.2.2.2.1 u.2.2.2.2.2.2.2.2) (fun u t => gB (dC, dI) (tyl cI cC cZ cB cJ) A (wd_X3_readLines cI cC cZ cB cJ xG uT wJ tX jE mX pD oO oQ eG qI u.1 rY qM bZ bD u.2.1 u.2.2.1 u.2.2.2.1 u.2.2.2.2.1 u.2.2.2.2.2.1 u.2.2.2.2.2.2.1 u.2.2.2.2.2.2.2.1 u.2.2.2.2.2.2.2.2) t) A
noncomputable abbrev rm_X3_readLines : Room := { frames := 5, cells := 0, slots := 0, locals := 113 }
section S_X3_readLines
variable {p : Program} {l : Launch} {e : Env} {s : State} {m : MethodId} {args : Array Value} {below : List Frame} {meth : Method} {c : Code} {dC : Nat → ClassId} {dI : Nat → Nat → Nat} {cI cC cZ cB cJ : ClassId} {A : Nat → Prop} {xG uT wJ tX jE mX pD oO oQ eG : Nat} {qI rY : Int32} {qM : Nat → Int32} {bZ bD : Int32} {post : Int32 → Int32 → Int32 → Int32 → (Nat → Int32) → (Nat → Int32) → (Nat → Int32) → (Nat → Int32) → (Nat → Int32) → (Nat → Int32) → Prop}
noncomputable def ws_X3_readLines_18 (post next : Int32 → Int32 → Int32 → Int32 → (Nat → Int32) → (Nat → Int32) → (Nat → Int32) → (Nat → Int32) → (Nat → Int32) → (Nat → Int32) → Prop) (rY : Int32) (qM : Nat → Int32) (bZ bD x2 qJ bI aI : Int32) (wD gF pE qA nJ nY : Nat → Int32) : Prop := (76 < x2 → post (-1) qJ bI aI wD gF pE qA nJ nY) ∧ (¬ 76 < x2 → wp_X3_readLine (fun r_1 xO aAG aAk tr_x_5 aCz aEp aGx aGy aEq => (¬ r_1 = 0 → wp_X8_take (fun r_11 aB9 => (¬ r_11 = 0 → ∀ v_13 : Int32, v_13 = x2 + 1 → next v_13 aB9 aAG aAk tr_x_5 aCz aEp aGx aGy aEq) ∧ (r_11 = 0 → post x2 aB9 aAG aAk tr_x_5 aCz aEp aGx aGy aEq)) 59 xO rY qM) ∧ (r_1 = 0 → post (-1) xO aAG aAk tr_x_5 aCz aEp aGx aGy aEq)) qJ rY qM bI aI wD gF pE qA nJ nY)
noncomputable def wb_X3_readLines_18 (post : Int32 → Int32 → Int32 → Int32 → (Nat → Int32) → (Nat → Int32) → (Nat → Int32) → (Nat → Int32) → (Nat → Int32) → (Nat → Int32) → Prop) (rY : Int32) (qM : Nat → Int32) (bZ bD : Int32) : Nat → Int32 → Int32 → Int32 → Int32 → (Nat → Int32) → (Nat → Int32) → (Nat → Int32) → (Nat → Int32) → (Nat → Int32) → (Nat → Int32) → Prop := fun n => Nat.rec (motive := fun _ => Int32 → Int32 → Int32 → Int32 → (Nat → Int32) → (Nat → Int32) → (Nat → Int32) → (Nat → Int32) → (Nat → Int32) → (Nat → Int32) → Prop) (fun _ _ _ _ _ _ _ _ _ _ => False) (fun _ ih => ws_X3_readLines_18 post ih rY qM bZ bD) n
set_option maxHeartbeats 4000000 in
set_option maxRecDepth 100000 in
theorem ks_X3_readLines_18 (C0 : gc cX3_readLines (some .int) 3 RX3 (dC, dI) (tyl cI cC cZ cB cJ) A p s m args meth c) {next : Int32 → Int32 → Int32 → Int32 → (Nat → Int32) → (Nat → Int32) → (Nat → Int32) → (Nat → Int32) → (Nat → Int32) → (Nat → Int32) → Prop} (hKn : ∀ (x2 : Int32) (qJ : Int32) (bI : Int32) (aI : Int32) (wD : Nat → Int32) (gF : Nat → Int32) (pE : Nat → Int32) (qA : Nat → Int32) (nJ : Nat → Int32) (nY : Nat → Int32) (H : Heap) (locs : List Loc) (ls : Array Slot), next x2 qJ bI aI wD gF pE qA nJ nY → va_P (dC, dI) classes (wd_X3_readLines cI cC cZ cB cJ xG uT wJ tX jE mX pD oO oQ eG qI qJ rY qM bZ bD bI aI wD gF pE qA nJ nY) H → va_D A (wd_X3_readLines cI cC cZ cB cJ xG uT wJ tX jE mX pD oO oQ eG qI qJ rY qM bZ bD bI aI wD gF pE qA nJ nY) → va_S A s.heap H locs → lv_has ls 3 [(0, .ref wJ), (1, .ref xG), (2, .int x2)] → W p l e rm_X3_readLines s m args below meth c H locs 0 0 (MQ below (q_X3_readLines dC dI cI cC cZ cB cJ A xG uT wJ tX jE mX pD oO oQ eG qI rY qM bZ bD post) args s 0 0 A) (F0 m 18 ls [])) : ∀ (x2 qJ bI aI : Int32) (wD gF pE qA nJ nY : Nat → Int32) (H : Heap) (locs : List Loc) (ls : Array Slot), (ws_X3_readLines_18 post next rY qM bZ bD) x2 qJ bI aI wD gF pE qA nJ nY → va_P (dC, dI) classes (wd_X3_readLines cI cC cZ cB cJ xG uT wJ tX jE mX pD oO oQ eG qI qJ rY qM bZ bD bI aI wD gF pE qA nJ nY) H → va_D A (wd_X3_readLines cI cC cZ cB cJ xG uT wJ tX jE mX pD oO oQ eG qI qJ rY qM bZ bD bI aI wD gF pE qA nJ nY) → va_S A s.heap H locs → lv_has ls 3 [(0, .ref wJ), (1, .ref xG), (2, .int x2)] → W p l e rm_X3_readLines s m args below meth c H locs 0 0 (MQ below (q_X3_readLines dC dI cI cC cZ cB cJ A xG uT wJ tX jE mX pD oO oQ eG qI rY qM bZ bD post) args s 0 0 A) (F0 m 18 ls []) := by
  obtain ⟨hx, hb, hr, hml, hown, hts, hlocks, hA, hK, hN, tL, tM, hZL, hTL, hZM, hTM, hZX⟩ := id C0
  intro x2 qJ bI aI wD gF pE qA nJ nY H locs ls hp hP hD hS hl
  unfold ws_X3_readLines_18 at hp
  refine lv_iload_n hx hb eX3_readLines_0.2.2.2.2.2.2.2.2.2.2.1 rfl (lv_at hl 2 rfl) ?_
  refine lv_bipush (v := 76) hx hb eX3_readLines_0.2.2.2.2.2.2.2.2.2.2.2.1 bp_76 ?_
  refine lv_icmp_gt (tgt := 51) hx hb eX3_readLines_0.2.2.2.2.2.2.2.2.2.2.2.2.1 (by decide) (fun hc => ?_) (fun hc => ?_)
  · have hp := hp.1 hc
    refine lv_iconst (v := (-1)) hx hb eX3_readLines_29.2.2.2.2.2.2.2.2.2.2.2.1 ic_m1 ?_
    exact W.iret (v := (-1)) hx hb hr (fun t ht hW => ⟨⟨(-1), (qJ, bI, aI, wD, gF, pE, qA, nJ, nY), rfl, hp, by rw [ht]; exact hP, va_K.moved hW.alike hK, hD⟩, hS.F ht⟩) hS.2.2 eX3_readLines_29.2.2.2.2.2.2.2.2.2.2.2.2
  · have hp := hp.2 hc
    refine lv_aload_n hx hb eX3_readLines_0.2.2.2.2.2.2.2.2.2.2.2.2.2.1 rfl (lv_at hl 0 rfl) ?_
    refine lv_aload_n hx hb eX3_readLines_0.2.2.2.2.2.2.2.2.2.2.2.2.2.2.1 rfl (lv_at hl 1 rfl) ?_
    have hm := mgk (wc := (wd_X3_readLine cI cC cZ cB cJ xG uT wJ tX jE mX pD oO oQ eG qI qJ rY qM bZ bD bI aI wD gF pE qA nJ nY)) hP mk_9 9 rfl rfl rfl
    refine g_calli hP hD hS hA (mixT mk_9) (mixF mk_9) hm.1 hm.2 (nd_F _) (dis_g _) (g_runV (As := [.ref xG]) (rest := []) C0 hP hD hS (mixT mk_9) hm.1 (nd_T _) 2 3 rfl rfl (c_X3_readLine l dC dI cI cC cZ cB cJ xG uT wJ tX jE mX pD oO oQ eG H.size qI qJ rY qM bZ bD bI aI wD gF pE qA nJ nY _ hp) q_65 q_68 q_66 q_67 q_48 h_X3_readLine rfl rfl ⟨Nat.le_of_ble_eq_true rfl, Nat.le_of_ble_eq_true rfl⟩ rfl rfl hl.1 rfl (lv_room (Nat.le_of_ble_eq_true rfl)) eX3_readLines_0.2.2.2.2.2.2.2.2.2.2.2.2.2.2.2 ⟨Nat.zero_le _, Nat.zero_le _⟩) (fun r_1 u H locs hp hP hD hS => ?_)
    obtain ⟨xO, aAG, aAk, tr_x_5, aCz, aEp, aGx, aGy, aEq⟩ := u
    have hPD := PDm (ws' := (wd_X3_readLines cI cC cZ cB cJ xG uT wJ tX jE mX pD oO oQ eG qI xO rY qM bZ bD aAG aAk tr_x_5 aCz aEp aGx aGy aEq)) hP hD 9 rfl rfl rfl
    have hP := hPD.1
    have hD := hPD.2
    refine lv_if_ne (tgt := 34) hx hb eX3_readLines_29.1 (by decide) (fun hc => ?_) (fun hc => ?_)
    · have hp := hp.1 hc
      refine lv_aload_n hx hb eX3_readLines_29.2.2.2.1 rfl (lv_at hl 1 rfl) ?_
      refine lv_bipush (v := 59) hx hb eX3_readLines_29.2.2.2.2.1 bp_59 ?_
      have hm := mgk (wc := (wd_X8_take cI cC cZ cB cJ xG uT qI xO rY qM)) hP mk_5 9 rfl rfl rfl
      refine g_calli hP hD hS hA (mixT mk_5) (mixF mk_5) hm.1 hm.2 (nd_F _) (dis_g _) (g_runV (As := [.int 59]) (rest := []) C0 hP hD hS (mixT mk_5) hm.1 (nd_T _) 0 8 rfl rfl (c_X8_take l dC dI cI cC cZ cB cJ xG uT H.size 59 qI xO rY qM _ hp) q_41 q_44 q_42 q_43 q_5 h_X8_take rfl rfl ⟨Nat.le_of_ble_eq_true rfl, Nat.le_of_ble_eq_true rfl⟩ rfl rfl hl.1 rfl (lv_room (Nat.le_of_ble_eq_true rfl)) eX3_readLines_29.2.2.2.2.2.1 ⟨Nat.zero_le _, Nat.zero_le _⟩) (fun r_11 u H locs hp hP hD hS => ?_)
      obtain ⟨aB9, rfl⟩ : ∃ z, z = u := ⟨_, rfl⟩
      have hPD := PDm (ws' := (wd_X3_readLines cI cC cZ cB cJ xG uT wJ tX jE mX pD oO oQ eG qI aB9 rY qM bZ bD aAG aAk tr_x_5 aCz aEp aGx aGy aEq)) hP hD 9 rfl rfl rfl
      have hP := hPD.1
      have hD := hPD.2
      refine lv_if_ne (tgt := 45) hx hb eX3_readLines_29.2.2.2.2.2.2.1 (by decide) (fun hc => ?_) (fun hc => ?_)
      · have hp := hp.1 hc
        obtain ⟨v_13, ev_13⟩ : ∃ y : Int32, y = x2 + 1 := ⟨_, rfl⟩
        refine lv_iinc (v := v_13) (lv' := [(2, .int v_13), (0, .ref wJ), (1, .ref xG)]) hx hb eX3_readLines_29.2.2.2.2.2.2.2.2.2.1 hl (k := 2) rfl (by rw [ev_13]; rfl) (by decide) rfl (fun ls hl => ?_)
        have hp := hp v_13 ev_13
        refine lv_goto (tgt := 18) hx hb eX3_readLines_29.2.2.2.2.2.2.2.2.2.2.1 (by decide) ?_
        exact hKn v_13 aB9 aAG aAk tr_x_5 aCz aEp aGx aGy aEq H locs ls hp hP hD hS (lv_sub hl [1, 2, 0] rfl)
      · have hp := hp.2 hc
        refine lv_iload_n hx hb eX3_readLines_29.2.2.2.2.2.2.2.1 rfl (lv_at hl 2 rfl) ?_
        exact W.iret (v := x2) hx hb hr (fun t ht hW => ⟨⟨x2, (aB9, aAG, aAk, tr_x_5, aCz, aEp, aGx, aGy, aEq), rfl, hp, by rw [ht]; exact hP, va_K.moved hW.alike hK, hD⟩, hS.F ht⟩) hS.2.2 eX3_readLines_29.2.2.2.2.2.2.2.2.1
    · have hp := hp.2 hc
      refine lv_iconst (v := (-1)) hx hb eX3_readLines_29.2.1 ic_m1 ?_
      exact W.iret (v := (-1)) hx hb hr (fun t ht hW => ⟨⟨(-1), (xO, aAG, aAk, tr_x_5, aCz, aEp, aGx, aGy, aEq), rfl, hp, by rw [ht]; exact hP, va_K.moved hW.alike hK, hD⟩, hS.F ht⟩) hS.2.2 eX3_readLines_29.2.2.1
set_option maxHeartbeats 4000000 in
set_option maxRecDepth 100000 in
theorem kb_X3_readLines_18 (C0 : gc cX3_readLines (some .int) 3 RX3 (dC, dI) (tyl cI cC cZ cB cJ) A p s m args meth c) : ∀ (n : Nat), ∀ (x2 qJ bI aI : Int32) (wD gF pE qA nJ nY : Nat → Int32) (H : Heap) (locs : List Loc) (ls : Array Slot), (wb_X3_readLines_18 post rY qM bZ bD n) x2 qJ bI aI wD gF pE qA nJ nY → va_P (dC, dI) classes (wd_X3_readLines cI cC cZ cB cJ xG uT wJ tX jE mX pD oO oQ eG qI qJ rY qM bZ bD bI aI wD gF pE qA nJ nY) H → va_D A (wd_X3_readLines cI cC cZ cB cJ xG uT wJ tX jE mX pD oO oQ eG qI qJ rY qM bZ bD bI aI wD gF pE qA nJ nY) → va_S A s.heap H locs → lv_has ls 3 [(0, .ref wJ), (1, .ref xG), (2, .int x2)] → W p l e rm_X3_readLines s m args below meth c H locs 0 0 (MQ below (q_X3_readLines dC dI cI cC cZ cB cJ A xG uT wJ tX jE mX pD oO oQ eG qI rY qM bZ bD post) args s 0 0 A) (F0 m 18 ls []) := by
  intro n
  induction n with
  | zero =>
    intro x2 qJ bI aI wD gF pE qA nJ nY H locs ls hp
    exact False.elim hp
  | succ n ih =>
    intro x2 qJ bI aI wD gF pE qA nJ nY H locs ls hp
    exact ks_X3_readLines_18 C0 ih x2 qJ bI aI wD gF pE qA nJ nY H locs ls hp
end S_X3_readLines
noncomputable def wp_X3_readLines (post : Int32 → Int32 → Int32 → Int32 → (Nat → Int32) → (Nat → Int32) → (Nat → Int32) → (Nat → Int32) → (Nat → Int32) → (Nat → Int32) → Prop) (qJ rY : Int32) (qM : Nat → Int32) (bZ bD bI aI : Int32) (wD gF pE qA nJ nY : Nat → Int32) : Prop := ∃ n : Nat, wb_X3_readLines_18 post rY qM bZ bD n 1 qJ bZ bD wD gF pE qA nJ nY
set_option maxHeartbeats 4000000 in
set_option maxRecDepth 100000 in
theorem c_X3_readLines (l : Launch) (dC : Nat → ClassId) (dI : Nat → Nat → Nat) (cI cC cZ cB cJ : ClassId) (xG uT wJ tX jE mX pD oO oQ eG sz : Nat) (qI qJ rY : Int32) (qM : Nat → Int32) (bZ bD bI aI : Int32) (wD gF pE qA nJ nY : Nat → Int32) (post : Int32 → Int32 → Int32 → Int32 → (Nat → Int32) → (Nat → Int32) → (Nat → Int32) → (Nat → Int32) → (Nat → Int32) → (Nat → Int32) → Prop) (hw : wp_X3_readLines post qJ rY qM bZ bD bI aI wD gF pE qA nJ nY) : Met l yX3_readLines (gw yX3_readLines cX3_readLines 3 (some .int)) rm_X3_readLines (va_Pc [.ref wJ, .ref xG] (gPre (dC, dI) (tyl cI cC cZ cB cJ) (wd_X3_readLines cI cC cZ cB cJ xG uT wJ tX jE mX pD oO oQ eG qI qJ rY qM bZ bD bI aI wD gF pE qA nJ nY) sz)) (q_X3_readLines dC dI cI cC cZ cB cJ (va_A (wd_X3_readLines cI cC cZ cB cJ xG uT wJ tX jE mX pD oO oQ eG qI qJ rY qM bZ bD bI aI wD gF pE qA nJ nY) sz) xG uT wJ tX jE mX pD oO oQ eG qI rY qM bZ bD post) 0 0 (va_A (wd_X3_readLines cI cC cZ cB cJ xG uT wJ tX jE mX pD oO oQ eG qI qJ rY qM bZ bD bI aI wD gF pE qA nJ nY) sz) := by
  refine g_enter (own := RX3) (dC, dI) (tyl cI cC cZ cB cJ) (wd_X3_readLines cI cC cZ cB cJ xG uT wJ tX jE mX pD oO oQ eG qI qJ rY qM bZ bD bI aI wD gF pE qA nJ nY) sz [.ref wJ, .ref xG] (fun A => q_X3_readLines dC dI cI cC cZ cB cJ A xG uT wJ tX jE mX pD oO oQ eG qI rY qM bZ bD post) pn_RX3 rfl (Nat.le_of_ble_eq_true rfl) ?_
  intro p e s m args below meth c A H locs ls C0 hP hD hS hl
  have hl : lv_has ls 3 [(0, .ref wJ), (1, .ref xG)] := hl
  obtain ⟨hx, hb, hr, hml, hown, hts, hlocks, hA, hK, hN, tL, tM, hZL, hTL, hZM, hTM, hZX⟩ := id C0
  have hp := hw
  unfold wp_X3_readLines at hp
  refine lv_aload_n hx hb eX3_readLines_0.1 rfl (lv_at hl 0 rfl) ?_
  refine lv_aload_n hx hb eX3_readLines_0.2.1 rfl (lv_at hl 0 rfl) ?_
  refine va_get (D := (dC, dI)) (ci := 3) (v := .int bZ) (C := RX3) (T := TX3) (N := 11) hx hb hts i_X3 hown hK hP 2 rfl rfl 7 (Nat.le_of_ble_eq_true rfl) (hts _ q_20) (fun _ h9 => h9) rfl eX3_readLines_0.2.2.1 ?_
  refine va_put (D := (dC, dI)) (ci := 3) (v := .int bZ) (ty := .int) (C := RX3) (T := TX3) (N := 11) hx hb hts i_X3 tyX3 tyX3_ok nmX3 hown hK hP hD hS 2 rfl rfl 9 (Nat.le_of_ble_eq_true rfl) (hts _ q_19) (fun _ h9 => h9) rfl (tyX3_ok 9 (Nat.le_of_ble_eq_true rfl)) rfl rfl (Nat.le_of_ble_eq_true rfl) eX3_readLines_0.2.2.2.1 (fun H locs hP hD hS => ?_)
  have hP : va_P (dC, dI) classes (wd_X3_readLines cI cC cZ cB cJ xG uT wJ tX jE mX pD oO oQ eG qI qJ rY qM bZ bD bZ aI wD gF pE qA nJ nY) H := hP
  have hD : va_D A (wd_X3_readLines cI cC cZ cB cJ xG uT wJ tX jE mX pD oO oQ eG qI qJ rY qM bZ bD bZ aI wD gF pE qA nJ nY) := hD
  refine lv_aload_n hx hb eX3_readLines_0.2.2.2.2.1 rfl (lv_at hl 0 rfl) ?_
  refine lv_aload_n hx hb eX3_readLines_0.2.2.2.2.2.1 rfl (lv_at hl 0 rfl) ?_
  refine va_get (D := (dC, dI)) (ci := 3) (v := .int bD) (C := RX3) (T := TX3) (N := 11) hx hb hts i_X3 hown hK hP 2 rfl rfl 8 (Nat.le_of_ble_eq_true rfl) (hts _ q_22) (fun _ h9 => h9) rfl eX3_readLines_0.2.2.2.2.2.2.1 ?_
  refine va_put (D := (dC, dI)) (ci := 3) (v := .int bD) (ty := .int) (C := RX3) (T := TX3) (N := 11) hx hb hts i_X3 tyX3 tyX3_ok nmX3 hown hK hP hD hS 2 rfl rfl 10 (Nat.le_of_ble_eq_true rfl) (hts _ q_21) (fun _ h9 => h9) rfl (tyX3_ok 10 (Nat.le_of_ble_eq_true rfl)) rfl rfl (Nat.le_of_ble_eq_true rfl) eX3_readLines_0.2.2.2.2.2.2.2.1 (fun H locs hP hD hS => ?_)
  have hP : va_P (dC, dI) classes (wd_X3_readLines cI cC cZ cB cJ xG uT wJ tX jE mX pD oO oQ eG qI qJ rY qM bZ bD bZ bD wD gF pE qA nJ nY) H := hP
  have hD : va_D A (wd_X3_readLines cI cC cZ cB cJ xG uT wJ tX jE mX pD oO oQ eG qI qJ rY qM bZ bD bZ bD wD gF pE qA nJ nY) := hD
  refine lv_iconst (v := 1) hx hb eX3_readLines_0.2.2.2.2.2.2.2.2.1 ic_1 ?_
  refine lv_istore_n (lv' := [(2, .int 1), (0, .ref wJ), (1, .ref xG)]) hx hb eX3_readLines_0.2.2.2.2.2.2.2.2.2.1 rfl hl (by decide) rfl (fun ls hl => ?_)
  obtain ⟨n9, hp⟩ := hp
  exact kb_X3_readLines_18 C0 n9 1 qJ bZ bD wD gF pE qA nJ nY H locs ls hp hP hD hS (lv_sub hl [1, 2, 0] rfl)
noncomputable abbrev wd_X9_orchard (cI cC cZ cB cJ : ClassId) (a_x xG xD wY wJ wQ xI xK xJ tW uT tX jE mX pD oO oQ eG vX uO vQ : Nat) (qI qJ rY : Int32) (qM : Nat → Int32) (bZ bD bI aI : Int32) (wD gF pE qA nJ nY : Nat → Int32) (oE uF : Int32) (tJ : Nat → Int32) : va_W := [(a_x, .inr (9, [.ref xG, .ref xD, .ref wY, .ref wJ, .ref wQ, .ref xI, .ref xK, .ref xJ, .ref tW])), (xG, .inr (8, [.ref uT, .int qI, .int qJ, .int rY])), (uT, .inl (cC, 80, .inl qM)), (wJ, .inr (3, [.ref tX, .ref jE, .ref mX, .ref pD, .ref oO, .ref oQ, .ref eG, .int bZ, .int bD, .int bI, .int aI])), (tX, .inl (cI, 16, .inl wD)), (jE, .inl (cI, 16, .inl gF)), (mX, .inl (cI, 16, .inl pE)), (pD, .inl (cI, 16, .inl qA)), (oO, .inl (cI, 8, .inl nJ)), (oQ, .inl (cI, 8, .inl nY)), (xI, .inr (4, [.ref vX, .ref uO, .ref vQ, .int oE, .int uF])), (vQ, .inl (cZ, 2, .inl tJ))]
noncomputable abbrev q_X9_orchard (dC : Nat → ClassId) (dI : Nat → Nat → Nat) (cI cC cZ cB cJ : ClassId) (A : Nat → Prop) (a_x xG xD wY wJ wQ xI xK xJ tW uT tX jE mX pD oO oQ eG vX uO vQ : Nat) (qM : Nat → Int32) (uF : Int32) (post : Int32 → Int32 → Int32 → Int32 → Int32 → Int32 → Int32 → Int32 → (Nat → Int32) → (Nat → Int32) → (Nat → Int32) → (Nat → Int32) → (Nat → Int32) → (Nat → Int32) → Int32 → (Nat → Int32) → Prop) : Array Value → State → Outcome → State → Prop := va_Qi (fun (r : Int32) (u : Int32 × Int32 × Int32 × Int32 × Int32 × Int32 × Int32 × (Nat → Int32) × (Nat → Int32) × (Nat → Int32) × (Nat → Int32) × (Nat → Int32) × (Nat → Int32) × Int32 × (Nat → Int32)) => post r u.1 u.2.1 u.2.2.1 u.2.2.2.1 u.2.2.2.2.1 u.2.2.2.2.2.1 u.2.2.2.2.2.2.1 u.2.2.2.2.2.2.2.1 u.2.2.2.2.2.2.2.2.1 u.2.2.2.2.2.2.2.2.2.1 u.2.2.2.2.2.2.2.2.2.2.1 u.2.2.2.2.2.2.2.2.2.2.2.1 u.2.2.2.2.2.2.2.2.2.2.2.2.1 u.2.2.2.2.2.2.2.2.2.2.2.2.2.1 u.2.2.2.2.2.2.2.2.2.2.2.2.2.2) (fun u t => gB (dC, dI) (tyl cI cC cZ cB cJ) A (wd_X9_orchard cI cC cZ cB cJ a_x xG xD wY wJ wQ xI xK xJ tW uT tX jE mX pD oO oQ eG vX uO vQ u.1 u.2.1 u.2.2.1 qM u.2.2.2.1 u.2.2.2.2.1 u.2.2.2.2.2.1 u.2.2.2.2.2.2.1 u.2.2.2.2.2.2.2.1 u.2.2.2.2.2.2.2.2.1 u.2.2.2.2.2.2.2.2.2.1 u.2.2.2.2.2.2.2.2.2.2.1 u.2.2.2.2.2.2.2.2.2.2.2.1 u.2.2.2.2.2.2.2.2.2.2.2.2.1 u.2.2.2.2.2.2.2.2.2.2.2.2.2.1 uF u.2.2.2.2.2.2.2.2.2.2.2.2.2.2) t) A
noncomputable abbrev rm_X9_orchard : Room := { frames := 6, cells := 0, slots := 0, locals := 135 }
section S_X9_orchard
variable {p : Program} {l : Launch} {e : Env} {s : State} {m : MethodId} {args : Array Value} {below : List Frame} {meth : Method} {c : Code} {dC : Nat → ClassId} {dI : Nat → Nat → Nat} {cI cC cZ cB cJ : ClassId} {A : Nat → Prop} {a_x xG xD wY wJ wQ xI xK xJ tW uT tX jE mX pD oO oQ eG vX uO vQ : Nat} {qM : Nat → Int32} {uF : Int32} {post : Int32 → Int32 → Int32 → Int32 → Int32 → Int32 → Int32 → Int32 → (Nat → Int32) → (Nat → Int32) → (Nat → Int32) → (Nat → Int32) → (Nat → Int32) → (Nat → Int32) → Int32 → (Nat → Int32) → Prop}
noncomputable def ws_X9_orchard_94 (post : Int32 → Int32 → Int32 → Int32 → Int32 → Int32 → Int32 → Int32 → (Nat → Int32) → (Nat → Int32) → (Nat → Int32) → (Nat → Int32) → (Nat → Int32) → (Nat → Int32) → Int32 → (Nat → Int32) → Prop) (qM : Nat → Int32) (x3 qI qJ rY bZ bD bI aI : Int32) (wD gF pE qA nJ nY : Nat → Int32) (oE : Int32) (tJ : Nat → Int32) : Prop := wp_X8_clear (fun tx_length_14 => post x3 tx_length_14 qJ rY bZ bD bI aI wD gF pE qA nJ nY oE tJ) qI
set_option maxHeartbeats 4000000 in
set_option maxRecDepth 100000 in
theorem ks_X9_orchard_94 (C0 : gc cX9_orchard (some .int) 4 RX9 (dC, dI) (tyl cI cC cZ cB cJ) A p s m args meth c) : ∀ (x3 qI qJ rY bZ bD bI aI : Int32) (wD gF pE qA nJ nY : Nat → Int32) (oE : Int32) (tJ : Nat → Int32) (H : Heap) (locs : List Loc) (ls : Array Slot), (ws_X9_orchard_94 post qM) x3 qI qJ rY bZ bD bI aI wD gF pE qA nJ nY oE tJ → va_P (dC, dI) classes (wd_X9_orchard cI cC cZ cB cJ a_x xG xD wY wJ wQ xI xK xJ tW uT tX jE mX pD oO oQ eG vX uO vQ qI qJ rY qM bZ bD bI aI wD gF pE qA nJ nY oE uF tJ) H → va_D A (wd_X9_orchard cI cC cZ cB cJ a_x xG xD wY wJ wQ xI xK xJ tW uT tX jE mX pD oO oQ eG vX uO vQ qI qJ rY qM bZ bD bI aI wD gF pE qA nJ nY oE uF tJ) → va_S A s.heap H locs → lv_has ls 4 [(0, .ref a_x), (3, .int x3)] → W p l e rm_X9_orchard s m args below meth c H locs 0 0 (MQ below (q_X9_orchard dC dI cI cC cZ cB cJ A a_x xG xD wY wJ wQ xI xK xJ tW uT tX jE mX pD oO oQ eG vX uO vQ qM uF post) args s 0 0 A) (F0 m 94 ls []) := by
  obtain ⟨hx, hb, hr, hml, hown, hts, hlocks, hA, hK, hN, tL, tM, hZL, hTL, hZM, hTM, hZX⟩ := id C0
  intro x3 qI qJ rY bZ bD bI aI wD gF pE qA nJ nY oE tJ H locs ls hp hP hD hS hl
  unfold ws_X9_orchard_94 at hp
  refine lv_aload_n hx hb eX9_orchard_65.2.2.2.2.2.2.2.2.2.2.2.2.2.1 rfl (lv_at hl 0 rfl) ?_
  refine va_get (D := (dC, dI)) (ci := 9) (v := .ref xG) (C := RX9) (T := TX9) (N := 9) hx hb hts i_X9 hown hK hP 0 rfl rfl 0 (Nat.le_of_ble_eq_true rfl) (hts _ q_3) (fun _ h9 => h9) rfl eX9_orchard_65.2.2.2.2.2.2.2.2.2.2.2.2.2.2.1 ?_
  have hm := mgk (wc := (wd_X8_clear cI cC cZ cB cJ xG uT qI qJ rY)) hP mk_10 12 rfl rfl rfl
  refine g_callv hP hD hS hA (mixT mk_10) (mixF mk_10) hm.1 hm.2 (nd_F _) (dis_g _) (g_runV (As := []) (rest := []) C0 hP hD hS (mixT mk_10) hm.1 (nd_T _) 1 8 rfl rfl (c_X8_clear l dC dI cI cC cZ cB cJ xG uT H.size qI qJ rY _ hp) q_83 q_86 q_84 q_85 q_5 h_X8_clear rfl rfl ⟨Nat.le_of_ble_eq_true rfl, Nat.le_of_ble_eq_true rfl⟩ rfl rfl hl.1 rfl (lv_room (Nat.le_of_ble_eq_true rfl)) eX9_orchard_65.2.2.2.2.2.2.2.2.2.2.2.2.2.2.2 ⟨Nat.zero_le _, Nat.zero_le _⟩) (fun u H locs hp hP hD hS => ?_)
  obtain ⟨tx_length_14, rfl⟩ : ∃ z, z = u := ⟨_, rfl⟩
  have hPD := PDm (ws' := (wd_X9_orchard cI cC cZ cB cJ a_x xG xD wY wJ wQ xI xK xJ tW uT tX jE mX pD oO oQ eG vX uO vQ tx_length_14 qJ rY qM bZ bD bI aI wD gF pE qA nJ nY oE uF tJ)) hP hD 12 rfl rfl rfl
  have hP := hPD.1
  have hD := hPD.2
  refine lv_iload_n hx hb eX9_orchard_101.1 rfl (lv_at hl 1 rfl) ?_
  exact W.iret (v := x3) hx hb hr (fun t ht hW => ⟨⟨x3, (tx_length_14, qJ, rY, bZ, bD, bI, aI, wD, gF, pE, qA, nJ, nY, oE, tJ), rfl, hp, by rw [ht]; exact hP, va_K.moved hW.alike hK, hD⟩, hS.F ht⟩) hS.2.2 eX9_orchard_101.2
noncomputable def ws_X9_orchard_71 (post : Int32 → Int32 → Int32 → Int32 → Int32 → Int32 → Int32 → Int32 → (Nat → Int32) → (Nat → Int32) → (Nat → Int32) → (Nat → Int32) → (Nat → Int32) → (Nat → Int32) → Int32 → (Nat → Int32) → Prop) (qM : Nat → Int32) (x1 x2 k0 qI qJ rY bZ bD bI aI : Int32) (wD gF pE qA nJ nY : Nat → Int32) (oE : Int32) (tJ : Nat → Int32) : Prop := (x2 = 0 → ws_X9_orchard_94 post qM k0 qI qJ rY bZ bD bI aI wD gF pE qA nJ nY oE tJ) ∧ (¬ x2 = 0 → (x1 ≤ 0 → ws_X9_orchard_94 post qM k0 qI qJ rY bZ bD bI aI wD gF pE qA nJ nY oE tJ) ∧ (¬ x1 ≤ 0 → wp_X3_takeLines (fun tr_fruits_15 aGz => wp_X4_forgetAll (fun pa_undoable_17 pa_isKept_18 => ws_X9_orchard_94 post qM k0 qI qJ rY tr_fruits_15 aGz bI aI wD gF pE qA nJ nY pa_undoable_17 pa_isKept_18) oE tJ) bZ bD bI aI))
set_option maxHeartbeats 4000000 in
set_option maxRecDepth 100000 in
theorem ks_X9_orchard_71 (C0 : gc cX9_orchard (some .int) 4 RX9 (dC, dI) (tyl cI cC cZ cB cJ) A p s m args meth c) : ∀ (x1 x2 k0 qI qJ rY bZ bD bI aI : Int32) (wD gF pE qA nJ nY : Nat → Int32) (oE : Int32) (tJ : Nat → Int32) (H : Heap) (locs : List Loc) (ls : Array Slot), (ws_X9_orchard_71 post qM) x1 x2 k0 qI qJ rY bZ bD bI aI wD gF pE qA nJ nY oE tJ → va_P (dC, dI) classes (wd_X9_orchard cI cC cZ cB cJ a_x xG xD wY wJ wQ xI xK xJ tW uT tX jE mX pD oO oQ eG vX uO vQ qI qJ rY qM bZ bD bI aI wD gF pE qA nJ nY oE uF tJ) H → va_D A (wd_X9_orchard cI cC cZ cB cJ a_x xG xD wY wJ wQ xI xK xJ tW uT tX jE mX pD oO oQ eG vX uO vQ qI qJ rY qM bZ bD bI aI wD gF pE qA nJ nY oE uF tJ) → va_S A s.heap H locs → lv_has ls 4 [(0, .ref a_x), (1, .int x1), (2, .int x2)] → W p l e rm_X9_orchard s m args below meth c H locs 0 0 (MQ below (q_X9_orchard dC dI cI cC cZ cB cJ A a_x xG xD wY wJ wQ xI xK xJ tW uT tX jE mX pD oO oQ eG vX uO vQ qM uF post) args s 0 0 A) (F0 m 71 ls [.int k0]) := by
  obtain ⟨hx, hb, hr, hml, hown, hts, hlocks, hA, hK, hN, tL, tM, hZL, hTL, hZM, hTM, hZX⟩ := id C0
  intro x1 x2 k0 qI qJ rY bZ bD bI aI wD gF pE qA nJ nY oE tJ H locs ls hp hP hD hS hl
  unfold ws_X9_orchard_71 at hp
  refine lv_istore_n (lv' := [(3, .int k0), (0, .ref a_x), (1, .int x1), (2, .int x2)]) hx hb eX9_orchard_65.2.2.1 rfl hl (by decide) rfl (fun ls hl => ?_)
  refine lv_iload_n hx hb eX9_orchard_65.2.2.2.1 rfl (lv_at hl 3 rfl) ?_
  refine lv_if_eq (tgt := 94) hx hb eX9_orchard_65.2.2.2.2.1 (by decide) (fun hc => ?_) (fun hc => ?_)
  · have hp := hp.1 hc
    exact ks_X9_orchard_94 C0 k0 qI qJ rY bZ bD bI aI wD gF pE qA nJ nY oE tJ H locs ls hp hP hD hS (lv_sub hl [1, 0] rfl)
  · have hp := hp.2 hc
    refine lv_iload_n hx hb eX9_orchard_65.2.2.2.2.2.1 rfl (lv_at hl 2 rfl) ?_
    refine lv_if_le (tgt := 94) hx hb eX9_orchard_65.2.2.2.2.2.2.1 (by decide) (fun hc => ?_) (fun hc => ?_)
    · have hp := hp.1 hc
      exact ks_X9_orchard_94 C0 k0 qI qJ rY bZ bD bI aI wD gF pE qA nJ nY oE tJ H locs ls hp hP hD hS (lv_sub hl [1, 0] rfl)
    · have hp := hp.2 hc
      refine lv_aload_n hx hb eX9_orchard_65.2.2.2.2.2.2.2.1 rfl (lv_at hl 1 rfl) ?_
      refine va_get (D := (dC, dI)) (ci := 9) (v := .ref wJ) (C := RX9) (T := TX9) (N := 9) hx hb hts i_X9 hown hK hP 0 rfl rfl 3 (Nat.le_of_ble_eq_true rfl) (hts _ q_74) (fun _ h9 => h9) rfl eX9_orchard_65.2.2.2.2.2.2.2.2.1 ?_
      have hm := mgk (wc := (wd_X3_takeLines cI cC cZ cB cJ wJ tX jE mX pD oO oQ eG bZ bD bI aI)) hP mk_11 12 rfl rfl rfl
      refine g_callv hP hD hS hA (mixT mk_11) (mixF mk_11) hm.1 hm.2 (nd_F _) (dis_g _) (g_runV (As := []) (rest := []) C0 hP hD hS (mixT mk_11) hm.1 (nd_T _) 3 3 rfl rfl (c_X3_takeLines l dC dI cI cC cZ cB cJ wJ tX jE mX pD oO oQ eG H.size bZ bD bI aI _ hp) q_87 q_90 q_88 q_89 q_48 h_X3_takeLines rfl rfl ⟨Nat.le_of_ble_eq_true rfl, Nat.le_of_ble_eq_true rfl⟩ rfl rfl hl.1 rfl (lv_room (Nat.le_of_ble_eq_true rfl)) eX9_orchard_65.2.2.2.2.2.2.2.2.2.1 ⟨Nat.zero_le _, Nat.zero_le _⟩) (fun u H locs hp hP hD hS => ?_)
      obtain ⟨tr_fruits_15, aGz⟩ := u
      have hPD := PDm (ws' := (wd_X9_orchard cI cC cZ cB cJ a_x xG xD wY wJ wQ xI xK xJ tW uT tX jE mX pD oO oQ eG vX uO vQ qI qJ rY qM tr_fruits_15 aGz bI aI wD gF pE qA nJ nY oE uF tJ)) hP hD 12 rfl rfl rfl
      have hP := hPD.1
      have hD := hPD.2
      refine lv_aload_n hx hb eX9_orchard_65.2.2.2.2.2.2.2.2.2.2.1 rfl (lv_at hl 1 rfl) ?_
      refine va_get (D := (dC, dI)) (ci := 9) (v := .ref xI) (C := RX9) (T := TX9) (N := 9) hx hb hts i_X9 hown hK hP 0 rfl rfl 5 (Nat.le_of_ble_eq_true rfl) (hts _ q_91) (fun _ h9 => h9) rfl eX9_orchard_65.2.2.2.2.2.2.2.2.2.2.2.1 ?_
      have hm := mgk (wc := (wd_X4_forgetAll cI cC cZ cB cJ xI vX uO vQ oE uF tJ)) hP mk_12 12 rfl rfl rfl
      refine g_callv hP hD hS hA (mixT mk_12) (mixF mk_12) hm.1 hm.2 (nd_F _) (dis_g _) (g_runV (As := []) (rest := []) C0 hP hD hS (mixT mk_12) hm.1 (nd_T _) 10 4 rfl rfl (c_X4_forgetAll l dC dI cI cC cZ cB cJ xI vX uO vQ H.size oE uF tJ _ hp) q_92 q_96 q_94 q_95 q_93 h_X4_forgetAll rfl rfl ⟨Nat.le_of_ble_eq_true rfl, Nat.le_of_ble_eq_true rfl⟩ rfl rfl hl.1 rfl (lv_room (Nat.le_of_ble_eq_true rfl)) eX9_orchard_65.2.2.2.2.2.2.2.2.2.2.2.2.1 ⟨Nat.zero_le _, Nat.zero_le _⟩) (fun u H locs hp hP hD hS => ?_)
      obtain ⟨pa_undoable_17, pa_isKept_18⟩ := u
      have hPD := PDm (ws' := (wd_X9_orchard cI cC cZ cB cJ a_x xG xD wY wJ wQ xI xK xJ tW uT tX jE mX pD oO oQ eG vX uO vQ qI qJ rY qM tr_fruits_15 aGz bI aI wD gF pE qA nJ nY pa_undoable_17 uF pa_isKept_18)) hP hD 12 rfl rfl rfl
      have hP := hPD.1
      have hD := hPD.2
      exact ks_X9_orchard_94 C0 k0 qI qJ rY tr_fruits_15 aGz bI aI wD gF pE qA nJ nY pa_undoable_17 pa_isKept_18 H locs ls hp hP hD hS (lv_sub hl [1, 0] rfl)
noncomputable def ws_X9_orchard_55 (post : Int32 → Int32 → Int32 → Int32 → Int32 → Int32 → Int32 → Int32 → (Nat → Int32) → (Nat → Int32) → (Nat → Int32) → (Nat → Int32) → (Nat → Int32) → (Nat → Int32) → Int32 → (Nat → Int32) → Prop) (qM : Nat → Int32) (x1 k0 qI qJ rY bZ bD bI aI : Int32) (wD gF pE qA nJ nY : Nat → Int32) (oE : Int32) (tJ : Nat → Int32) : Prop := (k0 = 0 → wp_X8_wrong (fun r_13 => ws_X9_orchard_71 post qM x1 k0 r_13 qI qJ rY bZ bD bI aI wD gF pE qA nJ nY oE tJ) qJ) ∧ (¬ k0 = 0 → ws_X9_orchard_71 post qM x1 k0 x1 qI qJ rY bZ bD bI aI wD gF pE qA nJ nY oE tJ)
set_option maxHeartbeats 4000000 in
set_option maxRecDepth 100000 in
theorem ks_X9_orchard_55 (C0 : gc cX9_orchard (some .int) 4 RX9 (dC, dI) (tyl cI cC cZ cB cJ) A p s m args meth c) : ∀ (x1 k0 qI qJ rY bZ bD bI aI : Int32) (wD gF pE qA nJ nY : Nat → Int32) (oE : Int32) (tJ : Nat → Int32) (H : Heap) (locs : List Loc) (ls : Array Slot), (ws_X9_orchard_55 post qM) x1 k0 qI qJ rY bZ bD bI aI wD gF pE qA nJ nY oE tJ → va_P (dC, dI) classes (wd_X9_orchard cI cC cZ cB cJ a_x xG xD wY wJ wQ xI xK xJ tW uT tX jE mX pD oO oQ eG vX uO vQ qI qJ rY qM bZ bD bI aI wD gF pE qA nJ nY oE uF tJ) H → va_D A (wd_X9_orchard cI cC cZ cB cJ a_x xG xD wY wJ wQ xI xK xJ tW uT tX jE mX pD oO oQ eG vX uO vQ qI qJ rY qM bZ bD bI aI wD gF pE qA nJ nY oE uF tJ) → va_S A s.heap H locs → lv_has ls 4 [(0, .ref a_x), (1, .int x1)] → W p l e rm_X9_orchard s m args below meth c H locs 0 0 (MQ below (q_X9_orchard dC dI cI cC cZ cB cJ A a_x xG xD wY wJ wQ xI xK xJ tW uT tX jE mX pD oO oQ eG vX uO vQ qM uF post) args s 0 0 A) (F0 m 55 ls [.int k0]) := by
  obtain ⟨hx, hb, hr, hml, hown, hts, hlocks, hA, hK, hN, tL, tM, hZL, hTL, hZM, hTM, hZX⟩ := id C0
  intro x1 k0 qI qJ rY bZ bD bI aI wD gF pE qA nJ nY oE tJ H locs ls hp hP hD hS hl
  unfold ws_X9_orchard_55 at hp
  refine lv_istore_n (lv' := [(2, .int k0), (0, .ref a_x), (1, .int x1)]) hx hb eX9_orchard_35.2.2.2.2.2.2.2.2.2.2.1 rfl hl (by decide) rfl (fun ls hl => ?_)
  refine lv_iload_n hx hb eX9_orchard_35.2.2.2.2.2.2.2.2.2.2.2.1 rfl (lv_at hl 0 rfl) ?_
  refine lv_if_eq (tgt := 64) hx hb eX9_orchard_35.2.2.2.2.2.2.2.2.2.2.2.2.1 (by decide) (fun hc => ?_) (fun hc => ?_)
  · have hp := hp.1 hc
    refine lv_aload_n hx hb eX9_orchard_35.2.2.2.2.2.2.2.2.2.2.2.2.2.2.2 rfl (lv_at hl 1 rfl) ?_
    refine va_get (D := (dC, dI)) (ci := 9) (v := .ref xG) (C := RX9) (T := TX9) (N := 9) hx hb hts i_X9 hown hK hP 0 rfl rfl 0 (Nat.le_of_ble_eq_true rfl) (hts _ q_3) (fun _ h9 => h9) rfl eX9_orchard_65.1 ?_
    have hm := mgk (wc := (wd_X8_wrong cI cC cZ cB cJ xG uT qI qJ rY)) hP mk_10 12 rfl rfl rfl
    refine g_calli hP hD hS hA (mixT mk_10) (mixF mk_10) hm.1 hm.2 (nd_F _) (dis_g _) (g_runV (As := []) (rest := []) C0 hP hD hS (mixT mk_10) hm.1 (nd_T _) 1 8 rfl rfl (c_X8_wrong l dC dI cI cC cZ cB cJ xG uT H.size qI qJ rY _ hp) q_79 q_82 q_80 q_81 q_5 h_X8_wrong rfl rfl ⟨Nat.le_of_ble_eq_true rfl, Nat.le_of_ble_eq_true rfl⟩ rfl rfl hl.1 rfl (lv_room (Nat.le_of_ble_eq_true rfl)) eX9_orchard_65.2.1 ⟨Nat.zero_le _, Nat.zero_le _⟩) (fun r_13 u H locs hp hP hD hS => ?_)
    have hPD := PDm (ws' := (wd_X9_orchard cI cC cZ cB cJ a_x xG xD wY wJ wQ xI xK xJ tW uT tX jE mX pD oO oQ eG vX uO vQ qI qJ rY qM bZ bD bI aI wD gF pE qA nJ nY oE uF tJ)) hP hD 12 rfl rfl rfl
    have hP := hPD.1
    have hD := hPD.2
    exact ks_X9_orchard_71 C0 x1 k0 r_13 qI qJ rY bZ bD bI aI wD gF pE qA nJ nY oE tJ H locs ls hp hP hD hS (lv_sub hl [1, 2, 0] rfl)
  · have hp := hp.2 hc
    refine lv_iload_n hx hb eX9_orchard_35.2.2.2.2.2.2.2.2.2.2.2.2.2.1 rfl (lv_at hl 2 rfl) ?_
    refine lv_goto (tgt := 71) hx hb eX9_orchard_35.2.2.2.2.2.2.2.2.2.2.2.2.2.2.1 (by decide) ?_
    exact ks_X9_orchard_71 C0 x1 k0 x1 qI qJ rY bZ bD bI aI wD gF pE qA nJ nY oE tJ H locs ls hp hP hD hS (lv_sub hl [1, 2, 0] rfl)
noncomputable def ws_X9_orchard_54 (post : Int32 → Int32 → Int32 → Int32 → Int32 → Int32 → Int32 → Int32 → (Nat → Int32) → (Nat → Int32) → (Nat → Int32) → (Nat → Int32) → (Nat → Int32) → (Nat → Int32) → Int32 → (Nat → Int32) → Prop) (qM : Nat → Int32) (x1 qI qJ rY bZ bD bI aI : Int32) (wD gF pE qA nJ nY : Nat → Int32) (oE : Int32) (tJ : Nat → Int32) : Prop := ws_X9_orchard_55 post qM x1 0 qI qJ rY bZ bD bI aI wD gF pE qA nJ nY oE tJ
set_option maxHeartbeats 4000000 in
set_option maxRecDepth 100000 in
theorem ks_X9_orchard_54 (C0 : gc cX9_orchard (some .int) 4 RX9 (dC, dI) (tyl cI cC cZ cB cJ) A p s m args meth c) : ∀ (x1 qI qJ rY bZ bD bI aI : Int32) (wD gF pE qA nJ nY : Nat → Int32) (oE : Int32) (tJ : Nat → Int32) (H : Heap) (locs : List Loc) (ls : Array Slot), (ws_X9_orchard_54 post qM) x1 qI qJ rY bZ bD bI aI wD gF pE qA nJ nY oE tJ → va_P (dC, dI) classes (wd_X9_orchard cI cC cZ cB cJ a_x xG xD wY wJ wQ xI xK xJ tW uT tX jE mX pD oO oQ eG vX uO vQ qI qJ rY qM bZ bD bI aI wD gF pE qA nJ nY oE uF tJ) H → va_D A (wd_X9_orchard cI cC cZ cB cJ a_x xG xD wY wJ wQ xI xK xJ tW uT tX jE mX pD oO oQ eG vX uO vQ qI qJ rY qM bZ bD bI aI wD gF pE qA nJ nY oE uF tJ) → va_S A s.heap H locs → lv_has ls 4 [(0, .ref a_x), (1, .int x1)] → W p l e rm_X9_orchard s m args below meth c H locs 0 0 (MQ below (q_X9_orchard dC dI cI cC cZ cB cJ A a_x xG xD wY wJ wQ xI xK xJ tW uT tX jE mX pD oO oQ eG vX uO vQ qM uF post) args s 0 0 A) (F0 m 54 ls []) := by
  obtain ⟨hx, hb, hr, hml, hown, hts, hlocks, hA, hK, hN, tL, tM, hZL, hTL, hZM, hTM, hZX⟩ := id C0
  intro x1 qI qJ rY bZ bD bI aI wD gF pE qA nJ nY oE tJ H locs ls hp hP hD hS hl
  unfold ws_X9_orchard_54 at hp
  refine lv_iconst (v := 0) hx hb eX9_orchard_35.2.2.2.2.2.2.2.2.2.1 ic_0 ?_
  exact ks_X9_orchard_55 C0 x1 0 qI qJ rY bZ bD bI aI wD gF pE qA nJ nY oE tJ H locs ls hp hP hD hS (lv_sub hl [0, 1] rfl)
noncomputable def ws_X9_orchard_34 (post : Int32 → Int32 → Int32 → Int32 → Int32 → Int32 → Int32 → Int32 → (Nat → Int32) → (Nat → Int32) → (Nat → Int32) → (Nat → Int32) → (Nat → Int32) → (Nat → Int32) → Int32 → (Nat → Int32) → Prop) (qM : Nat → Int32) (k0 qI qJ rY bZ bD bI aI : Int32) (wD gF pE qA nJ nY : Nat → Int32) (oE : Int32) (tJ : Nat → Int32) : Prop := (k0 = (-1) → ws_X9_orchard_54 post qM k0 qI qJ rY bZ bD bI aI wD gF pE qA nJ nY oE tJ) ∧ (¬ k0 = (-1) → wp_X8_isThrough (fun r_19 => (r_19 = 0 → ws_X9_orchard_54 post qM k0 qI qJ rY bZ bD bI aI wD gF pE qA nJ nY oE tJ) ∧ (¬ r_19 = 0 → ws_X9_orchard_55 post qM k0 1 qI qJ rY bZ bD bI aI wD gF pE qA nJ nY oE tJ)) qI qJ)
set_option maxHeartbeats 4000000 in
set_option maxRecDepth 100000 in
theorem ks_X9_orchard_34 (C0 : gc cX9_orchard (some .int) 4 RX9 (dC, dI) (tyl cI cC cZ cB cJ) A p s m args meth c) : ∀ (k0 qI qJ rY bZ bD bI aI : Int32) (wD gF pE qA nJ nY : Nat → Int32) (oE : Int32) (tJ : Nat → Int32) (H : Heap) (locs : List Loc) (ls : Array Slot), (ws_X9_orchard_34 post qM) k0 qI qJ rY bZ bD bI aI wD gF pE qA nJ nY oE tJ → va_P (dC, dI) classes (wd_X9_orchard cI cC cZ cB cJ a_x xG xD wY wJ wQ xI xK xJ tW uT tX jE mX pD oO oQ eG vX uO vQ qI qJ rY qM bZ bD bI aI wD gF pE qA nJ nY oE uF tJ) H → va_D A (wd_X9_orchard cI cC cZ cB cJ a_x xG xD wY wJ wQ xI xK xJ tW uT tX jE mX pD oO oQ eG vX uO vQ qI qJ rY qM bZ bD bI aI wD gF pE qA nJ nY oE uF tJ) → va_S A s.heap H locs → lv_has ls 4 [(0, .ref a_x)] → W p l e rm_X9_orchard s m args below meth c H locs 0 0 (MQ below (q_X9_orchard dC dI cI cC cZ cB cJ A a_x xG xD wY wJ wQ xI xK xJ tW uT tX jE mX pD oO oQ eG vX uO vQ qM uF post) args s 0 0 A) (F0 m 34 ls [.int k0]) := by
  obtain ⟨hx, hb, hr, hml, hown, hts, hlocks, hA, hK, hN, tL, tM, hZL, hTL, hZM, hTM, hZX⟩ := id C0
  intro k0 qI qJ rY bZ bD bI aI wD gF pE qA nJ nY oE tJ H locs ls hp hP hD hS hl
  unfold ws_X9_orchard_34 at hp
  refine lv_istore_n (lv' := [(1, .int k0), (0, .ref a_x)]) hx hb eX9_orchard_0.2.2.2.2.2.2.2.2.2.2.2.2.2.2.2 rfl hl (by decide) rfl (fun ls hl => ?_)
  refine lv_iload_n hx hb eX9_orchard_35.1 rfl (lv_at hl 0 rfl) ?_
  refine lv_iconst (v := (-1)) hx hb eX9_orchard_35.2.1 ic_m1 ?_
  refine lv_icmp_eq (tgt := 54) hx hb eX9_orchard_35.2.2.1 (by decide) (fun hc => ?_) (fun hc => ?_)
  · have hp := hp.1 hc
    exact ks_X9_orchard_54 C0 k0 qI qJ rY bZ bD bI aI wD gF pE qA nJ nY oE tJ H locs ls hp hP hD hS (lv_sub hl [1, 0] rfl)
  · have hp := hp.2 hc
    refine lv_aload_n hx hb eX9_orchard_35.2.2.2.1 rfl (lv_at hl 1 rfl) ?_
    refine va_get (D := (dC, dI)) (ci := 9) (v := .ref xG) (C := RX9) (T := TX9) (N := 9) hx hb hts i_X9 hown hK hP 0 rfl rfl 0 (Nat.le_of_ble_eq_true rfl) (hts _ q_3) (fun _ h9 => h9) rfl eX9_orchard_35.2.2.2.2.1 ?_
    have hm := mgk (wc := (wd_X8_isThrough cI cC cZ cB cJ xG uT qI qJ rY)) hP mk_10 12 rfl rfl rfl
    refine g_calli hP hD hS hA (mixT mk_10) (mixF mk_10) hm.1 hm.2 (nd_F _) (dis_g _) (g_runV (As := []) (rest := []) C0 hP hD hS (mixT mk_10) hm.1 (nd_T _) 1 8 rfl rfl (c_X8_isThrough l dC dI cI cC cZ cB cJ xG uT H.size qI qJ rY _ hp) q_97 q_100 q_98 q_99 q_5 h_X8_isThrough rfl rfl ⟨Nat.le_of_ble_eq_true rfl, Nat.le_of_ble_eq_true rfl⟩ rfl rfl hl.1 rfl (lv_room (Nat.le_of_ble_eq_true rfl)) eX9_orchard_35.2.2.2.2.2.1 ⟨Nat.zero_le _, Nat.zero_le _⟩) (fun r_19 u H locs hp hP hD hS => ?_)
    have hPD := PDm (ws' := (wd_X9_orchard cI cC cZ cB cJ a_x xG xD wY wJ wQ xI xK xJ tW uT tX jE mX pD oO oQ eG vX uO vQ qI qJ rY qM bZ bD bI aI wD gF pE qA nJ nY oE uF tJ)) hP hD 12 rfl rfl rfl
    have hP := hPD.1
    have hD := hPD.2
    refine lv_if_eq (tgt := 54) hx hb eX9_orchard_35.2.2.2.2.2.2.1 (by decide) (fun hc => ?_) (fun hc => ?_)
    · have hp := hp.1 hc
      exact ks_X9_orchard_54 C0 k0 qI qJ rY bZ bD bI aI wD gF pE qA nJ nY oE tJ H locs ls hp hP hD hS (lv_sub hl [1, 0] rfl)
    · have hp := hp.2 hc
      refine lv_iconst (v := 1) hx hb eX9_orchard_35.2.2.2.2.2.2.2.1 ic_1 ?_
      refine lv_goto (tgt := 55) hx hb eX9_orchard_35.2.2.2.2.2.2.2.2.1 (by decide) ?_
      exact ks_X9_orchard_55 C0 k0 1 qI qJ rY bZ bD bI aI wD gF pE qA nJ nY oE tJ H locs ls hp hP hD hS (lv_sub hl [1, 0] rfl)
end S_X9_orchard
noncomputable def wp_X9_orchard (post : Int32 → Int32 → Int32 → Int32 → Int32 → Int32 → Int32 → Int32 → (Nat → Int32) → (Nat → Int32) → (Nat → Int32) → (Nat → Int32) → (Nat → Int32) → (Nat → Int32) → Int32 → (Nat → Int32) → Prop) (qI qJ rY : Int32) (qM : Nat → Int32) (bZ bD bI aI : Int32) (wD gF pE qA nJ nY : Nat → Int32) (oE : Int32) (tJ : Nat → Int32) : Prop := wp_X8_open (fun aAz zT => (¬ qI = 0 → wp_X3_readLines (fun r_3 xU aHJ aAE tr_x_7 tr_height_8 tr_worth_9 tr_ripe_10 tr_foot_11 tr_fork_12 => ws_X9_orchard_34 post qM r_3 qI xU zT bZ bD aHJ aAE tr_x_7 tr_height_8 tr_worth_9 tr_ripe_10 tr_foot_11 tr_fork_12 oE tJ) aAz zT qM bZ bD bI aI wD gF pE qA nJ nY) ∧ (qI = 0 → ws_X9_orchard_34 post qM 0 qI aAz zT bZ bD bI aI wD gF pE qA nJ nY oE tJ)) 76 qI qJ rY
set_option maxHeartbeats 4000000 in
set_option maxRecDepth 100000 in
theorem c_X9_orchard (l : Launch) (dC : Nat → ClassId) (dI : Nat → Nat → Nat) (cI cC cZ cB cJ : ClassId) (a_x xG xD wY wJ wQ xI xK xJ tW uT tX jE mX pD oO oQ eG vX uO vQ sz : Nat) (qI qJ rY : Int32) (qM : Nat → Int32) (bZ bD bI aI : Int32) (wD gF pE qA nJ nY : Nat → Int32) (oE uF : Int32) (tJ : Nat → Int32) (post : Int32 → Int32 → Int32 → Int32 → Int32 → Int32 → Int32 → Int32 → (Nat → Int32) → (Nat → Int32) → (Nat → Int32) → (Nat → Int32) → (Nat → Int32) → (Nat → Int32) → Int32 → (Nat → Int32) → Prop) (hw : wp_X9_orchard post qI qJ rY qM bZ bD bI aI wD gF pE qA nJ nY oE tJ) : Met l yX9_orchard (gw yX9_orchard cX9_orchard 4 (some .int)) rm_X9_orchard (va_Pc [.ref a_x] (gPre (dC, dI) (tyl cI cC cZ cB cJ) (wd_X9_orchard cI cC cZ cB cJ a_x xG xD wY wJ wQ xI xK xJ tW uT tX jE mX pD oO oQ eG vX uO vQ qI qJ rY qM bZ bD bI aI wD gF pE qA nJ nY oE uF tJ) sz)) (q_X9_orchard dC dI cI cC cZ cB cJ (va_A (wd_X9_orchard cI cC cZ cB cJ a_x xG xD wY wJ wQ xI xK xJ tW uT tX jE mX pD oO oQ eG vX uO vQ qI qJ rY qM bZ bD bI aI wD gF pE qA nJ nY oE uF tJ) sz) a_x xG xD wY wJ wQ xI xK xJ tW uT tX jE mX pD oO oQ eG vX uO vQ qM uF post) 0 0 (va_A (wd_X9_orchard cI cC cZ cB cJ a_x xG xD wY wJ wQ xI xK xJ tW uT tX jE mX pD oO oQ eG vX uO vQ qI qJ rY qM bZ bD bI aI wD gF pE qA nJ nY oE uF tJ) sz) := by
  refine g_enter (own := RX9) (dC, dI) (tyl cI cC cZ cB cJ) (wd_X9_orchard cI cC cZ cB cJ a_x xG xD wY wJ wQ xI xK xJ tW uT tX jE mX pD oO oQ eG vX uO vQ qI qJ rY qM bZ bD bI aI wD gF pE qA nJ nY oE uF tJ) sz [.ref a_x] (fun A => q_X9_orchard dC dI cI cC cZ cB cJ A a_x xG xD wY wJ wQ xI xK xJ tW uT tX jE mX pD oO oQ eG vX uO vQ qM uF post) pn_RX9 rfl (Nat.le_of_ble_eq_true rfl) ?_
  intro p e s m args below meth c A H locs ls C0 hP hD hS hl
  have hl : lv_has ls 4 [(0, .ref a_x)] := hl
  obtain ⟨hx, hb, hr, hml, hown, hts, hlocks, hA, hK, hN, tL, tM, hZL, hTL, hZM, hTM, hZX⟩ := id C0
  have hp := hw
  unfold wp_X9_orchard at hp
  refine lv_aload_n hx hb eX9_orchard_0.1 rfl (lv_at hl 0 rfl) ?_
  refine va_get (D := (dC, dI)) (ci := 9) (v := .ref xG) (C := RX9) (T := TX9) (N := 9) hx hb hts i_X9 hown hK hP 0 rfl rfl 0 (Nat.le_of_ble_eq_true rfl) (hts _ q_3) (fun _ h9 => h9) rfl eX9_orchard_0.2.1 ?_
  refine lv_bipush (v := 76) hx hb eX9_orchard_0.2.2.1 bp_76 ?_
  have hm := mgk (wc := (wd_X8_open cI cC cZ cB cJ xG uT qI qJ rY)) hP mk_10 12 rfl rfl rfl
  refine g_callv hP hD hS hA (mixT mk_10) (mixF mk_10) hm.1 hm.2 (nd_F _) (dis_g _) (g_runV (As := [.int 76]) (rest := []) C0 hP hD hS (mixT mk_10) hm.1 (nd_T _) 1 8 rfl rfl (c_X8_open l dC dI cI cC cZ cB cJ xG uT H.size 76 qI qJ rY _ hp) q_69 q_72 q_70 q_71 q_5 h_X8_open rfl rfl ⟨Nat.le_of_ble_eq_true rfl, Nat.le_of_ble_eq_true rfl⟩ rfl rfl hl.1 rfl (lv_room (Nat.le_of_ble_eq_true rfl)) eX9_orchard_0.2.2.2.1 ⟨Nat.zero_le _, Nat.zero_le _⟩) (fun u H locs hp hP hD hS => ?_)
  obtain ⟨aAz, zT⟩ := u
  have hPD := PDm (ws' := (wd_X9_orchard cI cC cZ cB cJ a_x xG xD wY wJ wQ xI xK xJ tW uT tX jE mX pD oO oQ eG vX uO vQ qI aAz zT qM bZ bD bI aI wD gF pE qA nJ nY oE uF tJ)) hP hD 12 rfl rfl rfl
  have hP := hPD.1
  have hD := hPD.2
  refine lv_aload_n hx hb eX9_orchard_0.2.2.2.2.1 rfl (lv_at hl 0 rfl) ?_
  refine va_get (D := (dC, dI)) (ci := 9) (v := .ref xG) (C := RX9) (T := TX9) (N := 9) hx hb hts i_X9 hown hK hP 0 rfl rfl 0 (Nat.le_of_ble_eq_true rfl) (hts _ q_3) (fun _ h9 => h9) rfl eX9_orchard_0.2.2.2.2.2.1 ?_
  refine va_get (D := (dC, dI)) (ci := 8) (v := .int qI) (C := RX8) (T := TX8) (N := 4) hx hb hts i_X8 hown hK hP 1 rfl rfl 1 (Nat.le_of_ble_eq_true rfl) (hts _ q_73) (fun _ h9 => h9) rfl eX9_orchard_0.2.2.2.2.2.2.1 ?_
  refine lv_if_ne (tgt := 23) hx hb eX9_orchard_0.2.2.2.2.2.2.2.1 (by decide) (fun hc => ?_) (fun hc => ?_)
  · have hp := hp.1 hc
    refine lv_aload_n hx hb eX9_orchard_0.2.2.2.2.2.2.2.2.2.2.1 rfl (lv_at hl 0 rfl) ?_
    refine va_get (D := (dC, dI)) (ci := 9) (v := .ref wJ) (C := RX9) (T := TX9) (N := 9) hx hb hts i_X9 hown hK hP 0 rfl rfl 3 (Nat.le_of_ble_eq_true rfl) (hts _ q_74) (fun _ h9 => h9) rfl eX9_orchard_0.2.2.2.2.2.2.2.2.2.2.2.1 ?_
    refine lv_aload_n hx hb eX9_orchard_0.2.2.2.2.2.2.2.2.2.2.2.2.1 rfl (lv_at hl 0 rfl) ?_
    refine va_get (D := (dC, dI)) (ci := 9) (v := .ref xG) (C := RX9) (T := TX9) (N := 9) hx hb hts i_X9 hown hK hP 0 rfl rfl 0 (Nat.le_of_ble_eq_true rfl) (hts _ q_3) (fun _ h9 => h9) rfl eX9_orchard_0.2.2.2.2.2.2.2.2.2.2.2.2.2.1 ?_
    have hm := mgk (wc := (wd_X3_readLines cI cC cZ cB cJ xG uT wJ tX jE mX pD oO oQ eG qI aAz zT qM bZ bD bI aI wD gF pE qA nJ nY)) hP mk_13 12 rfl rfl rfl
    refine g_calli hP hD hS hA (mixT mk_13) (mixF mk_13) hm.1 hm.2 (nd_F _) (dis_g _) (g_runV (As := [.ref xG]) (rest := []) C0 hP hD hS (mixT mk_13) hm.1 (nd_T _) 3 3 rfl rfl (c_X3_readLines l dC dI cI cC cZ cB cJ xG uT wJ tX jE mX pD oO oQ eG H.size qI aAz zT qM bZ bD bI aI wD gF pE qA nJ nY _ hp) q_75 q_78 q_76 q_77 q_48 h_X3_readLines rfl rfl ⟨Nat.le_of_ble_eq_true rfl, Nat.le_of_ble_eq_true rfl⟩ rfl rfl hl.1 rfl (lv_room (Nat.le_of_ble_eq_true rfl)) eX9_orchard_0.2.2.2.2.2.2.2.2.2.2.2.2.2.2.1 ⟨Nat.zero_le _, Nat.zero_le _⟩) (fun r_3 u H locs hp hP hD hS => ?_)
    obtain ⟨xU, aHJ, aAE, tr_x_7, tr_height_8, tr_worth_9, tr_ripe_10, tr_foot_11, tr_fork_12⟩ := u
    have hPD := PDm (ws' := (wd_X9_orchard cI cC cZ cB cJ a_x xG xD wY wJ wQ xI xK xJ tW uT tX jE mX pD oO oQ eG vX uO vQ qI xU zT qM bZ bD aHJ aAE tr_x_7 tr_height_8 tr_worth_9 tr_ripe_10 tr_foot_11 tr_fork_12 oE uF tJ)) hP hD 12 rfl rfl rfl
    have hP := hPD.1
    have hD := hPD.2
    exact ks_X9_orchard_34 C0 r_3 qI xU zT bZ bD aHJ aAE tr_x_7 tr_height_8 tr_worth_9 tr_ripe_10 tr_foot_11 tr_fork_12 oE tJ H locs ls hp hP hD hS (lv_sub hl [0] rfl)
  · have hp := hp.2 hc
    refine lv_iconst (v := 0) hx hb eX9_orchard_0.2.2.2.2.2.2.2.2.1 ic_0 ?_
    refine lv_goto (tgt := 34) hx hb eX9_orchard_0.2.2.2.2.2.2.2.2.2.1 (by decide) ?_
    exact ks_X9_orchard_34 C0 0 qI aAz zT bZ bD bI aI wD gF pE qA nJ nY oE tJ H locs ls hp hP hD hS (lv_sub hl [0] rfl)
noncomputable abbrev wd_X7_drop (cI cC cZ cB cJ : ClassId) (xH uS sW uR qY sY : Nat) (pG qB sH uP pQ mW : Int32) : va_W := [(xH, .inr (7, [.ref uS, .ref sW, .ref uR, .ref qY, .ref sY, .int pG, .int qB, .int sH, .int uP, .int pQ, .int mW]))]
noncomputable abbrev q_X7_drop (dC : Nat → ClassId) (dI : Nat → Nat → Nat) (cI cC cZ cB cJ : ClassId) (A : Nat → Prop) (xH uS sW uR qY sY : Nat) (qB sH uP pQ mW : Int32) (post : Int32 → Prop) : Array Value → State → Outcome → State → Prop := va_Qv (fun (u : Int32) => post u) (fun u t => gB (dC, dI) (tyl cI cC cZ cB cJ) A (wd_X7_drop cI cC cZ cB cJ xH uS sW uR qY sY u qB sH uP pQ mW) t) A
noncomputable abbrev rm_X7_drop : Room := { frames := 0, cells := 0, slots := 0, locals := 0 }
noncomputable def wp_X7_drop (post : Int32 → Prop) (pG : Int32) : Prop := post 0
set_option maxHeartbeats 4000000 in
set_option maxRecDepth 100000 in
theorem c_X7_drop (l : Launch) (dC : Nat → ClassId) (dI : Nat → Nat → Nat) (cI cC cZ cB cJ : ClassId) (xH uS sW uR qY sY sz : Nat) (pG qB sH uP pQ mW : Int32) (post : Int32 → Prop) (hw : wp_X7_drop post pG) : Met l yX7_drop (gw yX7_drop cX7_drop 1 none) rm_X7_drop (va_Pc [.ref xH] (gPre (dC, dI) (tyl cI cC cZ cB cJ) (wd_X7_drop cI cC cZ cB cJ xH uS sW uR qY sY pG qB sH uP pQ mW) sz)) (q_X7_drop dC dI cI cC cZ cB cJ (va_A (wd_X7_drop cI cC cZ cB cJ xH uS sW uR qY sY pG qB sH uP pQ mW) sz) xH uS sW uR qY sY qB sH uP pQ mW post) 0 0 (va_A (wd_X7_drop cI cC cZ cB cJ xH uS sW uR qY sY pG qB sH uP pQ mW) sz) := by
  refine g_enter (own := RX7) (dC, dI) (tyl cI cC cZ cB cJ) (wd_X7_drop cI cC cZ cB cJ xH uS sW uR qY sY pG qB sH uP pQ mW) sz [.ref xH] (fun A => q_X7_drop dC dI cI cC cZ cB cJ A xH uS sW uR qY sY qB sH uP pQ mW post) pn_RX7 rfl (Nat.le_of_ble_eq_true rfl) ?_
  intro p e s m args below meth c A H locs ls C0 hP hD hS hl
  have hl : lv_has ls 1 [(0, .ref xH)] := hl
  obtain ⟨hx, hb, hr, hml, hown, hts, hlocks, hA, hK, hN, tL, tM, hZL, hTL, hZM, hTM, hZX⟩ := id C0
  have hp := hw
  unfold wp_X7_drop at hp
  refine lv_aload_n hx hb eX7_drop_0.1 rfl (lv_at hl 0 rfl) ?_
  refine lv_iconst (v := 0) hx hb eX7_drop_0.2.1 ic_0 ?_
  refine va_put (D := (dC, dI)) (ci := 7) (v := .int 0) (ty := .int) (C := RX7) (T := TX7) (N := 11) hx hb hts i_X7 tyX7 tyX7_ok nmX7 hown hK hP hD hS 0 rfl rfl 5 (Nat.le_of_ble_eq_true rfl) (hts _ q_101) (fun _ h9 => h9) rfl (tyX7_ok 5 (Nat.le_of_ble_eq_true rfl)) rfl rfl (Nat.le_of_ble_eq_true rfl) eX7_drop_0.2.2.1 (fun H locs hP hD hS => ?_)
  have hP : va_P (dC, dI) classes (wd_X7_drop cI cC cZ cB cJ xH uS sW uR qY sY 0 qB sH uP pQ mW) H := hP
  have hD : va_D A (wd_X7_drop cI cC cZ cB cJ xH uS sW uR qY sY 0 qB sH uP pQ mW) := hD
  exact W.vret hx hb hr (fun t ht hW => ⟨⟨0, rfl, hp, by rw [ht]; exact hP, va_K.moved hW.alike hK, hD⟩, hS.F ht⟩) hS.2.2 eX7_drop_0.2.2.2
noncomputable abbrev wd_X7_hold (cI cC cZ cB cJ : ClassId) (xH uS sW uR qY sY : Nat) (pG qB sH uP pQ mW : Int32) (sJ : Nat → Int32) : va_W := [(xH, .inr (7, [.ref uS, .ref sW, .ref uR, .ref qY, .ref sY, .int pG, .int qB, .int sH, .int uP, .int pQ, .int mW])), (sW, .inl (cI, 40, .inl sJ))]
noncomputable abbrev q_X7_hold (dC : Nat → ClassId) (dI : Nat → Nat → Nat) (cI cC cZ cB cJ : ClassId) (A : Nat → Prop) (xH uS sW uR qY sY : Nat) (pG qB uP pQ mW : Int32) (post : Int32 → (Nat → Int32) → Prop) : Array Value → State → Outcome → State → Prop := va_Qv (fun (u : Int32 × (Nat → Int32)) => post u.1 u.2) (fun u t => gB (dC, dI) (tyl cI cC cZ cB cJ) A (wd_X7_hold cI cC cZ cB cJ xH uS sW uR qY sY pG qB u.1 uP pQ mW u.2) t) A
noncomputable abbrev rm_X7_hold : Room := { frames := 0, cells := 0, slots := 0, locals := 0 }
noncomputable def wp_X7_hold (post : Int32 → (Nat → Int32) → Prop) (p0 sH : Int32) (sJ : Nat → Int32) : Prop := (40 ≤ sH → post sH sJ) ∧ (¬ 40 ≤ sH → vp_in sH 40 ∧ (∀ v_1 : Int32, v_1 = sH + 1 → post v_1 (upd sJ sH.toNatClampNeg p0)))
set_option maxHeartbeats 4000000 in
set_option maxRecDepth 100000 in
theorem c_X7_hold (l : Launch) (dC : Nat → ClassId) (dI : Nat → Nat → Nat) (cI cC cZ cB cJ : ClassId) (xH uS sW uR qY sY sz : Nat) (p0 pG qB sH uP pQ mW : Int32) (sJ : Nat → Int32) (post : Int32 → (Nat → Int32) → Prop) (hw : wp_X7_hold post p0 sH sJ) : Met l yX7_hold (gw yX7_hold cX7_hold 2 none) rm_X7_hold (va_Pc [.ref xH, .int p0] (gPre (dC, dI) (tyl cI cC cZ cB cJ) (wd_X7_hold cI cC cZ cB cJ xH uS sW uR qY sY pG qB sH uP pQ mW sJ) sz)) (q_X7_hold dC dI cI cC cZ cB cJ (va_A (wd_X7_hold cI cC cZ cB cJ xH uS sW uR qY sY pG qB sH uP pQ mW sJ) sz) xH uS sW uR qY sY pG qB uP pQ mW post) 0 0 (va_A (wd_X7_hold cI cC cZ cB cJ xH uS sW uR qY sY pG qB sH uP pQ mW sJ) sz) := by
  refine g_enter (own := RX7) (dC, dI) (tyl cI cC cZ cB cJ) (wd_X7_hold cI cC cZ cB cJ xH uS sW uR qY sY pG qB sH uP pQ mW sJ) sz [.ref xH, .int p0] (fun A => q_X7_hold dC dI cI cC cZ cB cJ A xH uS sW uR qY sY pG qB uP pQ mW post) pn_RX7 rfl (Nat.le_of_ble_eq_true rfl) ?_
  intro p e s m args below meth c A H locs ls C0 hP hD hS hl
  have hl : lv_has ls 2 [(0, .ref xH), (1, .int p0)] := hl
  obtain ⟨hx, hb, hr, hml, hown, hts, hlocks, hA, hK, hN, tL, tM, hZL, hTL, hZM, hTM, hZX⟩ := id C0
  have hp := hw
  unfold wp_X7_hold at hp
  refine lv_aload_n hx hb eX7_hold_0.1 rfl (lv_at hl 0 rfl) ?_
  refine va_get (D := (dC, dI)) (ci := 7) (v := .int sH) (C := RX7) (T := TX7) (N := 11) hx hb hts i_X7 hown hK hP 0 rfl rfl 7 (Nat.le_of_ble_eq_true rfl) (hts _ q_102) (fun _ h9 => h9) rfl eX7_hold_0.2.1 ?_
  refine lv_aload_n hx hb eX7_hold_0.2.2.1 rfl (lv_at hl 0 rfl) ?_
  refine va_get (D := (dC, dI)) (ci := 7) (v := .ref sW) (C := RX7) (T := TX7) (N := 11) hx hb hts i_X7 hown hK hP 0 rfl rfl 1 (Nat.le_of_ble_eq_true rfl) (hts _ q_103) (fun _ h9 => h9) rfl eX7_hold_0.2.2.2.1 ?_
  refine va_alen (v := 40) hx hb hK hP 1 0 rfl rfl rfl eX7_hold_0.2.2.2.2.1 ?_
  refine lv_icmp_ge (tgt := 32) hx hb eX7_hold_0.2.2.2.2.2.1 (by decide) (fun hc => ?_) (fun hc => ?_)
  · have hp := hp.1 hc
    exact W.vret hx hb hr (fun t ht hW => ⟨⟨(sH, sJ), rfl, hp, by rw [ht]; exact hP, va_K.moved hW.alike hK, hD⟩, hS.F ht⟩) hS.2.2 eX7_hold_28.2.2
  · have hp := hp.2 hc
    refine lv_aload_n hx hb eX7_hold_0.2.2.2.2.2.2.1 rfl (lv_at hl 0 rfl) ?_
    refine va_get (D := (dC, dI)) (ci := 7) (v := .ref sW) (C := RX7) (T := TX7) (N := 11) hx hb hts i_X7 hown hK hP 0 rfl rfl 1 (Nat.le_of_ble_eq_true rfl) (hts _ q_103) (fun _ h9 => h9) rfl eX7_hold_0.2.2.2.2.2.2.2.1 ?_
    refine lv_aload_n hx hb eX7_hold_0.2.2.2.2.2.2.2.2.1 rfl (lv_at hl 0 rfl) ?_
    refine va_get (D := (dC, dI)) (ci := 7) (v := .int sH) (C := RX7) (T := TX7) (N := 11) hx hb hts i_X7 hown hK hP 0 rfl rfl 7 (Nat.le_of_ble_eq_true rfl) (hts _ q_102) (fun _ h9 => h9) rfl eX7_hold_0.2.2.2.2.2.2.2.2.2.1 ?_
    refine lv_iload_n hx hb eX7_hold_0.2.2.2.2.2.2.2.2.2.2.1 rfl (lv_at hl 1 rfl) ?_
    have hin := hp.1
    have hp := hp.2
    refine va_iast hx hb hK hP hD hS 1 0 rfl rfl hin eX7_hold_0.2.2.2.2.2.2.2.2.2.2.2.1 (fun H locs hP hD hS => ?_)
    have hP : va_P (dC, dI) classes (wd_X7_hold cI cC cZ cB cJ xH uS sW uR qY sY pG qB sH uP pQ mW (upd sJ sH.toNatClampNeg p0)) H := hP
    have hD : va_D A (wd_X7_hold cI cC cZ cB cJ xH uS sW uR qY sY pG qB sH uP pQ mW (upd sJ sH.toNatClampNeg p0)) := hD
    refine lv_aload_n hx hb eX7_hold_0.2.2.2.2.2.2.2.2.2.2.2.2.1 rfl (lv_at hl 0 rfl) ?_
    refine lv_dup hx hb eX7_hold_0.2.2.2.2.2.2.2.2.2.2.2.2.2.1 rfl ?_
    refine va_get (D := (dC, dI)) (ci := 7) (v := .int sH) (C := RX7) (T := TX7) (N := 11) hx hb hts i_X7 hown hK hP 0 rfl rfl 7 (Nat.le_of_ble_eq_true rfl) (hts _ q_102) (fun _ h9 => h9) rfl eX7_hold_0.2.2.2.2.2.2.2.2.2.2.2.2.2.2.1 ?_
    refine lv_iconst (v := 1) hx hb eX7_hold_0.2.2.2.2.2.2.2.2.2.2.2.2.2.2.2 ic_1 ?_
    refine lv_iadd hx hb eX7_hold_28.1 ?_
    refine lv_topi (fun v_1 ev_1 => ?_)
    have hp := hp v_1 ev_1
    refine va_put (D := (dC, dI)) (ci := 7) (v := .int v_1) (ty := .int) (C := RX7) (T := TX7) (N := 11) hx hb hts i_X7 tyX7 tyX7_ok nmX7 hown hK hP hD hS 0 rfl rfl 7 (Nat.le_of_ble_eq_true rfl) (hts _ q_102) (fun _ h9 => h9) rfl (tyX7_ok 7 (Nat.le_of_ble_eq_true rfl)) rfl rfl (Nat.le_of_ble_eq_true rfl) eX7_hold_28.2.1 (fun H locs hP hD hS => ?_)
    have hP : va_P (dC, dI) classes (wd_X7_hold cI cC cZ cB cJ xH uS sW uR qY sY pG qB v_1 uP pQ mW (upd sJ sH.toNatClampNeg p0)) H := hP
    have hD : va_D A (wd_X7_hold cI cC cZ cB cJ xH uS sW uR qY sY pG qB v_1 uP pQ mW (upd sJ sH.toNatClampNeg p0)) := hD
    exact W.vret hx hb hr (fun t ht hW => ⟨⟨(v_1, (upd sJ sH.toNatClampNeg p0)), rfl, hp, by rw [ht]; exact hP, va_K.moved hW.alike hK, hD⟩, hS.F ht⟩) hS.2.2 eX7_hold_28.2.2
noncomputable abbrev wd_X7_emit (cI cC cZ cB cJ : ClassId) (xH uS sW uR qY sY : Nat) (pG qB sH uP pQ mW : Int32) (uU : Nat → Int32) : va_W := [(xH, .inr (7, [.ref uS, .ref sW, .ref uR, .ref qY, .ref sY, .int pG, .int qB, .int sH, .int uP, .int pQ, .int mW])), (sY, .inl (cI, 40, .inl uU))]
noncomputable abbrev q_X7_emit (dC : Nat → ClassId) (dI : Nat → Nat → Nat) (cI cC cZ cB cJ : ClassId) (A : Nat → Prop) (xH uS sW uR qY sY : Nat) (pG sH uP pQ mW : Int32) (post : Int32 → (Nat → Int32) → Prop) : Array Value → State → Outcome → State → Prop := va_Qv (fun (u : Int32 × (Nat → Int32)) => post u.1 u.2) (fun u t => gB (dC, dI) (tyl cI cC cZ cB cJ) A (wd_X7_emit cI cC cZ cB cJ xH uS sW uR qY sY pG u.1 sH uP pQ mW u.2) t) A
noncomputable abbrev rm_X7_emit : Room := { frames := 0, cells := 0, slots := 0, locals := 0 }
noncomputable def wp_X7_emit (post : Int32 → (Nat → Int32) → Prop) (p0 qB : Int32) (uU : Nat → Int32) : Prop := (40 ≤ qB → post qB uU) ∧ (¬ 40 ≤ qB → vp_in qB 40 ∧ (∀ v_1 : Int32, v_1 = qB + 1 → post v_1 (upd uU qB.toNatClampNeg p0)))
set_option maxHeartbeats 4000000 in
set_option maxRecDepth 100000 in
theorem c_X7_emit (l : Launch) (dC : Nat → ClassId) (dI : Nat → Nat → Nat) (cI cC cZ cB cJ : ClassId) (xH uS sW uR qY sY sz : Nat) (p0 pG qB sH uP pQ mW : Int32) (uU : Nat → Int32) (post : Int32 → (Nat → Int32) → Prop) (hw : wp_X7_emit post p0 qB uU) : Met l yX7_emit (gw yX7_emit cX7_emit 2 none) rm_X7_emit (va_Pc [.ref xH, .int p0] (gPre (dC, dI) (tyl cI cC cZ cB cJ) (wd_X7_emit cI cC cZ cB cJ xH uS sW uR qY sY pG qB sH uP pQ mW uU) sz)) (q_X7_emit dC dI cI cC cZ cB cJ (va_A (wd_X7_emit cI cC cZ cB cJ xH uS sW uR qY sY pG qB sH uP pQ mW uU) sz) xH uS sW uR qY sY pG sH uP pQ mW post) 0 0 (va_A (wd_X7_emit cI cC cZ cB cJ xH uS sW uR qY sY pG qB sH uP pQ mW uU) sz) := by
  refine g_enter (own := RX7) (dC, dI) (tyl cI cC cZ cB cJ) (wd_X7_emit cI cC cZ cB cJ xH uS sW uR qY sY pG qB sH uP pQ mW uU) sz [.ref xH, .int p0] (fun A => q_X7_emit dC dI cI cC cZ cB cJ A xH uS sW uR qY sY pG sH uP pQ mW post) pn_RX7 rfl (Nat.le_of_ble_eq_true rfl) ?_
  intro p e s m args below meth c A H locs ls C0 hP hD hS hl
  have hl : lv_has ls 2 [(0, .ref xH), (1, .int p0)] := hl
  obtain ⟨hx, hb, hr, hml, hown, hts, hlocks, hA, hK, hN, tL, tM, hZL, hTL, hZM, hTM, hZX⟩ := id C0
  have hp := hw
  unfold wp_X7_emit at hp
  refine lv_aload_n hx hb eX7_emit_0.1 rfl (lv_at hl 0 rfl) ?_
  refine va_get (D := (dC, dI)) (ci := 7) (v := .int qB) (C := RX7) (T := TX7) (N := 11) hx hb hts i_X7 hown hK hP 0 rfl rfl 6 (Nat.le_of_ble_eq_true rfl) (hts _ q_104) (fun _ h9 => h9) rfl eX7_emit_0.2.1 ?_
  refine lv_aload_n hx hb eX7_emit_0.2.2.1 rfl (lv_at hl 0 rfl) ?_
  refine va_get (D := (dC, dI)) (ci := 7) (v := .ref sY) (C := RX7) (T := TX7) (N := 11) hx hb hts i_X7 hown hK hP 0 rfl rfl 4 (Nat.le_of_ble_eq_true rfl) (hts _ q_105) (fun _ h9 => h9) rfl eX7_emit_0.2.2.2.1 ?_
  refine va_alen (v := 40) hx hb hK hP 1 0 rfl rfl rfl eX7_emit_0.2.2.2.2.1 ?_
  refine lv_icmp_ge (tgt := 32) hx hb eX7_emit_0.2.2.2.2.2.1 (by decide) (fun hc => ?_) (fun hc => ?_)
  · have hp := hp.1 hc
    exact W.vret hx hb hr (fun t ht hW => ⟨⟨(qB, uU), rfl, hp, by rw [ht]; exact hP, va_K.moved hW.alike hK, hD⟩, hS.F ht⟩) hS.2.2 eX7_emit_28.2.2
  · have hp := hp.2 hc
    refine lv_aload_n hx hb eX7_emit_0.2.2.2.2.2.2.1 rfl (lv_at hl 0 rfl) ?_
    refine va_get (D := (dC, dI)) (ci := 7) (v := .ref sY) (C := RX7) (T := TX7) (N := 11) hx hb hts i_X7 hown hK hP 0 rfl rfl 4 (Nat.le_of_ble_eq_true rfl) (hts _ q_105) (fun _ h9 => h9) rfl eX7_emit_0.2.2.2.2.2.2.2.1 ?_
    refine lv_aload_n hx hb eX7_emit_0.2.2.2.2.2.2.2.2.1 rfl (lv_at hl 0 rfl) ?_
    refine va_get (D := (dC, dI)) (ci := 7) (v := .int qB) (C := RX7) (T := TX7) (N := 11) hx hb hts i_X7 hown hK hP 0 rfl rfl 6 (Nat.le_of_ble_eq_true rfl) (hts _ q_104) (fun _ h9 => h9) rfl eX7_emit_0.2.2.2.2.2.2.2.2.2.1 ?_
    refine lv_iload_n hx hb eX7_emit_0.2.2.2.2.2.2.2.2.2.2.1 rfl (lv_at hl 1 rfl) ?_
    have hin := hp.1
    have hp := hp.2
    refine va_iast hx hb hK hP hD hS 1 0 rfl rfl hin eX7_emit_0.2.2.2.2.2.2.2.2.2.2.2.1 (fun H locs hP hD hS => ?_)
    have hP : va_P (dC, dI) classes (wd_X7_emit cI cC cZ cB cJ xH uS sW uR qY sY pG qB sH uP pQ mW (upd uU qB.toNatClampNeg p0)) H := hP
    have hD : va_D A (wd_X7_emit cI cC cZ cB cJ xH uS sW uR qY sY pG qB sH uP pQ mW (upd uU qB.toNatClampNeg p0)) := hD
    refine lv_aload_n hx hb eX7_emit_0.2.2.2.2.2.2.2.2.2.2.2.2.1 rfl (lv_at hl 0 rfl) ?_
    refine lv_dup hx hb eX7_emit_0.2.2.2.2.2.2.2.2.2.2.2.2.2.1 rfl ?_
    refine va_get (D := (dC, dI)) (ci := 7) (v := .int qB) (C := RX7) (T := TX7) (N := 11) hx hb hts i_X7 hown hK hP 0 rfl rfl 6 (Nat.le_of_ble_eq_true rfl) (hts _ q_104) (fun _ h9 => h9) rfl eX7_emit_0.2.2.2.2.2.2.2.2.2.2.2.2.2.2.1 ?_
    refine lv_iconst (v := 1) hx hb eX7_emit_0.2.2.2.2.2.2.2.2.2.2.2.2.2.2.2 ic_1 ?_
    refine lv_iadd hx hb eX7_emit_28.1 ?_
    refine lv_topi (fun v_1 ev_1 => ?_)
    have hp := hp v_1 ev_1
    refine va_put (D := (dC, dI)) (ci := 7) (v := .int v_1) (ty := .int) (C := RX7) (T := TX7) (N := 11) hx hb hts i_X7 tyX7 tyX7_ok nmX7 hown hK hP hD hS 0 rfl rfl 6 (Nat.le_of_ble_eq_true rfl) (hts _ q_104) (fun _ h9 => h9) rfl (tyX7_ok 6 (Nat.le_of_ble_eq_true rfl)) rfl rfl (Nat.le_of_ble_eq_true rfl) eX7_emit_28.2.1 (fun H locs hP hD hS => ?_)
    have hP : va_P (dC, dI) classes (wd_X7_emit cI cC cZ cB cJ xH uS sW uR qY sY pG v_1 sH uP pQ mW (upd uU qB.toNatClampNeg p0)) H := hP
    have hD : va_D A (wd_X7_emit cI cC cZ cB cJ xH uS sW uR qY sY pG v_1 sH uP pQ mW (upd uU qB.toNatClampNeg p0)) := hD
    exact W.vret hx hb hr (fun t ht hW => ⟨⟨(v_1, (upd uU qB.toNatClampNeg p0)), rfl, hp, by rw [ht]; exact hP, va_K.moved hW.alike hK, hD⟩, hS.F ht⟩) hS.2.2 eX7_emit_28.2.2
noncomputable abbrev wd_X7_readPlainThing (cI cC cZ cB cJ : ClassId) (xG uT xH uS sW uR qY sY : Nat) (qI qJ rY : Int32) (qM : Nat → Int32) (pG qB sH uP pQ mW : Int32) (uU : Nat → Int32) : va_W := [(xG, .inr (8, [.ref uT, .int qI, .int qJ, .int rY])), (uT, .inl (cC, 80, .inl qM)), (xH, .inr (7, [.ref uS, .ref sW, .ref uR, .ref qY, .ref sY, .int pG, .int qB, .int sH, .int uP, .int pQ, .int mW])), (sY, .inl (cI, 40, .inl uU))]
noncomputable abbrev q_X7_readPlainThing (dC : Nat → ClassId) (dI : Nat → Nat → Nat) (cI cC cZ cB cJ : ClassId) (A : Nat → Prop) (xG uT xH uS sW uR qY sY : Nat) (qI rY : Int32) (qM : Nat → Int32) (pG sH uP pQ : Int32) (post : Int32 → Int32 → Int32 → Int32 → (Nat → Int32) → Prop) : Array Value → State → Outcome → State → Prop := va_Qi (fun (r : Int32) (u : Int32 × Int32 × Int32 × (Nat → Int32)) => post r u.1 u.2.1 u.2.2.1 u.2.2.2) (fun u t => gB (dC, dI) (tyl cI cC cZ cB cJ) A (wd_X7_readPlainThing cI cC cZ cB cJ xG uT xH uS sW uR qY sY qI u.1 rY qM pG u.2.1 sH uP pQ u.2.2.1 u.2.2.2) t) A
noncomputable abbrev rm_X7_readPlainThing : Room := { frames := 4, cells := 0, slots := 0, locals := 111 }
section S_X7_readPlainThing
variable {p : Program} {l : Launch} {e : Env} {s : State} {m : MethodId} {args : Array Value} {below : List Frame} {meth : Method} {c : Code} {dC : Nat → ClassId} {dI : Nat → Nat → Nat} {cI cC cZ cB cJ : ClassId} {A : Nat → Prop} {xG uT xH uS sW uR qY sY : Nat} {qI rY : Int32} {qM : Nat → Int32} {pG sH uP pQ : Int32} {post : Int32 → Int32 → Int32 → Int32 → (Nat → Int32) → Prop}
noncomputable def ws_X7_readPlainThing_38 (post : Int32 → Int32 → Int32 → Int32 → (Nat → Int32) → Prop) (rY : Int32) (qM : Nat → Int32) (x2 qJ qB mW : Int32) (uU : Nat → Int32) : Prop := wp_X7_emit (fun aAK aBh => post 1 qJ aAK 0 aBh) x2 qB uU
set_option maxHeartbeats 4000000 in
set_option maxRecDepth 100000 in
theorem ks_X7_readPlainThing_38 (C0 : gc cX7_readPlainThing (some .boolean) 4 RX7 (dC, dI) (tyl cI cC cZ cB cJ) A p s m args meth c) : ∀ (x2 qJ qB mW : Int32) (uU : Nat → Int32) (H : Heap) (locs : List Loc) (ls : Array Slot), (ws_X7_readPlainThing_38 post rY qM) x2 qJ qB mW uU → va_P (dC, dI) classes (wd_X7_readPlainThing cI cC cZ cB cJ xG uT xH uS sW uR qY sY qI qJ rY qM pG qB sH uP pQ mW uU) H → va_D A (wd_X7_readPlainThing cI cC cZ cB cJ xG uT xH uS sW uR qY sY qI qJ rY qM pG qB sH uP pQ mW uU) → va_S A s.heap H locs → lv_has ls 4 [(0, .ref xH), (2, .int x2)] → W p l e rm_X7_readPlainThing s m args below meth c H locs 0 0 (MQ below (q_X7_readPlainThing dC dI cI cC cZ cB cJ A xG uT xH uS sW uR qY sY qI rY qM pG sH uP pQ post) args s 0 0 A) (F0 m 38 ls []) := by
  obtain ⟨hx, hb, hr, hml, hown, hts, hlocks, hA, hK, hN, tL, tM, hZL, hTL, hZM, hTM, hZX⟩ := id C0
  intro x2 qJ qB mW uU H locs ls hp hP hD hS hl
  unfold ws_X7_readPlainThing_38 at hp
  refine lv_aload_n hx hb eX7_readPlainThing_27.2.2.2.2.2.2.2.1 rfl (lv_at hl 0 rfl) ?_
  refine lv_iload_n hx hb eX7_readPlainThing_27.2.2.2.2.2.2.2.2.1 rfl (lv_at hl 1 rfl) ?_
  have hm := mgk (wc := (wd_X7_emit cI cC cZ cB cJ xH uS sW uR qY sY pG qB sH uP pQ mW uU)) hP mk_14 4 rfl rfl rfl
  refine g_callv hP hD hS hA (mixT mk_14) (mixF mk_14) hm.1 hm.2 (nd_F _) (dis_g _) (g_runV (As := [.int x2]) (rest := []) C0 hP hD hS (mixT mk_14) hm.1 (nd_T _) 2 7 rfl rfl (c_X7_emit l dC dI cI cC cZ cB cJ xH uS sW uR qY sY H.size x2 pG qB sH uP pQ mW uU _ hp) q_107 q_111 q_109 q_110 q_108 h_X7_emit rfl rfl ⟨Nat.le_of_ble_eq_true rfl, Nat.le_of_ble_eq_true rfl⟩ rfl rfl hl.1 rfl (lv_room (Nat.le_of_ble_eq_true rfl)) eX7_readPlainThing_27.2.2.2.2.2.2.2.2.2.1 ⟨Nat.zero_le _, Nat.zero_le _⟩) (fun u H locs hp hP hD hS => ?_)
  obtain ⟨aAK, aBh⟩ := u
  have hPD := PDm (ws' := (wd_X7_readPlainThing cI cC cZ cB cJ xG uT xH uS sW uR qY sY qI qJ rY qM pG aAK sH uP pQ mW aBh)) hP hD 4 rfl rfl rfl
  have hP := hPD.1
  have hD := hPD.2
  refine lv_aload_n hx hb eX7_readPlainThing_27.2.2.2.2.2.2.2.2.2.2.1 rfl (lv_at hl 0 rfl) ?_
  refine lv_iconst (v := 0) hx hb eX7_readPlainThing_27.2.2.2.2.2.2.2.2.2.2.2.1 ic_0 ?_
  refine va_put (D := (dC, dI)) (ci := 7) (v := .int 0) (ty := .boolean) (C := RX7) (T := TX7) (N := 11) hx hb hts i_X7 tyX7 tyX7_ok nmX7 hown hK hP hD hS 2 rfl rfl 10 (Nat.le_of_ble_eq_true rfl) (hts _ q_112) (fun _ h9 => h9) rfl (tyX7_ok 10 (Nat.le_of_ble_eq_true rfl)) rfl rfl (Nat.le_of_ble_eq_true rfl) eX7_readPlainThing_27.2.2.2.2.2.2.2.2.2.2.2.2.1 (fun H locs hP hD hS => ?_)
  have hP : va_P (dC, dI) classes (wd_X7_readPlainThing cI cC cZ cB cJ xG uT xH uS sW uR qY sY qI qJ rY qM pG aAK sH uP pQ 0 aBh) H := hP
  have hD : va_D A (wd_X7_readPlainThing cI cC cZ cB cJ xG uT xH uS sW uR qY sY qI qJ rY qM pG aAK sH uP pQ 0 aBh) := hD
  refine lv_iconst (v := 1) hx hb eX7_readPlainThing_27.2.2.2.2.2.2.2.2.2.2.2.2.2.1 ic_1 ?_
  exact W.zret (v := 1) hx hb hr rfl (fun t ht hW => ⟨⟨1, (qJ, aAK, 0, aBh), rfl, hp, by rw [ht]; exact hP, va_K.moved hW.alike hK, hD⟩, hS.F ht⟩) hS.2.2 eX7_readPlainThing_27.2.2.2.2.2.2.2.2.2.2.2.2.2.2
end S_X7_readPlainThing
noncomputable def wp_X7_readPlainThing (post : Int32 → Int32 → Int32 → Int32 → (Nat → Int32) → Prop) (qJ rY : Int32) (qM : Nat → Int32) (qB mW : Int32) (uU : Nat → Int32) : Prop := wp_X8_readNumber (fun r_1 xO => (¬ r_1 = (-1) → ws_X7_readPlainThing_38 post rY qM r_1 xO qB mW uU) ∧ (r_1 = (-1) → wp_X8_here (fun r_5 => ∀ v_6 : Int32, v_6 = (r_5.toUInt32 % 65536).toInt32 → ∀ v_7 : Int32, v_7 = lix v_6 → (0 ≤ v_7 → ∀ v_8 : Int32, v_8 = 1000 + v_7 → wp_X8_skip (fun aBg => ws_X7_readPlainThing_38 post rY qM v_8 aBg qB mW uU) xO rY) ∧ (¬ 0 ≤ v_7 → post 0 xO qB mW uU)) xO rY qM)) 3 qJ rY qM
set_option maxHeartbeats 4000000 in
set_option maxRecDepth 100000 in
theorem c_X7_readPlainThing (l : Launch) (dC : Nat → ClassId) (dI : Nat → Nat → Nat) (cI cC cZ cB cJ : ClassId) (xG uT xH uS sW uR qY sY sz : Nat) (qI qJ rY : Int32) (qM : Nat → Int32) (pG qB sH uP pQ mW : Int32) (uU : Nat → Int32) (post : Int32 → Int32 → Int32 → Int32 → (Nat → Int32) → Prop) (hw : wp_X7_readPlainThing post qJ rY qM qB mW uU) : Met l yX7_readPlainThing (gw yX7_readPlainThing cX7_readPlainThing 4 (some .boolean)) rm_X7_readPlainThing (va_Pc [.ref xH, .ref xG] (gPre (dC, dI) (tyl cI cC cZ cB cJ) (wd_X7_readPlainThing cI cC cZ cB cJ xG uT xH uS sW uR qY sY qI qJ rY qM pG qB sH uP pQ mW uU) sz)) (q_X7_readPlainThing dC dI cI cC cZ cB cJ (va_A (wd_X7_readPlainThing cI cC cZ cB cJ xG uT xH uS sW uR qY sY qI qJ rY qM pG qB sH uP pQ mW uU) sz) xG uT xH uS sW uR qY sY qI rY qM pG sH uP pQ post) 0 0 (va_A (wd_X7_readPlainThing cI cC cZ cB cJ xG uT xH uS sW uR qY sY qI qJ rY qM pG qB sH uP pQ mW uU) sz) := by
  refine g_enter (own := RX7) (dC, dI) (tyl cI cC cZ cB cJ) (wd_X7_readPlainThing cI cC cZ cB cJ xG uT xH uS sW uR qY sY qI qJ rY qM pG qB sH uP pQ mW uU) sz [.ref xH, .ref xG] (fun A => q_X7_readPlainThing dC dI cI cC cZ cB cJ A xG uT xH uS sW uR qY sY qI rY qM pG sH uP pQ post) pn_RX7 rfl (Nat.le_of_ble_eq_true rfl) ?_
  intro p e s m args below meth c A H locs ls C0 hP hD hS hl
  have hl : lv_has ls 4 [(0, .ref xH), (1, .ref xG)] := hl
  obtain ⟨hx, hb, hr, hml, hown, hts, hlocks, hA, hK, hN, tL, tM, hZL, hTL, hZM, hTM, hZX⟩ := id C0
  have hp := hw
  unfold wp_X7_readPlainThing at hp
  refine lv_aload_n hx hb eX7_readPlainThing_0.1 rfl (lv_at hl 1 rfl) ?_
  refine lv_iconst (v := 3) hx hb eX7_readPlainThing_0.2.1 ic_3 ?_
  have hm := mgk (wc := (wd_X8_readNumber cI cC cZ cB cJ xG uT qI qJ rY qM)) hP mk_1 4 rfl rfl rfl
  refine g_calli hP hD hS hA (mixT mk_1) (mixF mk_1) hm.1 hm.2 (nd_F _) (dis_g _) (g_runV (As := [.int 3]) (rest := []) C0 hP hD hS (mixT mk_1) hm.1 (nd_T _) 0 8 rfl rfl (c_X8_readNumber l dC dI cI cC cZ cB cJ xG uT H.size 3 qI qJ rY qM _ hp) q_37 q_106 q_38 q_39 q_5 h_X8_readNumber rfl rfl ⟨Nat.le_of_ble_eq_true rfl, Nat.le_of_ble_eq_true rfl⟩ rfl rfl hl.1 rfl (lv_room (Nat.le_of_ble_eq_true rfl)) eX7_readPlainThing_0.2.2.1 ⟨Nat.zero_le _, Nat.zero_le _⟩) (fun r_1 u H locs hp hP hD hS => ?_)
  obtain ⟨xO, rfl⟩ : ∃ z, z = u := ⟨_, rfl⟩
  have hPD := PDm (ws' := (wd_X7_readPlainThing cI cC cZ cB cJ xG uT xH uS sW uR qY sY qI xO rY qM pG qB sH uP pQ mW uU)) hP hD 4 rfl rfl rfl
  have hP := hPD.1
  have hD := hPD.2
  refine lv_istore_n (lv' := [(2, .int r_1), (0, .ref xH), (1, .ref xG)]) hx hb eX7_readPlainThing_0.2.2.2.1 rfl hl (by decide) rfl (fun ls hl => ?_)
  refine lv_iload_n hx hb eX7_readPlainThing_0.2.2.2.2.1 rfl (lv_at hl 0 rfl) ?_
  refine lv_iconst (v := (-1)) hx hb eX7_readPlainThing_0.2.2.2.2.2.1 ic_m1 ?_
  refine lv_icmp_ne (tgt := 38) hx hb eX7_readPlainThing_0.2.2.2.2.2.2.1 (by decide) (fun hc => ?_) (fun hc => ?_)
  · have hp := hp.1 hc
    exact ks_X7_readPlainThing_38 C0 r_1 xO qB mW uU H locs ls hp hP hD hS (lv_sub hl [1, 0] rfl)
  · have hp := hp.2 hc
    obtain ⟨-, -, -, tS, tV, gS1, gS2, -⟩ := id hZX
    refine va_ldcS hx hb hown gS1 eX7_readPlainThing_0.2.2.2.2.2.2.2.1 ?_
    refine lv_aload_n hx hb eX7_readPlainThing_0.2.2.2.2.2.2.2.2.1 rfl (lv_at hl 2 rfl) ?_
    have hm := mgk (wc := (wd_X8_here cI cC cZ cB cJ xG uT qI xO rY qM)) hP mk_1 4 rfl rfl rfl
    refine g_calli hP hD hS hA (mixT mk_1) (mixF mk_1) hm.1 hm.2 (nd_F _) (dis_g _) (g_runV (As := []) (rest := [.ref tS]) C0 hP hD hS (mixT mk_1) hm.1 (nd_T _) 0 8 rfl rfl (c_X8_here l dC dI cI cC cZ cB cJ xG uT H.size qI xO rY qM _ hp) q_33 q_113 q_34 q_35 q_5 h_X8_here rfl rfl ⟨Nat.le_of_ble_eq_true rfl, Nat.le_of_ble_eq_true rfl⟩ rfl rfl hl.1 rfl (lv_room (Nat.le_of_ble_eq_true rfl)) eX7_readPlainThing_0.2.2.2.2.2.2.2.2.2.1 ⟨Nat.zero_le _, Nat.zero_le _⟩) (fun r_5 u H locs hp hP hD hS => ?_)
    have hPD := PDm (ws' := (wd_X7_readPlainThing cI cC cZ cB cJ xG uT xH uS sW uR qY sY qI xO rY qM pG qB sH uP pQ mW uU)) hP hD 4 rfl rfl rfl
    have hP := hPD.1
    have hD := hPD.2
    refine lv_i2c hx hb eX7_readPlainThing_0.2.2.2.2.2.2.2.2.2.2.1 rfl ?_
    refine lv_topi (fun v_6 ev_6 => ?_)
    have hp := hp v_6 ev_6
    refine g_stridx (rest := []) (x := v_6) C0 hP hD hS gS1 gS2 q_114 hl.1 (lv_room (Nat.le_of_ble_eq_true rfl)) eX7_readPlainThing_0.2.2.2.2.2.2.2.2.2.2.2.1 (Nat.le_of_ble_eq_true rfl) (Nat.le_of_ble_eq_true rfl) (Nat.zero_le _) (Nat.zero_le _) (fun H locs hP hD hS => ?_)
    refine lv_topi (fun v_7 ev_7 => ?_)
    have hp := hp v_7 ev_7
    refine lv_istore_n (lv' := [(3, .int v_7), (2, .int r_1), (0, .ref xH), (1, .ref xG)]) hx hb eX7_readPlainThing_0.2.2.2.2.2.2.2.2.2.2.2.2.1 rfl hl (by decide) rfl (fun ls hl => ?_)
    refine lv_iload_n hx hb eX7_readPlainThing_0.2.2.2.2.2.2.2.2.2.2.2.2.2.1 rfl (lv_at hl 0 rfl) ?_
    refine lv_if_ge (tgt := 28) hx hb eX7_readPlainThing_0.2.2.2.2.2.2.2.2.2.2.2.2.2.2.1 (by decide) (fun hc => ?_) (fun hc => ?_)
    · have hp := hp.1 hc
      refine lv_sipush (v := 1000) hx hb eX7_readPlainThing_27.2.1 sp_1000 ?_
      refine lv_iload_n hx hb eX7_readPlainThing_27.2.2.1 rfl (lv_at hl 0 rfl) ?_
      refine lv_iadd hx hb eX7_readPlainThing_27.2.2.2.1 ?_
      refine lv_topi (fun v_8 ev_8 => ?_)
      have hp := hp v_8 ev_8
      refine lv_istore_n (lv' := [(2, .int v_8), (3, .int v_7), (0, .ref xH), (1, .ref xG)]) hx hb eX7_readPlainThing_27.2.2.2.2.1 rfl hl (by decide) rfl (fun ls hl => ?_)
      refine lv_aload_n hx hb eX7_readPlainThing_27.2.2.2.2.2.1 rfl (lv_at hl 3 rfl) ?_
      have hm := mgk (wc := (wd_X8_skip cI cC cZ cB cJ xG uT qI xO rY)) hP mk_15 4 rfl rfl rfl
      refine g_callv hP hD hS hA (mixT mk_15) (mixF mk_15) hm.1 hm.2 (nd_F _) (dis_g _) (g_runV (As := []) (rest := []) C0 hP hD hS (mixT mk_15) hm.1 (nd_T _) 0 8 rfl rfl (c_X8_skip l dC dI cI cC cZ cB cJ xG uT H.size qI xO rY _ hp) q_29 q_115 q_30 q_31 q_5 h_X8_skip rfl rfl ⟨Nat.le_of_ble_eq_true rfl, Nat.le_of_ble_eq_true rfl⟩ rfl rfl hl.1 rfl (lv_room (Nat.le_of_ble_eq_true rfl)) eX7_readPlainThing_27.2.2.2.2.2.2.1 ⟨Nat.zero_le _, Nat.zero_le _⟩) (fun u H locs hp hP hD hS => ?_)
      obtain ⟨aBg, rfl⟩ : ∃ z, z = u := ⟨_, rfl⟩
      have hPD := PDm (ws' := (wd_X7_readPlainThing cI cC cZ cB cJ xG uT xH uS sW uR qY sY qI aBg rY qM pG qB sH uP pQ mW uU)) hP hD 4 rfl rfl rfl
      have hP := hPD.1
      have hD := hPD.2
      exact ks_X7_readPlainThing_38 C0 v_8 aBg qB mW uU H locs ls hp hP hD hS (lv_sub hl [2, 0] rfl)
    · have hp := hp.2 hc
      refine lv_iconst (v := 0) hx hb eX7_readPlainThing_0.2.2.2.2.2.2.2.2.2.2.2.2.2.2.2 ic_0 ?_
      exact W.zret (v := 0) hx hb hr rfl (fun t ht hW => ⟨⟨0, (xO, qB, mW, uU), rfl, hp, by rw [ht]; exact hP, va_K.moved hW.alike hK, hD⟩, hS.F ht⟩) hS.2.2 eX7_readPlainThing_27.1
noncomputable abbrev wd_X7_readThing (cI cC cZ cB cJ : ClassId) (xG uT xH uS sW uR qY sY : Nat) (qI qJ rY : Int32) (qM : Nat → Int32) (pG qB sH uP pQ mW : Int32) (sJ uU : Nat → Int32) : va_W := [(xG, .inr (8, [.ref uT, .int qI, .int qJ, .int rY])), (uT, .inl (cC, 80, .inl qM)), (xH, .inr (7, [.ref uS, .ref sW, .ref uR, .ref qY, .ref sY, .int pG, .int qB, .int sH, .int uP, .int pQ, .int mW])), (sW, .inl (cI, 40, .inl sJ)), (sY, .inl (cI, 40, .inl uU))]
noncomputable abbrev q_X7_readThing (dC : Nat → ClassId) (dI : Nat → Nat → Nat) (cI cC cZ cB cJ : ClassId) (A : Nat → Prop) (xG uT xH uS sW uR qY sY : Nat) (qI rY : Int32) (qM : Nat → Int32) (pG : Int32) (post : Int32 → Int32 → Int32 → Int32 → Int32 → Int32 → Int32 → (Nat → Int32) → (Nat → Int32) → Prop) : Array Value → State → Outcome → State → Prop := va_Qi (fun (r : Int32) (u : Int32 × Int32 × Int32 × Int32 × Int32 × Int32 × (Nat → Int32) × (Nat → Int32)) => post r u.1 u.2.1 u.2.2.1 u.2.2.2.1 u.2.2.2.2.1 u.2.2.2.2.2.1 u.2.2.2.2.2.2.1 u.2.2.2.2.2.2.2) (fun u t => gB (dC, dI) (tyl cI cC cZ cB cJ) A (wd_X7_readThing cI cC cZ cB cJ xG uT xH uS sW uR qY sY qI u.1 rY qM pG u.2.1 u.2.2.1 u.2.2.2.1 u.2.2.2.2.1 u.2.2.2.2.2.1 u.2.2.2.2.2.2.1 u.2.2.2.2.2.2.2) t) A
noncomputable abbrev rm_X7_readThing : Room := { frames := 5, cells := 0, slots := 0, locals := 134 }
section S_X7_readThing
variable {p : Program} {l : Launch} {e : Env} {s : State} {m : MethodId} {args : Array Value} {below : List Frame} {meth : Method} {c : Code} {dC : Nat → ClassId} {dI : Nat → Nat → Nat} {cI cC cZ cB cJ : ClassId} {A : Nat → Prop} {xG uT xH uS sW uR qY sY : Nat} {qI rY : Int32} {qM : Nat → Int32} {pG : Int32} {post : Int32 → Int32 → Int32 → Int32 → Int32 → Int32 → Int32 → (Nat → Int32) → (Nat → Int32) → Prop}
noncomputable def ws_X7_readThing_78 (post : Int32 → Int32 → Int32 → Int32 → Int32 → Int32 → Int32 → (Nat → Int32) → (Nat → Int32) → Prop) (rY : Int32) (qM : Nat → Int32) (qJ qB sH uP pQ mW : Int32) (sJ uU : Nat → Int32) : Prop := wp_X8_skip (fun aB9 => post 1 aB9 qB sH uP pQ mW sJ uU) qJ rY
set_option maxHeartbeats 4000000 in
set_option maxRecDepth 100000 in
theorem ks_X7_readThing_78 (C0 : gc cX7_readThing (some .boolean) 3 RX7 (dC, dI) (tyl cI cC cZ cB cJ) A p s m args meth c) : ∀ (qJ qB sH uP pQ mW : Int32) (sJ uU : Nat → Int32) (H : Heap) (locs : List Loc) (ls : Array Slot), (ws_X7_readThing_78 post rY qM) qJ qB sH uP pQ mW sJ uU → va_P (dC, dI) classes (wd_X7_readThing cI cC cZ cB cJ xG uT xH uS sW uR qY sY qI qJ rY qM pG qB sH uP pQ mW sJ uU) H → va_D A (wd_X7_readThing cI cC cZ cB cJ xG uT xH uS sW uR qY sY qI qJ rY qM pG qB sH uP pQ mW sJ uU) → va_S A s.heap H locs → lv_has ls 3 [(1, .ref xG)] → W p l e rm_X7_readThing s m args below meth c H locs 0 0 (MQ below (q_X7_readThing dC dI cI cC cZ cB cJ A xG uT xH uS sW uR qY sY qI rY qM pG post) args s 0 0 A) (F0 m 78 ls []) := by
  obtain ⟨hx, hb, hr, hml, hown, hts, hlocks, hA, hK, hN, tL, tM, hZL, hTL, hZM, hTM, hZX⟩ := id C0
  intro qJ qB sH uP pQ mW sJ uU H locs ls hp hP hD hS hl
  unfold ws_X7_readThing_78 at hp
  refine lv_aload_n hx hb eX7_readThing_58.2.2.2.2.2.2.2.2.2.2.2.2.1 rfl (lv_at hl 0 rfl) ?_
  have hm := mgk (wc := (wd_X8_skip cI cC cZ cB cJ xG uT qI qJ rY)) hP mk_16 5 rfl rfl rfl
  refine g_callv hP hD hS hA (mixT mk_16) (mixF mk_16) hm.1 hm.2 (nd_F _) (dis_g _) (g_runV (As := []) (rest := []) C0 hP hD hS (mixT mk_16) hm.1 (nd_T _) 0 8 rfl rfl (c_X8_skip l dC dI cI cC cZ cB cJ xG uT H.size qI qJ rY _ hp) q_29 q_115 q_30 q_31 q_5 h_X8_skip rfl rfl ⟨Nat.le_of_ble_eq_true rfl, Nat.le_of_ble_eq_true rfl⟩ rfl rfl hl.1 rfl (lv_room (Nat.le_of_ble_eq_true rfl)) eX7_readThing_58.2.2.2.2.2.2.2.2.2.2.2.2.2.1 ⟨Nat.zero_le _, Nat.zero_le _⟩) (fun u H locs hp hP hD hS => ?_)
  obtain ⟨aB9, rfl⟩ : ∃ z, z = u := ⟨_, rfl⟩
  have hPD := PDm (ws' := (wd_X7_readThing cI cC cZ cB cJ xG uT xH uS sW uR qY sY qI aB9 rY qM pG qB sH uP pQ mW sJ uU)) hP hD 5 rfl rfl rfl
  have hP := hPD.1
  have hD := hPD.2
  refine lv_iconst (v := 1) hx hb eX7_readThing_58.2.2.2.2.2.2.2.2.2.2.2.2.2.2.1 ic_1 ?_
  exact W.zret (v := 1) hx hb hr rfl (fun t ht hW => ⟨⟨1, (aB9, qB, sH, uP, pQ, mW, sJ, uU), rfl, hp, by rw [ht]; exact hP, va_K.moved hW.alike hK, hD⟩, hS.F ht⟩) hS.2.2 eX7_readThing_58.2.2.2.2.2.2.2.2.2.2.2.2.2.2.2
end S_X7_readThing
noncomputable def wp_X7_readThing (post : Int32 → Int32 → Int32 → Int32 → Int32 → Int32 → Int32 → (Nat → Int32) → (Nat → Int32) → Prop) (qJ rY : Int32) (qM : Nat → Int32) (qB sH uP pQ mW : Int32) (sJ uU : Nat → Int32) : Prop := wp_X8_here (fun r_1 => (¬ r_1 = 45 → (¬ r_1 = 40 → wp_X7_readPlainThing (fun r_2 aEo ru_drafted_4 aLb ru_draft_6 => narrow .boolean (.int r_2) = .int r_2 ∧ post r_2 aEo ru_drafted_4 sH uP pQ aLb sJ ru_draft_6) qJ rY qM qB mW uU) ∧ (r_1 = 40 → (uP < 4 → ∀ v_7 : Int32, v_7 = uP + 1 → ∀ v_8 : Int32, v_8 = 1 <<< (v_7 &&& 31) → ∀ v_9 : Int32, v_9 = pQ &&& (v_8 ^^^ (-1)) → wp_X7_hold (fun ru_waits_10 aAM => ws_X7_readThing_78 post rY qM qJ qB ru_waits_10 v_7 v_9 mW aAM uU) r_1 sH sJ) ∧ (¬ uP < 4 → post 0 qJ qB sH uP pQ mW sJ uU))) ∧ (r_1 = 45 → wp_X7_hold (fun ru_waits_13 ru_waiting_14 => ws_X7_readThing_78 post rY qM qJ qB ru_waits_13 uP pQ mW ru_waiting_14 uU) 256 sH sJ)) qJ rY qM
set_option maxHeartbeats 4000000 in
set_option maxRecDepth 100000 in
theorem c_X7_readThing (l : Launch) (dC : Nat → ClassId) (dI : Nat → Nat → Nat) (cI cC cZ cB cJ : ClassId) (xG uT xH uS sW uR qY sY sz : Nat) (qI qJ rY : Int32) (qM : Nat → Int32) (pG qB sH uP pQ mW : Int32) (sJ uU : Nat → Int32) (post : Int32 → Int32 → Int32 → Int32 → Int32 → Int32 → Int32 → (Nat → Int32) → (Nat → Int32) → Prop) (hw : wp_X7_readThing post qJ rY qM qB sH uP pQ mW sJ uU) : Met l yX7_readThing (gw yX7_readThing cX7_readThing 3 (some .boolean)) rm_X7_readThing (va_Pc [.ref xH, .ref xG] (gPre (dC, dI) (tyl cI cC cZ cB cJ) (wd_X7_readThing cI cC cZ cB cJ xG uT xH uS sW uR qY sY qI qJ rY qM pG qB sH uP pQ mW sJ uU) sz)) (q_X7_readThing dC dI cI cC cZ cB cJ (va_A (wd_X7_readThing cI cC cZ cB cJ xG uT xH uS sW uR qY sY qI qJ rY qM pG qB sH uP pQ mW sJ uU) sz) xG uT xH uS sW uR qY sY qI rY qM pG post) 0 0 (va_A (wd_X7_readThing cI cC cZ cB cJ xG uT xH uS sW uR qY sY qI qJ rY qM pG qB sH uP pQ mW sJ uU) sz) := by
  refine g_enter (own := RX7) (dC, dI) (tyl cI cC cZ cB cJ) (wd_X7_readThing cI cC cZ cB cJ xG uT xH uS sW uR qY sY qI qJ rY qM pG qB sH uP pQ mW sJ uU) sz [.ref xH, .ref xG] (fun A => q_X7_readThing dC dI cI cC cZ cB cJ A xG uT xH uS sW uR qY sY qI rY qM pG post) pn_RX7 rfl (Nat.le_of_ble_eq_true rfl) ?_
  intro p e s m args below meth c A H locs ls C0 hP hD hS hl
  have hl : lv_has ls 3 [(0, .ref xH), (1, .ref xG)] := hl
  obtain ⟨hx, hb, hr, hml, hown, hts, hlocks, hA, hK, hN, tL, tM, hZL, hTL, hZM, hTM, hZX⟩ := id C0
  have hp := hw
  unfold wp_X7_readThing at hp
  refine lv_aload_n hx hb eX7_readThing_0.1 rfl (lv_at hl 1 rfl) ?_
  have hm := mgk (wc := (wd_X8_here cI cC cZ cB cJ xG uT qI qJ rY qM)) hP aIv 5 rfl rfl rfl
  refine g_calli hP hD hS hA (mixT aIv) (mixF aIv) hm.1 hm.2 (nd_F _) (dis_g _) (g_runV (As := []) (rest := []) C0 hP hD hS (mixT aIv) hm.1 (nd_T _) 0 8 rfl rfl (c_X8_here l dC dI cI cC cZ cB cJ xG uT H.size qI qJ rY qM _ hp) q_33 q_113 q_34 q_35 q_5 h_X8_here rfl rfl ⟨Nat.le_of_ble_eq_true rfl, Nat.le_of_ble_eq_true rfl⟩ rfl rfl hl.1 rfl (lv_room (Nat.le_of_ble_eq_true rfl)) eX7_readThing_0.2.1 ⟨Nat.zero_le _, Nat.zero_le _⟩) (fun r_1 u H locs hp hP hD hS => ?_)
  have hPD := PDm (ws' := (wd_X7_readThing cI cC cZ cB cJ xG uT xH uS sW uR qY sY qI qJ rY qM pG qB sH uP pQ mW sJ uU)) hP hD 5 rfl rfl rfl
  have hP := hPD.1
  have hD := hPD.2
  refine lv_istore_n (lv' := [(2, .int r_1), (0, .ref xH), (1, .ref xG)]) hx hb eX7_readThing_0.2.2.1 rfl hl (by decide) rfl (fun ls hl => ?_)
  refine lv_iload_n hx hb eX7_readThing_0.2.2.2.1 rfl (lv_at hl 0 rfl) ?_
  refine lv_bipush (v := 45) hx hb eX7_readThing_0.2.2.2.2.1 bp_45 ?_
  refine lv_icmp_ne (tgt := 21) hx hb eX7_readThing_0.2.2.2.2.2.1 (by decide) (fun hc => ?_) (fun hc => ?_)
  · have hp := hp.1 hc
    refine lv_iload_n hx hb eX7_readThing_0.2.2.2.2.2.2.2.2.2.2.1 rfl (lv_at hl 0 rfl) ?_
    refine lv_bipush (v := 40) hx hb eX7_readThing_0.2.2.2.2.2.2.2.2.2.2.2.1 bp_40 ?_
    refine lv_icmp_ne (tgt := 72) hx hb eX7_readThing_0.2.2.2.2.2.2.2.2.2.2.2.2.1 (by decide) (fun hc => ?_) (fun hc => ?_)
    · have hp := hp.1 hc
      refine lv_aload_n hx hb eX7_readThing_58.2.2.2.2.2.2.2.2.1 rfl (lv_at hl 1 rfl) ?_
      refine lv_aload_n hx hb eX7_readThing_58.2.2.2.2.2.2.2.2.2.1 rfl (lv_at hl 2 rfl) ?_
      have hm := mgk (wc := (wd_X7_readPlainThing cI cC cZ cB cJ xG uT xH uS sW uR qY sY qI qJ rY qM pG qB sH uP pQ mW uU)) hP mk_18 5 rfl rfl rfl
      refine g_calli hP hD hS hA (mixT mk_18) (mixF mk_18) hm.1 hm.2 (nd_F _) (dis_g _) (g_runV (As := [.ref xG]) (rest := []) C0 hP hD hS (mixT mk_18) hm.1 (nd_T _) 2 7 rfl rfl (c_X7_readPlainThing l dC dI cI cC cZ cB cJ xG uT xH uS sW uR qY sY H.size qI qJ rY qM pG qB sH uP pQ mW uU _ hp) q_116 q_119 q_117 q_118 q_108 h_X7_readPlainThing rfl rfl ⟨Nat.le_of_ble_eq_true rfl, Nat.le_of_ble_eq_true rfl⟩ rfl rfl hl.1 rfl (lv_room (Nat.le_of_ble_eq_true rfl)) eX7_readThing_58.2.2.2.2.2.2.2.2.2.2.1 ⟨Nat.zero_le _, Nat.zero_le _⟩) (fun r_2 u H locs hp hP hD hS => ?_)
      obtain ⟨aEo, ru_drafted_4, aLb, ru_draft_6⟩ := u
      have hPD := PDm (ws' := (wd_X7_readThing cI cC cZ cB cJ xG uT xH uS sW uR qY sY qI aEo rY qM pG ru_drafted_4 sH uP pQ aLb sJ ru_draft_6)) hP hD 5 rfl rfl rfl
      have hP := hPD.1
      have hD := hPD.2
      have hnz := hp.1
      have hp := hp.2
      exact W.zret (v := r_2) hx hb hr hnz (fun t ht hW => ⟨⟨r_2, (aEo, ru_drafted_4, sH, uP, pQ, aLb, sJ, ru_draft_6), rfl, hp, by rw [ht]; exact hP, va_K.moved hW.alike hK, hD⟩, hS.F ht⟩) hS.2.2 eX7_readThing_58.2.2.2.2.2.2.2.2.2.2.2.1
    · have hp := hp.2 hc
      refine lv_aload_n hx hb eX7_readThing_0.2.2.2.2.2.2.2.2.2.2.2.2.2.1 rfl (lv_at hl 1 rfl) ?_
      refine va_get (D := (dC, dI)) (ci := 7) (v := .int uP) (C := RX7) (T := TX7) (N := 11) hx hb hts i_X7 hown hK hP 2 rfl rfl 8 (Nat.le_of_ble_eq_true rfl) (hts _ q_120) (fun _ h9 => h9) rfl eX7_readThing_0.2.2.2.2.2.2.2.2.2.2.2.2.2.2.1 ?_
      refine lv_iconst (v := 4) hx hb eX7_readThing_0.2.2.2.2.2.2.2.2.2.2.2.2.2.2.2 ic_4 ?_
      refine lv_icmp_lt (tgt := 37) hx hb eX7_readThing_32.1 (by decide) (fun hc => ?_) (fun hc => ?_)
      · have hp := hp.1 hc
        refine lv_aload_n hx hb eX7_readThing_32.2.2.2.1 rfl (lv_at hl 1 rfl) ?_
        refine lv_dup hx hb eX7_readThing_32.2.2.2.2.1 rfl ?_
        refine va_get (D := (dC, dI)) (ci := 7) (v := .int uP) (C := RX7) (T := TX7) (N := 11) hx hb hts i_X7 hown hK hP 2 rfl rfl 8 (Nat.le_of_ble_eq_true rfl) (hts _ q_120) (fun _ h9 => h9) rfl eX7_readThing_32.2.2.2.2.2.1 ?_
        refine lv_iconst (v := 1) hx hb eX7_readThing_32.2.2.2.2.2.2.1 ic_1 ?_
        refine lv_iadd hx hb eX7_readThing_32.2.2.2.2.2.2.2.1 ?_
        refine lv_topi (fun v_7 ev_7 => ?_)
        have hp := hp v_7 ev_7
        refine va_put (D := (dC, dI)) (ci := 7) (v := .int v_7) (ty := .int) (C := RX7) (T := TX7) (N := 11) hx hb hts i_X7 tyX7 tyX7_ok nmX7 hown hK hP hD hS 2 rfl rfl 8 (Nat.le_of_ble_eq_true rfl) (hts _ q_120) (fun _ h9 => h9) rfl (tyX7_ok 8 (Nat.le_of_ble_eq_true rfl)) rfl rfl (Nat.le_of_ble_eq_true rfl) eX7_readThing_32.2.2.2.2.2.2.2.2.1 (fun H locs hP hD hS => ?_)
        have hP : va_P (dC, dI) classes (wd_X7_readThing cI cC cZ cB cJ xG uT xH uS sW uR qY sY qI qJ rY qM pG qB sH v_7 pQ mW sJ uU) H := hP
        have hD : va_D A (wd_X7_readThing cI cC cZ cB cJ xG uT xH uS sW uR qY sY qI qJ rY qM pG qB sH v_7 pQ mW sJ uU) := hD
        refine lv_aload_n hx hb eX7_readThing_32.2.2.2.2.2.2.2.2.2.1 rfl (lv_at hl 1 rfl) ?_
        refine lv_dup hx hb eX7_readThing_32.2.2.2.2.2.2.2.2.2.2.1 rfl ?_
        refine va_get (D := (dC, dI)) (ci := 7) (v := .int pQ) (C := RX7) (T := TX7) (N := 11) hx hb hts i_X7 hown hK hP 2 rfl rfl 9 (Nat.le_of_ble_eq_true rfl) (hts _ q_121) (fun _ h9 => h9) rfl eX7_readThing_32.2.2.2.2.2.2.2.2.2.2.2.1 ?_
        refine lv_iconst (v := 1) hx hb eX7_readThing_32.2.2.2.2.2.2.2.2.2.2.2.2.1 ic_1 ?_
        refine lv_aload_n hx hb eX7_readThing_32.2.2.2.2.2.2.2.2.2.2.2.2.2.1 rfl (lv_at hl 1 rfl) ?_
        refine va_get (D := (dC, dI)) (ci := 7) (v := .int v_7) (C := RX7) (T := TX7) (N := 11) hx hb hts i_X7 hown hK hP 2 rfl rfl 8 (Nat.le_of_ble_eq_true rfl) (hts _ q_120) (fun _ h9 => h9) rfl eX7_readThing_32.2.2.2.2.2.2.2.2.2.2.2.2.2.2.1 ?_
        refine lv_ishl hx hb eX7_readThing_32.2.2.2.2.2.2.2.2.2.2.2.2.2.2.2 ?_
        refine lv_topi (fun v_8 ev_8 => ?_)
        have hp := hp v_8 ev_8
        refine lv_iconst (v := (-1)) hx hb eX7_readThing_58.1 ic_m1 ?_
        refine lv_ixor hx hb eX7_readThing_58.2.1 ?_
        refine lv_iand hx hb eX7_readThing_58.2.2.1 ?_
        refine lv_topi (fun v_9 ev_9 => ?_)
        have hp := hp v_9 ev_9
        refine va_put (D := (dC, dI)) (ci := 7) (v := .int v_9) (ty := .int) (C := RX7) (T := TX7) (N := 11) hx hb hts i_X7 tyX7 tyX7_ok nmX7 hown hK hP hD hS 2 rfl rfl 9 (Nat.le_of_ble_eq_true rfl) (hts _ q_121) (fun _ h9 => h9) rfl (tyX7_ok 9 (Nat.le_of_ble_eq_true rfl)) rfl rfl (Nat.le_of_ble_eq_true rfl) eX7_readThing_58.2.2.2.1 (fun H locs hP hD hS => ?_)
        have hP : va_P (dC, dI) classes (wd_X7_readThing cI cC cZ cB cJ xG uT xH uS sW uR qY sY qI qJ rY qM pG qB sH v_7 v_9 mW sJ uU) H := hP
        have hD : va_D A (wd_X7_readThing cI cC cZ cB cJ xG uT xH uS sW uR qY sY qI qJ rY qM pG qB sH v_7 v_9 mW sJ uU) := hD
        refine lv_aload_n hx hb eX7_readThing_58.2.2.2.2.1 rfl (lv_at hl 1 rfl) ?_
        refine lv_iload_n hx hb eX7_readThing_58.2.2.2.2.2.1 rfl (lv_at hl 0 rfl) ?_
        have hm := mgk (wc := (wd_X7_hold cI cC cZ cB cJ xH uS sW uR qY sY pG qB sH v_7 v_9 mW sJ)) hP mk_19 5 rfl rfl rfl
        refine g_callv hP hD hS hA (mixT mk_19) (mixF mk_19) hm.1 hm.2 (nd_F _) (dis_g _) (g_runV (As := [.int r_1]) (rest := []) C0 hP hD hS (mixT mk_19) hm.1 (nd_T _) 2 7 rfl rfl (c_X7_hold l dC dI cI cC cZ cB cJ xH uS sW uR qY sY H.size r_1 pG qB sH v_7 v_9 mW sJ _ hp) q_122 q_125 q_123 q_124 q_108 h_X7_hold rfl rfl ⟨Nat.le_of_ble_eq_true rfl, Nat.le_of_ble_eq_true rfl⟩ rfl rfl hl.1 rfl (lv_room (Nat.le_of_ble_eq_true rfl)) eX7_readThing_58.2.2.2.2.2.2.1 ⟨Nat.zero_le _, Nat.zero_le _⟩) (fun u H locs hp hP hD hS => ?_)
        obtain ⟨ru_waits_10, aAM⟩ := u
        have hPD := PDm (ws' := (wd_X7_readThing cI cC cZ cB cJ xG uT xH uS sW uR qY sY qI qJ rY qM pG qB ru_waits_10 v_7 v_9 mW aAM uU)) hP hD 5 rfl rfl rfl
        have hP := hPD.1
        have hD := hPD.2
        refine lv_goto (tgt := 78) hx hb eX7_readThing_58.2.2.2.2.2.2.2.1 (by decide) ?_
        exact ks_X7_readThing_78 C0 qJ qB ru_waits_10 v_7 v_9 mW aAM uU H locs ls hp hP hD hS (lv_sub hl [2] rfl)
      · have hp := hp.2 hc
        refine lv_iconst (v := 0) hx hb eX7_readThing_32.2.1 ic_0 ?_
        exact W.zret (v := 0) hx hb hr rfl (fun t ht hW => ⟨⟨0, (qJ, qB, sH, uP, pQ, mW, sJ, uU), rfl, hp, by rw [ht]; exact hP, va_K.moved hW.alike hK, hD⟩, hS.F ht⟩) hS.2.2 eX7_readThing_32.2.2.1
  · have hp := hp.2 hc
    refine lv_aload_n hx hb eX7_readThing_0.2.2.2.2.2.2.1 rfl (lv_at hl 1 rfl) ?_
    refine lv_sipush (v := 256) hx hb eX7_readThing_0.2.2.2.2.2.2.2.1 sp_256 ?_
    have hm := mgk (wc := (wd_X7_hold cI cC cZ cB cJ xH uS sW uR qY sY pG qB sH uP pQ mW sJ)) hP mk_19 5 rfl rfl rfl
    refine g_callv hP hD hS hA (mixT mk_19) (mixF mk_19) hm.1 hm.2 (nd_F _) (dis_g _) (g_runV (As := [.int 256]) (rest := []) C0 hP hD hS (mixT mk_19) hm.1 (nd_T _) 2 7 rfl rfl (c_X7_hold l dC dI cI cC cZ cB cJ xH uS sW uR qY sY H.size 256 pG qB sH uP pQ mW sJ _ hp) q_122 q_125 q_123 q_124 q_108 h_X7_hold rfl rfl ⟨Nat.le_of_ble_eq_true rfl, Nat.le_of_ble_eq_true rfl⟩ rfl rfl hl.1 rfl (lv_room (Nat.le_of_ble_eq_true rfl)) eX7_readThing_0.2.2.2.2.2.2.2.2.1 ⟨Nat.zero_le _, Nat.zero_le _⟩) (fun u H locs hp hP hD hS => ?_)
    obtain ⟨ru_waits_13, ru_waiting_14⟩ := u
    have hPD := PDm (ws' := (wd_X7_readThing cI cC cZ cB cJ xG uT xH uS sW uR qY sY qI qJ rY qM pG qB ru_waits_13 uP pQ mW ru_waiting_14 uU)) hP hD 5 rfl rfl rfl
    have hP := hPD.1
    have hD := hPD.2
    refine lv_goto (tgt := 78) hx hb eX7_readThing_0.2.2.2.2.2.2.2.2.2.1 (by decide) ?_
    exact ks_X7_readThing_78 C0 qJ qB ru_waits_13 uP pQ mW ru_waiting_14 uU H locs ls hp hP hD hS (lv_sub hl [2] rfl)
noncomputable abbrev wd_X7_strength (cI cC cZ cB cJ : ClassId) : va_W := []
noncomputable abbrev q_X7_strength (dC : Nat → ClassId) (dI : Nat → Nat → Nat) (cI cC cZ cB cJ : ClassId) (A : Nat → Prop) (post : Int32 → Prop) : Array Value → State → Outcome → State → Prop := va_Qi (fun (r : Int32) (u : Unit) => post r) (fun u t => gB (dC, dI) (tyl cI cC cZ cB cJ) A (wd_X7_strength cI cC cZ cB cJ) t) A
noncomputable abbrev rm_X7_strength : Room := { frames := 0, cells := 0, slots := 0, locals := 0 }
noncomputable def wp_X7_strength (post : Int32 → Prop) (p0 : Int32) : Prop := (p0 = 42 → post 3) ∧ (p0 = 43 → post 2) ∧ (p0 = 45 → post 2) ∧ (p0 = 47 → post 3) ∧ (p0 = 60 → post 1) ∧ (p0 = 61 → post 1) ∧ (p0 = 62 → post 1) ∧ (p0 = 256 → post 4) ∧ (¬ p0 = 42 → ¬ p0 = 43 → ¬ p0 = 45 → ¬ p0 = 47 → ¬ p0 = 60 → ¬ p0 = 61 → ¬ p0 = 62 → ¬ p0 = 256 → post 0)
set_option maxHeartbeats 4000000 in
set_option maxRecDepth 100000 in
theorem c_X7_strength (l : Launch) (dC : Nat → ClassId) (dI : Nat → Nat → Nat) (cI cC cZ cB cJ : ClassId) (sz : Nat) (p0 : Int32) (post : Int32 → Prop) (hw : wp_X7_strength post p0) : Met l yX7_strength (gw yX7_strength cX7_strength 1 (some .int)) rm_X7_strength (va_Pc [.int p0] (gPre (dC, dI) (tyl cI cC cZ cB cJ) (wd_X7_strength cI cC cZ cB cJ) sz)) (q_X7_strength dC dI cI cC cZ cB cJ (va_A (wd_X7_strength cI cC cZ cB cJ) sz) post) 0 0 (va_A (wd_X7_strength cI cC cZ cB cJ) sz) := by
  refine g_enter (own := RX7) (dC, dI) (tyl cI cC cZ cB cJ) (wd_X7_strength cI cC cZ cB cJ) sz [.int p0] (fun A => q_X7_strength dC dI cI cC cZ cB cJ A post) pn_RX7 rfl (Nat.le_of_ble_eq_true rfl) ?_
  intro p e s m args below meth c A H locs ls C0 hP hD hS hl
  have hl : lv_has ls 1 [(0, .int p0)] := hl
  obtain ⟨hx, hb, hr, hml, hown, hts, hlocks, hA, hK, hN, tL, tM, hZL, hTL, hZM, hTM, hZX⟩ := id C0
  have hp := hw
  unfold wp_X7_strength at hp
  refine lv_iload_n hx hb eX7_strength_0.1 rfl (lv_at hl 0 rfl) ?_
  by_cases hc0 : p0 = 42
  · have hp := hp.1 hc0
    refine lv_lookup (tgt := 80) hx hb eX7_strength_0.2.1 (by decide) (by first | (rw [hc0]; done) | (rw [hc0]; rfl)) (by decide) ?_
    refine lv_iconst (v := 3) hx hb eX7_strength_0.2.2.2.2.2.2.1 ic_3 ?_
    exact W.iret (v := 3) hx hb hr (fun t ht hW => ⟨⟨3, (), rfl, hp, by rw [ht]; exact hP, va_K.moved hW.alike hK, hD⟩, hS.F ht⟩) hS.2.2 eX7_strength_0.2.2.2.2.2.2.2.1
  by_cases hc1 : p0 = 43
  · have hp := hp.2.1 hc1
    refine lv_lookup (tgt := 78) hx hb eX7_strength_0.2.1 (by decide) (by first | (rw [hc1]; done) | (rw [hc1]; rfl)) (by decide) ?_
    refine lv_iconst (v := 2) hx hb eX7_strength_0.2.2.2.2.1 ic_2 ?_
    exact W.iret (v := 2) hx hb hr (fun t ht hW => ⟨⟨2, (), rfl, hp, by rw [ht]; exact hP, va_K.moved hW.alike hK, hD⟩, hS.F ht⟩) hS.2.2 eX7_strength_0.2.2.2.2.2.1
  by_cases hc2 : p0 = 45
  · have hp := hp.2.2.1 hc2
    refine lv_lookup (tgt := 78) hx hb eX7_strength_0.2.1 (by decide) (by first | (rw [hc2]; done) | (rw [hc2]; rfl)) (by decide) ?_
    refine lv_iconst (v := 2) hx hb eX7_strength_0.2.2.2.2.1 ic_2 ?_
    exact W.iret (v := 2) hx hb hr (fun t ht hW => ⟨⟨2, (), rfl, hp, by rw [ht]; exact hP, va_K.moved hW.alike hK, hD⟩, hS.F ht⟩) hS.2.2 eX7_strength_0.2.2.2.2.2.1
  by_cases hc3 : p0 = 47
  · have hp := hp.2.2.2.1 hc3
    refine lv_lookup (tgt := 80) hx hb eX7_strength_0.2.1 (by decide) (by first | (rw [hc3]; done) | (rw [hc3]; rfl)) (by decide) ?_
    refine lv_iconst (v := 3) hx hb eX7_strength_0.2.2.2.2.2.2.1 ic_3 ?_
    exact W.iret (v := 3) hx hb hr (fun t ht hW => ⟨⟨3, (), rfl, hp, by rw [ht]; exact hP, va_K.moved hW.alike hK, hD⟩, hS.F ht⟩) hS.2.2 eX7_strength_0.2.2.2.2.2.2.2.1
  by_cases hc4 : p0 = 60
  · have hp := hp.2.2.2.2.1 hc4
    refine lv_lookup (tgt := 76) hx hb eX7_strength_0.2.1 (by decide) (by first | (rw [hc4]; done) | (rw [hc4]; rfl)) (by decide) ?_
    refine lv_iconst (v := 1) hx hb eX7_strength_0.2.2.1 ic_1 ?_
    exact W.iret (v := 1) hx hb hr (fun t ht hW => ⟨⟨1, (), rfl, hp, by rw [ht]; exact hP, va_K.moved hW.alike hK, hD⟩, hS.F ht⟩) hS.2.2 eX7_strength_0.2.2.2.1
  by_cases hc5 : p0 = 61
  · have hp := hp.2.2.2.2.2.1 hc5
    refine lv_lookup (tgt := 76) hx hb eX7_strength_0.2.1 (by decide) (by first | (rw [hc5]; done) | (rw [hc5]; rfl)) (by decide) ?_
    refine lv_iconst (v := 1) hx hb eX7_strength_0.2.2.1 ic_1 ?_
    exact W.iret (v := 1) hx hb hr (fun t ht hW => ⟨⟨1, (), rfl, hp, by rw [ht]; exact hP, va_K.moved hW.alike hK, hD⟩, hS.F ht⟩) hS.2.2 eX7_strength_0.2.2.2.1
  by_cases hc6 : p0 = 62
  · have hp := hp.2.2.2.2.2.2.1 hc6
    refine lv_lookup (tgt := 76) hx hb eX7_strength_0.2.1 (by decide) (by first | (rw [hc6]; done) | (rw [hc6]; rfl)) (by decide) ?_
    refine lv_iconst (v := 1) hx hb eX7_strength_0.2.2.1 ic_1 ?_
    exact W.iret (v := 1) hx hb hr (fun t ht hW => ⟨⟨1, (), rfl, hp, by rw [ht]; exact hP, va_K.moved hW.alike hK, hD⟩, hS.F ht⟩) hS.2.2 eX7_strength_0.2.2.2.1
  by_cases hc7 : p0 = 256
  · have hp := hp.2.2.2.2.2.2.2.1 hc7
    refine lv_lookup (tgt := 82) hx hb eX7_strength_0.2.1 (by decide) (by first | (rw [hc7]; done) | (rw [hc7]; rfl)) (by decide) ?_
    refine lv_iconst (v := 4) hx hb eX7_strength_0.2.2.2.2.2.2.2.2.1 ic_4 ?_
    exact W.iret (v := 4) hx hb hr (fun t ht hW => ⟨⟨4, (), rfl, hp, by rw [ht]; exact hP, va_K.moved hW.alike hK, hD⟩, hS.F ht⟩) hS.2.2 eX7_strength_0.2.2.2.2.2.2.2.2.2.1
  have hp := hp.2.2.2.2.2.2.2.2 hc0 hc1 hc2 hc3 hc4 hc5 hc6 hc7
  have key : W p l e rm_X7_strength s m args below meth c H locs 0 0 (MQ below (q_X7_strength dC dI cI cC cZ cB cJ A post) args s 0 0 A) (F0 m 84 ls []) := by
    refine lv_iconst (v := 0) hx hb eX7_strength_0.2.2.2.2.2.2.2.2.2.2.1 ic_0 ?_
    exact W.iret (v := 0) hx hb hr (fun t ht hW => ⟨⟨0, (), rfl, hp, by rw [ht]; exact hP, va_K.moved hW.alike hK, hD⟩, hS.F ht⟩) hS.2.2 eX7_strength_0.2.2.2.2.2.2.2.2.2.2.2
  exact lv_lookup (tgt := 84) (off := 83) hx hb eX7_strength_0.2.1 (by decide) (by show Op.lookupswitch.offset [(42, 79), (43, 77), (45, 77), (47, 79), (60, 75), (61, 75), (62, 75), (256, 81)] _ _ = _; first | (rw [lv_osw (a := 42) hc0 rfl, lv_osw (a := 43) hc1 rfl, lv_osw (a := 45) hc2 rfl, lv_osw (a := 47) hc3 rfl, lv_osw (a := 60) hc4 rfl, lv_osw (a := 61) hc5 rfl, lv_osw (a := 62) hc6 rfl, lv_osw (a := 256) hc7 rfl]; done) | (rw [lv_osw (a := 42) hc0 rfl, lv_osw (a := 43) hc1 rfl, lv_osw (a := 45) hc2 rfl, lv_osw (a := 47) hc3 rfl, lv_osw (a := 60) hc4 rfl, lv_osw (a := 61) hc5 rfl, lv_osw (a := 62) hc6 rfl, lv_osw (a := 256) hc7 rfl]; rfl)) (by decide) key
noncomputable abbrev wd_X7_settle (cI cC cZ cB cJ : ClassId) (xH uS sW uR qY sY : Nat) (pG qB sH uP pQ mW : Int32) (sJ uU : Nat → Int32) : va_W := [(xH, .inr (7, [.ref uS, .ref sW, .ref uR, .ref qY, .ref sY, .int pG, .int qB, .int sH, .int uP, .int pQ, .int mW])), (sW, .inl (cI, 40, .inl sJ)), (sY, .inl (cI, 40, .inl uU))]
noncomputable abbrev q_X7_settle (dC : Nat → ClassId) (dI : Nat → Nat → Nat) (cI cC cZ cB cJ : ClassId) (A : Nat → Prop) (xH uS sW uR qY sY : Nat) (pG uP pQ mW : Int32) (sJ : Nat → Int32) (post : Int32 → Int32 → (Nat → Int32) → Prop) : Array Value → State → Outcome → State → Prop := va_Qv (fun (u : Int32 × Int32 × (Nat → Int32)) => post u.1 u.2.1 u.2.2) (fun u t => gB (dC, dI) (tyl cI cC cZ cB cJ) A (wd_X7_settle cI cC cZ cB cJ xH uS sW uR qY sY pG u.1 u.2.1 uP pQ mW sJ u.2.2) t) A
noncomputable abbrev rm_X7_settle : Room := { frames := 1, cells := 0, slots := 0, locals := 21 }
section S_X7_settle
variable {p : Program} {l : Launch} {e : Env} {s : State} {m : MethodId} {args : Array Value} {below : List Frame} {meth : Method} {c : Code} {dC : Nat → ClassId} {dI : Nat → Nat → Nat} {cI cC cZ cB cJ : ClassId} {A : Nat → Prop} {xH uS sW uR qY sY : Nat} {pG uP pQ mW : Int32} {sJ : Nat → Int32} {post : Int32 → Int32 → (Nat → Int32) → Prop}
noncomputable def ws_X7_settle_0 (post : Int32 → Int32 → (Nat → Int32) → Prop) (next : Int32 → Int32 → Int32 → (Nat → Int32) → Prop) (sJ : Nat → Int32) (x1 qB sH : Int32) (uU : Nat → Int32) : Prop := (sH ≤ 0 → post qB sH uU) ∧ (¬ sH ≤ 0 → ∀ v_1 : Int32, v_1 = sH - 1 → vp_in v_1 40 ∧ (∀ v_2 : Int32, v_2 = sJ v_1.toNatClampNeg → wp_X7_strength (fun r_3 => (r_3 < x1 → post qB sH uU) ∧ (¬ r_3 < x1 → ∀ v_4 : Int32, v_4 = sH - 1 → vp_in v_4 40 ∧ (∀ v_5 : Int32, v_5 = 2000 + (sJ v_4.toNatClampNeg) → wp_X7_emit (fun aAR ru_draft_7 => next x1 aAR v_4 ru_draft_7) v_5 qB uU))) v_2))
noncomputable def wb_X7_settle_0 (post : Int32 → Int32 → (Nat → Int32) → Prop) (sJ : Nat → Int32) : Nat → Int32 → Int32 → Int32 → (Nat → Int32) → Prop := fun n => Nat.rec (motive := fun _ => Int32 → Int32 → Int32 → (Nat → Int32) → Prop) (fun _ _ _ _ => False) (fun _ ih => ws_X7_settle_0 post ih sJ) n
set_option maxHeartbeats 4000000 in
set_option maxRecDepth 100000 in
theorem ks_X7_settle_0 (C0 : gc cX7_settle none 2 RX7 (dC, dI) (tyl cI cC cZ cB cJ) A p s m args meth c) {next : Int32 → Int32 → Int32 → (Nat → Int32) → Prop} (hKn : ∀ (x1 : Int32) (qB : Int32) (sH : Int32) (uU : Nat → Int32) (H : Heap) (locs : List Loc) (ls : Array Slot), next x1 qB sH uU → va_P (dC, dI) classes (wd_X7_settle cI cC cZ cB cJ xH uS sW uR qY sY pG qB sH uP pQ mW sJ uU) H → va_D A (wd_X7_settle cI cC cZ cB cJ xH uS sW uR qY sY pG qB sH uP pQ mW sJ uU) → va_S A s.heap H locs → lv_has ls 2 [(0, .ref xH), (1, .int x1)] → W p l e rm_X7_settle s m args below meth c H locs 0 0 (MQ below (q_X7_settle dC dI cI cC cZ cB cJ A xH uS sW uR qY sY pG uP pQ mW sJ post) args s 0 0 A) (F0 m 0 ls [])) : ∀ (x1 qB sH : Int32) (uU : Nat → Int32) (H : Heap) (locs : List Loc) (ls : Array Slot), (ws_X7_settle_0 post next sJ) x1 qB sH uU → va_P (dC, dI) classes (wd_X7_settle cI cC cZ cB cJ xH uS sW uR qY sY pG qB sH uP pQ mW sJ uU) H → va_D A (wd_X7_settle cI cC cZ cB cJ xH uS sW uR qY sY pG qB sH uP pQ mW sJ uU) → va_S A s.heap H locs → lv_has ls 2 [(0, .ref xH), (1, .int x1)] → W p l e rm_X7_settle s m args below meth c H locs 0 0 (MQ below (q_X7_settle dC dI cI cC cZ cB cJ A xH uS sW uR qY sY pG uP pQ mW sJ post) args s 0 0 A) (F0 m 0 ls []) := by
  obtain ⟨hx, hb, hr, hml, hown, hts, hlocks, hA, hK, hN, tL, tM, hZL, hTL, hZM, hTM, hZX⟩ := id C0
  intro x1 qB sH uU H locs ls hp hP hD hS hl
  unfold ws_X7_settle_0 at hp
  refine lv_aload_n hx hb eX7_settle_0.1 rfl (lv_at hl 0 rfl) ?_
  refine va_get (D := (dC, dI)) (ci := 7) (v := .int sH) (C := RX7) (T := TX7) (N := 11) hx hb hts i_X7 hown hK hP 0 rfl rfl 7 (Nat.le_of_ble_eq_true rfl) (hts _ q_102) (fun _ h9 => h9) rfl eX7_settle_0.2.1 ?_
  refine lv_if_le (tgt := 55) hx hb eX7_settle_0.2.2.1 (by decide) (fun hc => ?_) (fun hc => ?_)
  · have hp := hp.1 hc
    exact W.vret hx hb hr (fun t ht hW => ⟨⟨(qB, sH, uU), rfl, hp, by rw [ht]; exact hP, va_K.moved hW.alike hK, hD⟩, hS.F ht⟩) hS.2.2 eX7_settle_30.2.2.2.2.2.2.2.2.2.2.2.2.2
  · have hp := hp.2 hc
    refine lv_aload_n hx hb eX7_settle_0.2.2.2.1 rfl (lv_at hl 0 rfl) ?_
    refine va_get (D := (dC, dI)) (ci := 7) (v := .ref sW) (C := RX7) (T := TX7) (N := 11) hx hb hts i_X7 hown hK hP 0 rfl rfl 1 (Nat.le_of_ble_eq_true rfl) (hts _ q_103) (fun _ h9 => h9) rfl eX7_settle_0.2.2.2.2.1 ?_
    refine lv_aload_n hx hb eX7_settle_0.2.2.2.2.2.1 rfl (lv_at hl 0 rfl) ?_
    refine va_get (D := (dC, dI)) (ci := 7) (v := .int sH) (C := RX7) (T := TX7) (N := 11) hx hb hts i_X7 hown hK hP 0 rfl rfl 7 (Nat.le_of_ble_eq_true rfl) (hts _ q_102) (fun _ h9 => h9) rfl eX7_settle_0.2.2.2.2.2.2.1 ?_
    refine lv_iconst (v := 1) hx hb eX7_settle_0.2.2.2.2.2.2.2.1 ic_1 ?_
    refine lv_isub hx hb eX7_settle_0.2.2.2.2.2.2.2.2.1 ?_
    refine lv_topi (fun v_1 ev_1 => ?_)
    have hp := hp v_1 ev_1
    have hin := hp.1
    have hp := hp.2
    refine va_iald hx hb hK hP 1 0 rfl rfl hin eX7_settle_0.2.2.2.2.2.2.2.2.2.1 ?_
    refine lv_topi (fun v_2 ev_2 => ?_)
    have hp := hp v_2 ev_2
    have hm := mgk (wc := (wd_X7_strength cI cC cZ cB cJ)) hP aGv 3 rfl rfl rfl
    refine g_calli hP hD hS hA (mixT aGv) (mixF aGv) hm.1 hm.2 (nd_F _) (dis_g _) (g_runS (As := [.int v_2]) (rest := []) C0 hP hD hS (mixT aGv) hm.1 (nd_T _) (c_X7_strength l dC dI cI cC cZ cB cJ H.size v_2 _ hp) q_126 q_128 q_127 q_108 h_X7_strength rfl rfl ⟨Nat.le_of_ble_eq_true rfl, Nat.le_of_ble_eq_true rfl⟩ rfl rfl hl.1 rfl (lv_room (Nat.le_of_ble_eq_true rfl)) eX7_settle_0.2.2.2.2.2.2.2.2.2.2.1 ⟨Nat.zero_le _, Nat.zero_le _⟩) (fun r_3 u H locs hp hP hD hS => ?_)
    have hPD := PDm (ws' := (wd_X7_settle cI cC cZ cB cJ xH uS sW uR qY sY pG qB sH uP pQ mW sJ uU)) hP hD 3 rfl rfl rfl
    have hP := hPD.1
    have hD := hPD.2
    refine lv_iload_n hx hb eX7_settle_0.2.2.2.2.2.2.2.2.2.2.2.1 rfl (lv_at hl 1 rfl) ?_
    refine lv_icmp_lt (tgt := 55) hx hb eX7_settle_0.2.2.2.2.2.2.2.2.2.2.2.2.1 (by decide) (fun hc => ?_) (fun hc => ?_)
    · have hp := hp.1 hc
      exact W.vret hx hb hr (fun t ht hW => ⟨⟨(qB, sH, uU), rfl, hp, by rw [ht]; exact hP, va_K.moved hW.alike hK, hD⟩, hS.F ht⟩) hS.2.2 eX7_settle_30.2.2.2.2.2.2.2.2.2.2.2.2.2
    · have hp := hp.2 hc
      refine lv_aload_n hx hb eX7_settle_0.2.2.2.2.2.2.2.2.2.2.2.2.2.1 rfl (lv_at hl 0 rfl) ?_
      refine lv_dup hx hb eX7_settle_0.2.2.2.2.2.2.2.2.2.2.2.2.2.2.1 rfl ?_
      refine va_get (D := (dC, dI)) (ci := 7) (v := .int sH) (C := RX7) (T := TX7) (N := 11) hx hb hts i_X7 hown hK hP 0 rfl rfl 7 (Nat.le_of_ble_eq_true rfl) (hts _ q_102) (fun _ h9 => h9) rfl eX7_settle_0.2.2.2.2.2.2.2.2.2.2.2.2.2.2.2 ?_
      refine lv_iconst (v := 1) hx hb eX7_settle_30.1 ic_1 ?_
      refine lv_isub hx hb eX7_settle_30.2.1 ?_
      refine lv_topi (fun v_4 ev_4 => ?_)
      have hp := hp v_4 ev_4
      refine va_put (D := (dC, dI)) (ci := 7) (v := .int v_4) (ty := .int) (C := RX7) (T := TX7) (N := 11) hx hb hts i_X7 tyX7 tyX7_ok nmX7 hown hK hP hD hS 0 rfl rfl 7 (Nat.le_of_ble_eq_true rfl) (hts _ q_102) (fun _ h9 => h9) rfl (tyX7_ok 7 (Nat.le_of_ble_eq_true rfl)) rfl rfl (Nat.le_of_ble_eq_true rfl) eX7_settle_30.2.2.1 (fun H locs hP hD hS => ?_)
      have hP : va_P (dC, dI) classes (wd_X7_settle cI cC cZ cB cJ xH uS sW uR qY sY pG qB v_4 uP pQ mW sJ uU) H := hP
      have hD : va_D A (wd_X7_settle cI cC cZ cB cJ xH uS sW uR qY sY pG qB v_4 uP pQ mW sJ uU) := hD
      refine lv_aload_n hx hb eX7_settle_30.2.2.2.1 rfl (lv_at hl 0 rfl) ?_
      refine lv_sipush (v := 2000) hx hb eX7_settle_30.2.2.2.2.1 sp_2000 ?_
      refine lv_aload_n hx hb eX7_settle_30.2.2.2.2.2.1 rfl (lv_at hl 0 rfl) ?_
      refine va_get (D := (dC, dI)) (ci := 7) (v := .ref sW) (C := RX7) (T := TX7) (N := 11) hx hb hts i_X7 hown hK hP 0 rfl rfl 1 (Nat.le_of_ble_eq_true rfl) (hts _ q_103) (fun _ h9 => h9) rfl eX7_settle_30.2.2.2.2.2.2.1 ?_
      refine lv_aload_n hx hb eX7_settle_30.2.2.2.2.2.2.2.1 rfl (lv_at hl 0 rfl) ?_
      refine va_get (D := (dC, dI)) (ci := 7) (v := .int v_4) (C := RX7) (T := TX7) (N := 11) hx hb hts i_X7 hown hK hP 0 rfl rfl 7 (Nat.le_of_ble_eq_true rfl) (hts _ q_102) (fun _ h9 => h9) rfl eX7_settle_30.2.2.2.2.2.2.2.2.1 ?_
      have hin := hp.1
      have hp := hp.2
      refine va_iald hx hb hK hP 1 0 rfl rfl hin eX7_settle_30.2.2.2.2.2.2.2.2.2.1 ?_
      refine lv_iadd hx hb eX7_settle_30.2.2.2.2.2.2.2.2.2.2.1 ?_
      refine lv_topi (fun v_5 ev_5 => ?_)
      have hp := hp v_5 ev_5
      have hm := mgk (wc := (wd_X7_emit cI cC cZ cB cJ xH uS sW uR qY sY pG qB v_4 uP pQ mW uU)) hP aGw 3 rfl rfl rfl
      refine g_callv hP hD hS hA (mixT aGw) (mixF aGw) hm.1 hm.2 (nd_F _) (dis_g _) (g_runV (As := [.int v_5]) (rest := []) C0 hP hD hS (mixT aGw) hm.1 (nd_T _) 0 7 rfl rfl (c_X7_emit l dC dI cI cC cZ cB cJ xH uS sW uR qY sY H.size v_5 pG qB v_4 uP pQ mW uU _ hp) q_107 q_111 q_109 q_110 q_108 h_X7_emit rfl rfl ⟨Nat.le_of_ble_eq_true rfl, Nat.le_of_ble_eq_true rfl⟩ rfl rfl hl.1 rfl (lv_room (Nat.le_of_ble_eq_true rfl)) eX7_settle_30.2.2.2.2.2.2.2.2.2.2.2.1 ⟨Nat.zero_le _, Nat.zero_le _⟩) (fun u H locs hp hP hD hS => ?_)
      obtain ⟨aAR, ru_draft_7⟩ := u
      have hPD := PDm (ws' := (wd_X7_settle cI cC cZ cB cJ xH uS sW uR qY sY pG aAR v_4 uP pQ mW sJ ru_draft_7)) hP hD 3 rfl rfl rfl
      have hP := hPD.1
      have hD := hPD.2
      refine lv_goto (tgt := 0) hx hb eX7_settle_30.2.2.2.2.2.2.2.2.2.2.2.2.1 (by decide) ?_
      exact hKn x1 aAR v_4 ru_draft_7 H locs ls hp hP hD hS (lv_sub hl [0, 1] rfl)
set_option maxHeartbeats 4000000 in
set_option maxRecDepth 100000 in
theorem kb_X7_settle_0 (C0 : gc cX7_settle none 2 RX7 (dC, dI) (tyl cI cC cZ cB cJ) A p s m args meth c) : ∀ (n : Nat), ∀ (x1 qB sH : Int32) (uU : Nat → Int32) (H : Heap) (locs : List Loc) (ls : Array Slot), (wb_X7_settle_0 post sJ n) x1 qB sH uU → va_P (dC, dI) classes (wd_X7_settle cI cC cZ cB cJ xH uS sW uR qY sY pG qB sH uP pQ mW sJ uU) H → va_D A (wd_X7_settle cI cC cZ cB cJ xH uS sW uR qY sY pG qB sH uP pQ mW sJ uU) → va_S A s.heap H locs → lv_has ls 2 [(0, .ref xH), (1, .int x1)] → W p l e rm_X7_settle s m args below meth c H locs 0 0 (MQ below (q_X7_settle dC dI cI cC cZ cB cJ A xH uS sW uR qY sY pG uP pQ mW sJ post) args s 0 0 A) (F0 m 0 ls []) := by
  intro n
  induction n with
  | zero =>
    intro x1 qB sH uU H locs ls hp
    exact False.elim hp
  | succ n ih =>
    intro x1 qB sH uU H locs ls hp
    exact ks_X7_settle_0 C0 ih x1 qB sH uU H locs ls hp
end S_X7_settle
noncomputable def wp_X7_settle (post : Int32 → Int32 → (Nat → Int32) → Prop) (p0 qB sH : Int32) (sJ uU : Nat → Int32) : Prop := ∃ n : Nat, wb_X7_settle_0 post sJ n p0 qB sH uU
set_option maxHeartbeats 4000000 in
set_option maxRecDepth 100000 in
theorem c_X7_settle (l : Launch) (dC : Nat → ClassId) (dI : Nat → Nat → Nat) (cI cC cZ cB cJ : ClassId) (xH uS sW uR qY sY sz : Nat) (p0 pG qB sH uP pQ mW : Int32) (sJ uU : Nat → Int32) (post : Int32 → Int32 → (Nat → Int32) → Prop) (hw : wp_X7_settle post p0 qB sH sJ uU) : Met l yX7_settle (gw yX7_settle cX7_settle 2 none) rm_X7_settle (va_Pc [.ref xH, .int p0] (gPre (dC, dI) (tyl cI cC cZ cB cJ) (wd_X7_settle cI cC cZ cB cJ xH uS sW uR qY sY pG qB sH uP pQ mW sJ uU) sz)) (q_X7_settle dC dI cI cC cZ cB cJ (va_A (wd_X7_settle cI cC cZ cB cJ xH uS sW uR qY sY pG qB sH uP pQ mW sJ uU) sz) xH uS sW uR qY sY pG uP pQ mW sJ post) 0 0 (va_A (wd_X7_settle cI cC cZ cB cJ xH uS sW uR qY sY pG qB sH uP pQ mW sJ uU) sz) := by
  refine g_enter (own := RX7) (dC, dI) (tyl cI cC cZ cB cJ) (wd_X7_settle cI cC cZ cB cJ xH uS sW uR qY sY pG qB sH uP pQ mW sJ uU) sz [.ref xH, .int p0] (fun A => q_X7_settle dC dI cI cC cZ cB cJ A xH uS sW uR qY sY pG uP pQ mW sJ post) pn_RX7 rfl (Nat.le_of_ble_eq_true rfl) ?_
  intro p e s m args below meth c A H locs ls C0 hP hD hS hl
  have hl : lv_has ls 2 [(0, .ref xH), (1, .int p0)] := hl
  obtain ⟨hx, hb, hr, hml, hown, hts, hlocks, hA, hK, hN, tL, tM, hZL, hTL, hZM, hTM, hZX⟩ := id C0
  have hp := hw
  unfold wp_X7_settle at hp
  obtain ⟨n9, hp⟩ := hp
  exact kb_X7_settle_0 C0 n9 p0 qB sH uU H locs ls hp hP hD hS (lv_sub hl [0, 1] rfl)
noncomputable abbrev wd_X7_readBehindThing (cI cC cZ cB cJ : ClassId) (xG uT xH uS sW uR qY sY : Nat) (qI qJ rY : Int32) (qM : Nat → Int32) (pG qB sH uP pQ mW : Int32) (sJ uU : Nat → Int32) : va_W := [(xG, .inr (8, [.ref uT, .int qI, .int qJ, .int rY])), (uT, .inl (cC, 80, .inl qM)), (xH, .inr (7, [.ref uS, .ref sW, .ref uR, .ref qY, .ref sY, .int pG, .int qB, .int sH, .int uP, .int pQ, .int mW])), (sW, .inl (cI, 40, .inl sJ)), (sY, .inl (cI, 40, .inl uU))]
noncomputable abbrev q_X7_readBehindThing (dC : Nat → ClassId) (dI : Nat → Nat → Nat) (cI cC cZ cB cJ : ClassId) (A : Nat → Prop) (xG uT xH uS sW uR qY sY : Nat) (qI rY : Int32) (qM : Nat → Int32) (pG : Int32) (post : Int32 → Int32 → Int32 → Int32 → Int32 → Int32 → Int32 → (Nat → Int32) → (Nat → Int32) → Prop) : Array Value → State → Outcome → State → Prop := va_Qi (fun (r : Int32) (u : Int32 × Int32 × Int32 × Int32 × Int32 × Int32 × (Nat → Int32) × (Nat → Int32)) => post r u.1 u.2.1 u.2.2.1 u.2.2.2.1 u.2.2.2.2.1 u.2.2.2.2.2.1 u.2.2.2.2.2.2.1 u.2.2.2.2.2.2.2) (fun u t => gB (dC, dI) (tyl cI cC cZ cB cJ) A (wd_X7_readBehindThing cI cC cZ cB cJ xG uT xH uS sW uR qY sY qI u.1 rY qM pG u.2.1 u.2.2.1 u.2.2.2.1 u.2.2.2.2.1 u.2.2.2.2.2.1 u.2.2.2.2.2.2.1 u.2.2.2.2.2.2.2) t) A
noncomputable abbrev rm_X7_readBehindThing : Room := { frames := 2, cells := 0, slots := 0, locals := 42 }
section S_X7_readBehindThing
variable {p : Program} {l : Launch} {e : Env} {s : State} {m : MethodId} {args : Array Value} {below : List Frame} {meth : Method} {c : Code} {dC : Nat → ClassId} {dI : Nat → Nat → Nat} {cI cC cZ cB cJ : ClassId} {A : Nat → Prop} {xG uT xH uS sW uR qY sY : Nat} {qI rY : Int32} {qM : Nat → Int32} {pG : Int32} {post : Int32 → Int32 → Int32 → Int32 → Int32 → Int32 → Int32 → (Nat → Int32) → (Nat → Int32) → Prop}
noncomputable def ws_X7_readBehindThing_105 (post : Int32 → Int32 → Int32 → Int32 → Int32 → Int32 → Int32 → (Nat → Int32) → (Nat → Int32) → Prop) (rY : Int32) (qM : Nat → Int32) (x2 x3 qJ qB sH uP pQ mW : Int32) (sJ uU : Nat → Int32) : Prop := wp_X7_settle (fun aAK ru_waits_4 aJS => wp_X7_hold (fun ru_waits_6 aGA => wp_X8_skip (fun tx_place_8 => post 1 tx_place_8 aAK ru_waits_6 uP pQ 1 aGA aJS) qJ rY) x2 ru_waits_4 sJ) x3 qB sH sJ uU
set_option maxHeartbeats 4000000 in
set_option maxRecDepth 100000 in
theorem ks_X7_readBehindThing_105 (C0 : gc cX7_readBehindThing (some .boolean) 4 RX7 (dC, dI) (tyl cI cC cZ cB cJ) A p s m args meth c) : ∀ (x2 x3 qJ qB sH uP pQ mW : Int32) (sJ uU : Nat → Int32) (H : Heap) (locs : List Loc) (ls : Array Slot), (ws_X7_readBehindThing_105 post rY qM) x2 x3 qJ qB sH uP pQ mW sJ uU → va_P (dC, dI) classes (wd_X7_readBehindThing cI cC cZ cB cJ xG uT xH uS sW uR qY sY qI qJ rY qM pG qB sH uP pQ mW sJ uU) H → va_D A (wd_X7_readBehindThing cI cC cZ cB cJ xG uT xH uS sW uR qY sY qI qJ rY qM pG qB sH uP pQ mW sJ uU) → va_S A s.heap H locs → lv_has ls 4 [(0, .ref xH), (1, .ref xG), (2, .int x2), (3, .int x3)] → W p l e rm_X7_readBehindThing s m args below meth c H locs 0 0 (MQ below (q_X7_readBehindThing dC dI cI cC cZ cB cJ A xG uT xH uS sW uR qY sY qI rY qM pG post) args s 0 0 A) (F0 m 105 ls []) := by
  obtain ⟨hx, hb, hr, hml, hown, hts, hlocks, hA, hK, hN, tL, tM, hZL, hTL, hZM, hTM, hZX⟩ := id C0
  intro x2 x3 qJ qB sH uP pQ mW sJ uU H locs ls hp hP hD hS hl
  unfold ws_X7_readBehindThing_105 at hp
  refine lv_aload_n hx hb eX7_readBehindThing_83.2.2.2.2.2.2.2.2.2.2.2.2.2.2.1 rfl (lv_at hl 0 rfl) ?_
  refine lv_iload_n hx hb eX7_readBehindThing_83.2.2.2.2.2.2.2.2.2.2.2.2.2.2.2 rfl (lv_at hl 3 rfl) ?_
  have hm := mgk (wc := (wd_X7_settle cI cC cZ cB cJ xH uS sW uR qY sY pG qB sH uP pQ mW sJ uU)) hP mk_22 5 rfl rfl rfl
  refine g_callv hP hD hS hA (mixT mk_22) (mixF mk_22) hm.1 hm.2 (nd_F _) (dis_g _) (g_runV (As := [.int x3]) (rest := []) C0 hP hD hS (mixT mk_22) hm.1 (nd_T _) 2 7 rfl rfl (c_X7_settle l dC dI cI cC cZ cB cJ xH uS sW uR qY sY H.size x3 pG qB sH uP pQ mW sJ uU _ hp) q_129 q_132 q_130 q_131 q_108 h_X7_settle rfl rfl ⟨Nat.le_of_ble_eq_true rfl, Nat.le_of_ble_eq_true rfl⟩ rfl rfl hl.1 rfl (lv_room (Nat.le_of_ble_eq_true rfl)) eX7_readBehindThing_107.1 ⟨Nat.zero_le _, Nat.zero_le _⟩) (fun u H locs hp hP hD hS => ?_)
  obtain ⟨aAK, ru_waits_4, aJS⟩ := u
  have hPD := PDm (ws' := (wd_X7_readBehindThing cI cC cZ cB cJ xG uT xH uS sW uR qY sY qI qJ rY qM pG aAK ru_waits_4 uP pQ mW sJ aJS)) hP hD 5 rfl rfl rfl
  have hP := hPD.1
  have hD := hPD.2
  refine lv_aload_n hx hb eX7_readBehindThing_107.2.1 rfl (lv_at hl 0 rfl) ?_
  refine lv_iload_n hx hb eX7_readBehindThing_107.2.2.1 rfl (lv_at hl 2 rfl) ?_
  have hm := mgk (wc := (wd_X7_hold cI cC cZ cB cJ xH uS sW uR qY sY pG aAK ru_waits_4 uP pQ mW sJ)) hP mk_19 5 rfl rfl rfl
  refine g_callv hP hD hS hA (mixT mk_19) (mixF mk_19) hm.1 hm.2 (nd_F _) (dis_g _) (g_runV (As := [.int x2]) (rest := []) C0 hP hD hS (mixT mk_19) hm.1 (nd_T _) 2 7 rfl rfl (c_X7_hold l dC dI cI cC cZ cB cJ xH uS sW uR qY sY H.size x2 pG aAK ru_waits_4 uP pQ mW sJ _ hp) q_122 q_125 q_123 q_124 q_108 h_X7_hold rfl rfl ⟨Nat.le_of_ble_eq_true rfl, Nat.le_of_ble_eq_true rfl⟩ rfl rfl hl.1 rfl (lv_room (Nat.le_of_ble_eq_true rfl)) eX7_readBehindThing_107.2.2.2.1 ⟨Nat.zero_le _, Nat.zero_le _⟩) (fun u H locs hp hP hD hS => ?_)
  obtain ⟨ru_waits_6, aGA⟩ := u
  have hPD := PDm (ws' := (wd_X7_readBehindThing cI cC cZ cB cJ xG uT xH uS sW uR qY sY qI qJ rY qM pG aAK ru_waits_6 uP pQ mW aGA aJS)) hP hD 5 rfl rfl rfl
  have hP := hPD.1
  have hD := hPD.2
  refine lv_aload_n hx hb eX7_readBehindThing_107.2.2.2.2.1 rfl (lv_at hl 0 rfl) ?_
  refine lv_iconst (v := 1) hx hb eX7_readBehindThing_107.2.2.2.2.2.1 ic_1 ?_
  refine va_put (D := (dC, dI)) (ci := 7) (v := .int 1) (ty := .boolean) (C := RX7) (T := TX7) (N := 11) hx hb hts i_X7 tyX7 tyX7_ok nmX7 hown hK hP hD hS 2 rfl rfl 10 (Nat.le_of_ble_eq_true rfl) (hts _ q_112) (fun _ h9 => h9) rfl (tyX7_ok 10 (Nat.le_of_ble_eq_true rfl)) rfl rfl (Nat.le_of_ble_eq_true rfl) eX7_readBehindThing_107.2.2.2.2.2.2.1 (fun H locs hP hD hS => ?_)
  have hP : va_P (dC, dI) classes (wd_X7_readBehindThing cI cC cZ cB cJ xG uT xH uS sW uR qY sY qI qJ rY qM pG aAK ru_waits_6 uP pQ 1 aGA aJS) H := hP
  have hD : va_D A (wd_X7_readBehindThing cI cC cZ cB cJ xG uT xH uS sW uR qY sY qI qJ rY qM pG aAK ru_waits_6 uP pQ 1 aGA aJS) := hD
  refine lv_aload_n hx hb eX7_readBehindThing_107.2.2.2.2.2.2.2.1 rfl (lv_at hl 1 rfl) ?_
  have hm := mgk (wc := (wd_X8_skip cI cC cZ cB cJ xG uT qI qJ rY)) hP mk_16 5 rfl rfl rfl
  refine g_callv hP hD hS hA (mixT mk_16) (mixF mk_16) hm.1 hm.2 (nd_F _) (dis_g _) (g_runV (As := []) (rest := []) C0 hP hD hS (mixT mk_16) hm.1 (nd_T _) 0 8 rfl rfl (c_X8_skip l dC dI cI cC cZ cB cJ xG uT H.size qI qJ rY _ hp) q_29 q_115 q_30 q_31 q_5 h_X8_skip rfl rfl ⟨Nat.le_of_ble_eq_true rfl, Nat.le_of_ble_eq_true rfl⟩ rfl rfl hl.1 rfl (lv_room (Nat.le_of_ble_eq_true rfl)) eX7_readBehindThing_107.2.2.2.2.2.2.2.2.1 ⟨Nat.zero_le _, Nat.zero_le _⟩) (fun u H locs hp hP hD hS => ?_)
  obtain ⟨tx_place_8, rfl⟩ : ∃ z, z = u := ⟨_, rfl⟩
  have hPD := PDm (ws' := (wd_X7_readBehindThing cI cC cZ cB cJ xG uT xH uS sW uR qY sY qI tx_place_8 rY qM pG aAK ru_waits_6 uP pQ 1 aGA aJS)) hP hD 5 rfl rfl rfl
  have hP := hPD.1
  have hD := hPD.2
  refine lv_iconst (v := 1) hx hb eX7_readBehindThing_107.2.2.2.2.2.2.2.2.2.1 ic_1 ?_
  exact W.zret (v := 1) hx hb hr rfl (fun t ht hW => ⟨⟨1, (tx_place_8, aAK, ru_waits_6, uP, pQ, 1, aGA, aJS), rfl, hp, by rw [ht]; exact hP, va_K.moved hW.alike hK, hD⟩, hS.F ht⟩) hS.2.2 eX7_readBehindThing_107.2.2.2.2.2.2.2.2.2.2
noncomputable def ws_X7_readBehindThing_85 (post : Int32 → Int32 → Int32 → Int32 → Int32 → Int32 → Int32 → (Nat → Int32) → (Nat → Int32) → Prop) (rY : Int32) (qM : Nat → Int32) (x2 x3 qJ qB sH uP pQ mW : Int32) (sJ uU : Nat → Int32) : Prop := (¬ x3 = 1 → ws_X7_readBehindThing_105 post rY qM x2 x3 qJ qB sH uP pQ mW sJ uU) ∧ (x3 = 1 → ∀ v_9 : Int32, v_9 = pQ ||| (1 <<< (uP &&& 31)) → ws_X7_readBehindThing_105 post rY qM x2 x3 qJ qB sH uP v_9 mW sJ uU)
set_option maxHeartbeats 4000000 in
set_option maxRecDepth 100000 in
theorem ks_X7_readBehindThing_85 (C0 : gc cX7_readBehindThing (some .boolean) 4 RX7 (dC, dI) (tyl cI cC cZ cB cJ) A p s m args meth c) : ∀ (x2 x3 qJ qB sH uP pQ mW : Int32) (sJ uU : Nat → Int32) (H : Heap) (locs : List Loc) (ls : Array Slot), (ws_X7_readBehindThing_85 post rY qM) x2 x3 qJ qB sH uP pQ mW sJ uU → va_P (dC, dI) classes (wd_X7_readBehindThing cI cC cZ cB cJ xG uT xH uS sW uR qY sY qI qJ rY qM pG qB sH uP pQ mW sJ uU) H → va_D A (wd_X7_readBehindThing cI cC cZ cB cJ xG uT xH uS sW uR qY sY qI qJ rY qM pG qB sH uP pQ mW sJ uU) → va_S A s.heap H locs → lv_has ls 4 [(0, .ref xH), (1, .ref xG), (2, .int x2), (3, .int x3)] → W p l e rm_X7_readBehindThing s m args below meth c H locs 0 0 (MQ below (q_X7_readBehindThing dC dI cI cC cZ cB cJ A xG uT xH uS sW uR qY sY qI rY qM pG post) args s 0 0 A) (F0 m 85 ls []) := by
  obtain ⟨hx, hb, hr, hml, hown, hts, hlocks, hA, hK, hN, tL, tM, hZL, hTL, hZM, hTM, hZX⟩ := id C0
  intro x2 x3 qJ qB sH uP pQ mW sJ uU H locs ls hp hP hD hS hl
  unfold ws_X7_readBehindThing_85 at hp
  refine lv_iload_n hx hb eX7_readBehindThing_83.2.2.1 rfl (lv_at hl 3 rfl) ?_
  refine lv_iconst (v := 1) hx hb eX7_readBehindThing_83.2.2.2.1 ic_1 ?_
  refine lv_icmp_ne (tgt := 105) hx hb eX7_readBehindThing_83.2.2.2.2.1 (by decide) (fun hc => ?_) (fun hc => ?_)
  · have hp := hp.1 hc
    exact ks_X7_readBehindThing_105 C0 x2 x3 qJ qB sH uP pQ mW sJ uU H locs ls hp hP hD hS (lv_sub hl [0, 1, 2, 3] rfl)
  · have hp := hp.2 hc
    refine lv_aload_n hx hb eX7_readBehindThing_83.2.2.2.2.2.1 rfl (lv_at hl 0 rfl) ?_
    refine lv_dup hx hb eX7_readBehindThing_83.2.2.2.2.2.2.1 rfl ?_
    refine va_get (D := (dC, dI)) (ci := 7) (v := .int pQ) (C := RX7) (T := TX7) (N := 11) hx hb hts i_X7 hown hK hP 2 rfl rfl 9 (Nat.le_of_ble_eq_true rfl) (hts _ q_121) (fun _ h9 => h9) rfl eX7_readBehindThing_83.2.2.2.2.2.2.2.1 ?_
    refine lv_iconst (v := 1) hx hb eX7_readBehindThing_83.2.2.2.2.2.2.2.2.1 ic_1 ?_
    refine lv_aload_n hx hb eX7_readBehindThing_83.2.2.2.2.2.2.2.2.2.1 rfl (lv_at hl 0 rfl) ?_
    refine va_get (D := (dC, dI)) (ci := 7) (v := .int uP) (C := RX7) (T := TX7) (N := 11) hx hb hts i_X7 hown hK hP 2 rfl rfl 8 (Nat.le_of_ble_eq_true rfl) (hts _ q_120) (fun _ h9 => h9) rfl eX7_readBehindThing_83.2.2.2.2.2.2.2.2.2.2.1 ?_
    refine lv_ishl hx hb eX7_readBehindThing_83.2.2.2.2.2.2.2.2.2.2.2.1 ?_
    refine lv_ior hx hb eX7_readBehindThing_83.2.2.2.2.2.2.2.2.2.2.2.2.1 ?_
    refine lv_topi (fun v_9 ev_9 => ?_)
    have hp := hp v_9 ev_9
    refine va_put (D := (dC, dI)) (ci := 7) (v := .int v_9) (ty := .int) (C := RX7) (T := TX7) (N := 11) hx hb hts i_X7 tyX7 tyX7_ok nmX7 hown hK hP hD hS 2 rfl rfl 9 (Nat.le_of_ble_eq_true rfl) (hts _ q_121) (fun _ h9 => h9) rfl (tyX7_ok 9 (Nat.le_of_ble_eq_true rfl)) rfl rfl (Nat.le_of_ble_eq_true rfl) eX7_readBehindThing_83.2.2.2.2.2.2.2.2.2.2.2.2.2.1 (fun H locs hP hD hS => ?_)
    have hP : va_P (dC, dI) classes (wd_X7_readBehindThing cI cC cZ cB cJ xG uT xH uS sW uR qY sY qI qJ rY qM pG qB sH uP v_9 mW sJ uU) H := hP
    have hD : va_D A (wd_X7_readBehindThing cI cC cZ cB cJ xG uT xH uS sW uR qY sY qI qJ rY qM pG qB sH uP v_9 mW sJ uU) := hD
    exact ks_X7_readBehindThing_105 C0 x2 x3 qJ qB sH uP v_9 mW sJ uU H locs ls hp hP hD hS (lv_sub hl [0, 1, 2, 3] rfl)
end S_X7_readBehindThing
noncomputable def wp_X7_readBehindThing (post : Int32 → Int32 → Int32 → Int32 → Int32 → Int32 → Int32 → (Nat → Int32) → (Nat → Int32) → Prop) (qJ rY : Int32) (qM : Nat → Int32) (qB sH uP pQ mW : Int32) (sJ uU : Nat → Int32) : Prop := wp_X8_here (fun r_1 => (¬ r_1 = 41 → wp_X7_strength (fun r_2 => (r_2 = 0 → post 0 qJ qB sH uP pQ mW sJ uU) ∧ (¬ r_2 = 0 → (¬ r_2 = 1 → ws_X7_readBehindThing_85 post rY qM r_1 r_2 qJ qB sH uP pQ mW sJ uU) ∧ (r_2 = 1 → ∀ v_10 : Int32, v_10 = pQ >>> (uP &&& 31) → ((v_10 &&& 1) = 0 → ws_X7_readBehindThing_85 post rY qM r_1 r_2 qJ qB sH uP pQ mW sJ uU) ∧ (¬ (v_10 &&& 1) = 0 → post 0 qJ qB sH uP pQ mW sJ uU)))) r_1) ∧ (r_1 = 41 → (¬ uP = 0 → wp_X7_settle (fun aCg ru_waits_12 aAH => ∀ v_14 : Int32, v_14 = ru_waits_12 - 1 → ∀ v_15 : Int32, v_15 = (if 0 < v_14 then v_14 else 0) → ∀ v_16 : Int32, v_16 = uP - 1 → wp_X8_skip (fun aBu => post 1 aBu aCg v_15 v_16 pQ mW sJ aAH) qJ rY) 1 qB sH sJ uU) ∧ (uP = 0 → post 0 qJ qB sH uP pQ mW sJ uU))) qJ rY qM
set_option maxHeartbeats 4000000 in
set_option maxRecDepth 100000 in
theorem c_X7_readBehindThing (l : Launch) (dC : Nat → ClassId) (dI : Nat → Nat → Nat) (cI cC cZ cB cJ : ClassId) (xG uT xH uS sW uR qY sY sz : Nat) (qI qJ rY : Int32) (qM : Nat → Int32) (pG qB sH uP pQ mW : Int32) (sJ uU : Nat → Int32) (post : Int32 → Int32 → Int32 → Int32 → Int32 → Int32 → Int32 → (Nat → Int32) → (Nat → Int32) → Prop) (hw : wp_X7_readBehindThing post qJ rY qM qB sH uP pQ mW sJ uU) : Met l yX7_readBehindThing (gw yX7_readBehindThing cX7_readBehindThing 4 (some .boolean)) rm_X7_readBehindThing (va_Pc [.ref xH, .ref xG] (gPre (dC, dI) (tyl cI cC cZ cB cJ) (wd_X7_readBehindThing cI cC cZ cB cJ xG uT xH uS sW uR qY sY qI qJ rY qM pG qB sH uP pQ mW sJ uU) sz)) (q_X7_readBehindThing dC dI cI cC cZ cB cJ (va_A (wd_X7_readBehindThing cI cC cZ cB cJ xG uT xH uS sW uR qY sY qI qJ rY qM pG qB sH uP pQ mW sJ uU) sz) xG uT xH uS sW uR qY sY qI rY qM pG post) 0 0 (va_A (wd_X7_readBehindThing cI cC cZ cB cJ xG uT xH uS sW uR qY sY qI qJ rY qM pG qB sH uP pQ mW sJ uU) sz) := by
  refine g_enter (own := RX7) (dC, dI) (tyl cI cC cZ cB cJ) (wd_X7_readBehindThing cI cC cZ cB cJ xG uT xH uS sW uR qY sY qI qJ rY qM pG qB sH uP pQ mW sJ uU) sz [.ref xH, .ref xG] (fun A => q_X7_readBehindThing dC dI cI cC cZ cB cJ A xG uT xH uS sW uR qY sY qI rY qM pG post) pn_RX7 rfl (Nat.le_of_ble_eq_true rfl) ?_
  intro p e s m args below meth c A H locs ls C0 hP hD hS hl
  have hl : lv_has ls 4 [(0, .ref xH), (1, .ref xG)] := hl
  obtain ⟨hx, hb, hr, hml, hown, hts, hlocks, hA, hK, hN, tL, tM, hZL, hTL, hZM, hTM, hZX⟩ := id C0
  have hp := hw
  unfold wp_X7_readBehindThing at hp
  refine lv_aload_n hx hb eX7_readBehindThing_0.1 rfl (lv_at hl 1 rfl) ?_
  have hm := mgk (wc := (wd_X8_here cI cC cZ cB cJ xG uT qI qJ rY qM)) hP aIv 5 rfl rfl rfl
  refine g_calli hP hD hS hA (mixT aIv) (mixF aIv) hm.1 hm.2 (nd_F _) (dis_g _) (g_runV (As := []) (rest := []) C0 hP hD hS (mixT aIv) hm.1 (nd_T _) 0 8 rfl rfl (c_X8_here l dC dI cI cC cZ cB cJ xG uT H.size qI qJ rY qM _ hp) q_33 q_113 q_34 q_35 q_5 h_X8_here rfl rfl ⟨Nat.le_of_ble_eq_true rfl, Nat.le_of_ble_eq_true rfl⟩ rfl rfl hl.1 rfl (lv_room (Nat.le_of_ble_eq_true rfl)) eX7_readBehindThing_0.2.1 ⟨Nat.zero_le _, Nat.zero_le _⟩) (fun r_1 u H locs hp hP hD hS => ?_)
  have hPD := PDm (ws' := (wd_X7_readBehindThing cI cC cZ cB cJ xG uT xH uS sW uR qY sY qI qJ rY qM pG qB sH uP pQ mW sJ uU)) hP hD 5 rfl rfl rfl
  have hP := hPD.1
  have hD := hPD.2
  refine lv_istore_n (lv' := [(2, .int r_1), (0, .ref xH), (1, .ref xG)]) hx hb eX7_readBehindThing_0.2.2.1 rfl hl (by decide) rfl (fun ls hl => ?_)
  refine lv_iload_n hx hb eX7_readBehindThing_0.2.2.2.1 rfl (lv_at hl 0 rfl) ?_
  refine lv_bipush (v := 41) hx hb eX7_readBehindThing_0.2.2.2.2.1 bp_41 ?_
  refine lv_icmp_ne (tgt := 55) hx hb eX7_readBehindThing_0.2.2.2.2.2.1 (by decide) (fun hc => ?_) (fun hc => ?_)
  · have hp := hp.1 hc
    refine lv_iload_n hx hb eX7_readBehindThing_55.1 rfl (lv_at hl 0 rfl) ?_
    have hm := mgk (wc := (wd_X7_strength cI cC cZ cB cJ)) hP aE2 5 rfl rfl rfl
    refine g_calli hP hD hS hA (mixT aE2) (mixF aE2) hm.1 hm.2 (nd_F _) (dis_g _) (g_runS (As := [.int r_1]) (rest := []) C0 hP hD hS (mixT aE2) hm.1 (nd_T _) (c_X7_strength l dC dI cI cC cZ cB cJ H.size r_1 _ hp) q_126 q_128 q_127 q_108 h_X7_strength rfl rfl ⟨Nat.le_of_ble_eq_true rfl, Nat.le_of_ble_eq_true rfl⟩ rfl rfl hl.1 rfl (lv_room (Nat.le_of_ble_eq_true rfl)) eX7_readBehindThing_55.2.1 ⟨Nat.zero_le _, Nat.zero_le _⟩) (fun r_2 u H locs hp hP hD hS => ?_)
    have hPD := PDm (ws' := (wd_X7_readBehindThing cI cC cZ cB cJ xG uT xH uS sW uR qY sY qI qJ rY qM pG qB sH uP pQ mW sJ uU)) hP hD 5 rfl rfl rfl
    have hP := hPD.1
    have hD := hPD.2
    refine lv_istore_n (lv' := [(3, .int r_2), (2, .int r_1), (0, .ref xH), (1, .ref xG)]) hx hb eX7_readBehindThing_55.2.2.1 rfl hl (by decide) rfl (fun ls hl => ?_)
    refine lv_iload_n hx hb eX7_readBehindThing_55.2.2.2.1 rfl (lv_at hl 0 rfl) ?_
    refine lv_if_eq (tgt := 83) hx hb eX7_readBehindThing_55.2.2.2.2.1 (by decide) (fun hc => ?_) (fun hc => ?_)
    · have hp := hp.1 hc
      refine lv_iconst (v := 0) hx hb eX7_readBehindThing_83.1 ic_0 ?_
      exact W.zret (v := 0) hx hb hr rfl (fun t ht hW => ⟨⟨0, (qJ, qB, sH, uP, pQ, mW, sJ, uU), rfl, hp, by rw [ht]; exact hP, va_K.moved hW.alike hK, hD⟩, hS.F ht⟩) hS.2.2 eX7_readBehindThing_83.2.1
    · have hp := hp.2 hc
      refine lv_iload_n hx hb eX7_readBehindThing_55.2.2.2.2.2.1 rfl (lv_at hl 0 rfl) ?_
      refine lv_iconst (v := 1) hx hb eX7_readBehindThing_55.2.2.2.2.2.2.1 ic_1 ?_
      refine lv_icmp_ne (tgt := 85) hx hb eX7_readBehindThing_55.2.2.2.2.2.2.2.1 (by decide) (fun hc => ?_) (fun hc => ?_)
      · have hp := hp.1 hc
        exact ks_X7_readBehindThing_85 C0 r_1 r_2 qJ qB sH uP pQ mW sJ uU H locs ls hp hP hD hS (lv_sub hl [2, 3, 1, 0] rfl)
      · have hp := hp.2 hc
        refine lv_aload_n hx hb eX7_readBehindThing_55.2.2.2.2.2.2.2.2.1 rfl (lv_at hl 2 rfl) ?_
        refine va_get (D := (dC, dI)) (ci := 7) (v := .int pQ) (C := RX7) (T := TX7) (N := 11) hx hb hts i_X7 hown hK hP 2 rfl rfl 9 (Nat.le_of_ble_eq_true rfl) (hts _ q_121) (fun _ h9 => h9) rfl eX7_readBehindThing_55.2.2.2.2.2.2.2.2.2.1 ?_
        refine lv_aload_n hx hb eX7_readBehindThing_55.2.2.2.2.2.2.2.2.2.2.1 rfl (lv_at hl 2 rfl) ?_
        refine va_get (D := (dC, dI)) (ci := 7) (v := .int uP) (C := RX7) (T := TX7) (N := 11) hx hb hts i_X7 hown hK hP 2 rfl rfl 8 (Nat.le_of_ble_eq_true rfl) (hts _ q_120) (fun _ h9 => h9) rfl eX7_readBehindThing_55.2.2.2.2.2.2.2.2.2.2.2.1 ?_
        refine lv_ishr hx hb eX7_readBehindThing_55.2.2.2.2.2.2.2.2.2.2.2.2.1 ?_
        refine lv_topi (fun v_10 ev_10 => ?_)
        have hp := hp v_10 ev_10
        refine lv_iconst (v := 1) hx hb eX7_readBehindThing_55.2.2.2.2.2.2.2.2.2.2.2.2.2.1 ic_1 ?_
        refine lv_iand hx hb eX7_readBehindThing_55.2.2.2.2.2.2.2.2.2.2.2.2.2.2.1 ?_
        refine lv_if_eq (tgt := 85) hx hb eX7_readBehindThing_55.2.2.2.2.2.2.2.2.2.2.2.2.2.2.2 (by decide) (fun hc => ?_) (fun hc => ?_)
        · have hp := hp.1 hc
          exact ks_X7_readBehindThing_85 C0 r_1 r_2 qJ qB sH uP pQ mW sJ uU H locs ls hp hP hD hS (lv_sub hl [2, 3, 1, 0] rfl)
        · have hp := hp.2 hc
          refine lv_iconst (v := 0) hx hb eX7_readBehindThing_83.1 ic_0 ?_
          exact W.zret (v := 0) hx hb hr rfl (fun t ht hW => ⟨⟨0, (qJ, qB, sH, uP, pQ, mW, sJ, uU), rfl, hp, by rw [ht]; exact hP, va_K.moved hW.alike hK, hD⟩, hS.F ht⟩) hS.2.2 eX7_readBehindThing_83.2.1
  · have hp := hp.2 hc
    refine lv_aload_n hx hb eX7_readBehindThing_0.2.2.2.2.2.2.1 rfl (lv_at hl 1 rfl) ?_
    refine va_get (D := (dC, dI)) (ci := 7) (v := .int uP) (C := RX7) (T := TX7) (N := 11) hx hb hts i_X7 hown hK hP 2 rfl rfl 8 (Nat.le_of_ble_eq_true rfl) (hts _ q_120) (fun _ h9 => h9) rfl eX7_readBehindThing_0.2.2.2.2.2.2.2.1 ?_
    refine lv_if_ne (tgt := 20) hx hb eX7_readBehindThing_0.2.2.2.2.2.2.2.2.1 (by decide) (fun hc => ?_) (fun hc => ?_)
    · have hp := hp.1 hc
      refine lv_aload_n hx hb eX7_readBehindThing_0.2.2.2.2.2.2.2.2.2.2.2.1 rfl (lv_at hl 1 rfl) ?_
      refine lv_iconst (v := 1) hx hb eX7_readBehindThing_0.2.2.2.2.2.2.2.2.2.2.2.2.1 ic_1 ?_
      have hm := mgk (wc := (wd_X7_settle cI cC cZ cB cJ xH uS sW uR qY sY pG qB sH uP pQ mW sJ uU)) hP mk_22 5 rfl rfl rfl
      refine g_callv hP hD hS hA (mixT mk_22) (mixF mk_22) hm.1 hm.2 (nd_F _) (dis_g _) (g_runV (As := [.int 1]) (rest := []) C0 hP hD hS (mixT mk_22) hm.1 (nd_T _) 2 7 rfl rfl (c_X7_settle l dC dI cI cC cZ cB cJ xH uS sW uR qY sY H.size 1 pG qB sH uP pQ mW sJ uU _ hp) q_129 q_132 q_130 q_131 q_108 h_X7_settle rfl rfl ⟨Nat.le_of_ble_eq_true rfl, Nat.le_of_ble_eq_true rfl⟩ rfl rfl hl.1 rfl (lv_room (Nat.le_of_ble_eq_true rfl)) eX7_readBehindThing_0.2.2.2.2.2.2.2.2.2.2.2.2.2.1 ⟨Nat.zero_le _, Nat.zero_le _⟩) (fun u H locs hp hP hD hS => ?_)
      obtain ⟨aCg, ru_waits_12, aAH⟩ := u
      have hPD := PDm (ws' := (wd_X7_readBehindThing cI cC cZ cB cJ xG uT xH uS sW uR qY sY qI qJ rY qM pG aCg ru_waits_12 uP pQ mW sJ aAH)) hP hD 5 rfl rfl rfl
      have hP := hPD.1
      have hD := hPD.2
      refine lv_aload_n hx hb eX7_readBehindThing_0.2.2.2.2.2.2.2.2.2.2.2.2.2.2.1 rfl (lv_at hl 1 rfl) ?_
      refine lv_iconst (v := 0) hx hb eX7_readBehindThing_0.2.2.2.2.2.2.2.2.2.2.2.2.2.2.2 ic_0 ?_
      refine lv_aload_n hx hb eX7_readBehindThing_27.1 rfl (lv_at hl 1 rfl) ?_
      refine va_get (D := (dC, dI)) (ci := 7) (v := .int ru_waits_12) (C := RX7) (T := TX7) (N := 11) hx hb hts i_X7 hown hK hP 2 rfl rfl 7 (Nat.le_of_ble_eq_true rfl) (hts _ q_102) (fun _ h9 => h9) rfl eX7_readBehindThing_27.2.1 ?_
      refine lv_iconst (v := 1) hx hb eX7_readBehindThing_27.2.2.1 ic_1 ?_
      refine lv_isub hx hb eX7_readBehindThing_27.2.2.2.1 ?_
      refine lv_topi (fun v_14 ev_14 => ?_)
      have hp := hp v_14 ev_14
      refine va_mmax hx hb (by rw [hml]; exact hl.1.symm) hown (hts _ q_133) (hts _ q_134) (hts _ q_16) (hts _ q_135) (Nat.le_of_ble_eq_true rfl) (Nat.le_of_ble_eq_true rfl) (Nat.zero_le _) (Nat.zero_le _) eX7_readBehindThing_27.2.2.2.2.1 ?_
      refine lv_topi (fun v_15 ev_15 => ?_)
      have hp := hp v_15 ev_15
      refine va_put (D := (dC, dI)) (ci := 7) (v := .int v_15) (ty := .int) (C := RX7) (T := TX7) (N := 11) hx hb hts i_X7 tyX7 tyX7_ok nmX7 hown hK hP hD hS 2 rfl rfl 7 (Nat.le_of_ble_eq_true rfl) (hts _ q_102) (fun _ h9 => h9) rfl (tyX7_ok 7 (Nat.le_of_ble_eq_true rfl)) rfl rfl (Nat.le_of_ble_eq_true rfl) eX7_readBehindThing_27.2.2.2.2.2.1 (fun H locs hP hD hS => ?_)
      have hP : va_P (dC, dI) classes (wd_X7_readBehindThing cI cC cZ cB cJ xG uT xH uS sW uR qY sY qI qJ rY qM pG aCg v_15 uP pQ mW sJ aAH) H := hP
      have hD : va_D A (wd_X7_readBehindThing cI cC cZ cB cJ xG uT xH uS sW uR qY sY qI qJ rY qM pG aCg v_15 uP pQ mW sJ aAH) := hD
      refine lv_aload_n hx hb eX7_readBehindThing_27.2.2.2.2.2.2.1 rfl (lv_at hl 1 rfl) ?_
      refine lv_dup hx hb eX7_readBehindThing_27.2.2.2.2.2.2.2.1 rfl ?_
      refine va_get (D := (dC, dI)) (ci := 7) (v := .int uP) (C := RX7) (T := TX7) (N := 11) hx hb hts i_X7 hown hK hP 2 rfl rfl 8 (Nat.le_of_ble_eq_true rfl) (hts _ q_120) (fun _ h9 => h9) rfl eX7_readBehindThing_27.2.2.2.2.2.2.2.2.1 ?_
      refine lv_iconst (v := 1) hx hb eX7_readBehindThing_27.2.2.2.2.2.2.2.2.2.1 ic_1 ?_
      refine lv_isub hx hb eX7_readBehindThing_27.2.2.2.2.2.2.2.2.2.2.1 ?_
      refine lv_topi (fun v_16 ev_16 => ?_)
      have hp := hp v_16 ev_16
      refine va_put (D := (dC, dI)) (ci := 7) (v := .int v_16) (ty := .int) (C := RX7) (T := TX7) (N := 11) hx hb hts i_X7 tyX7 tyX7_ok nmX7 hown hK hP hD hS 2 rfl rfl 8 (Nat.le_of_ble_eq_true rfl) (hts _ q_120) (fun _ h9 => h9) rfl (tyX7_ok 8 (Nat.le_of_ble_eq_true rfl)) rfl rfl (Nat.le_of_ble_eq_true rfl) eX7_readBehindThing_27.2.2.2.2.2.2.2.2.2.2.2.1 (fun H locs hP hD hS => ?_)
      have hP : va_P (dC, dI) classes (wd_X7_readBehindThing cI cC cZ cB cJ xG uT xH uS sW uR qY sY qI qJ rY qM pG aCg v_15 v_16 pQ mW sJ aAH) H := hP
      have hD : va_D A (wd_X7_readBehindThing cI cC cZ cB cJ xG uT xH uS sW uR qY sY qI qJ rY qM pG aCg v_15 v_16 pQ mW sJ aAH) := hD
      refine lv_aload_n hx hb eX7_readBehindThing_27.2.2.2.2.2.2.2.2.2.2.2.2.1 rfl (lv_at hl 2 rfl) ?_
      have hm := mgk (wc := (wd_X8_skip cI cC cZ cB cJ xG uT qI qJ rY)) hP mk_16 5 rfl rfl rfl
      refine g_callv hP hD hS hA (mixT mk_16) (mixF mk_16) hm.1 hm.2 (nd_F _) (dis_g _) (g_runV (As := []) (rest := []) C0 hP hD hS (mixT mk_16) hm.1 (nd_T _) 0 8 rfl rfl (c_X8_skip l dC dI cI cC cZ cB cJ xG uT H.size qI qJ rY _ hp) q_29 q_115 q_30 q_31 q_5 h_X8_skip rfl rfl ⟨Nat.le_of_ble_eq_true rfl, Nat.le_of_ble_eq_true rfl⟩ rfl rfl hl.1 rfl (lv_room (Nat.le_of_ble_eq_true rfl)) eX7_readBehindThing_27.2.2.2.2.2.2.2.2.2.2.2.2.2.1 ⟨Nat.zero_le _, Nat.zero_le _⟩) (fun u H locs hp hP hD hS => ?_)
      obtain ⟨aBu, rfl⟩ : ∃ z, z = u := ⟨_, rfl⟩
      have hPD := PDm (ws' := (wd_X7_readBehindThing cI cC cZ cB cJ xG uT xH uS sW uR qY sY qI aBu rY qM pG aCg v_15 v_16 pQ mW sJ aAH)) hP hD 5 rfl rfl rfl
      have hP := hPD.1
      have hD := hPD.2
      refine lv_iconst (v := 1) hx hb eX7_readBehindThing_27.2.2.2.2.2.2.2.2.2.2.2.2.2.2.1 ic_1 ?_
      exact W.zret (v := 1) hx hb hr rfl (fun t ht hW => ⟨⟨1, (aBu, aCg, v_15, v_16, pQ, mW, sJ, aAH), rfl, hp, by rw [ht]; exact hP, va_K.moved hW.alike hK, hD⟩, hS.F ht⟩) hS.2.2 eX7_readBehindThing_27.2.2.2.2.2.2.2.2.2.2.2.2.2.2.2
    · have hp := hp.2 hc
      refine lv_iconst (v := 0) hx hb eX7_readBehindThing_0.2.2.2.2.2.2.2.2.2.1 ic_0 ?_
      exact W.zret (v := 0) hx hb hr rfl (fun t ht hW => ⟨⟨0, (qJ, qB, sH, uP, pQ, mW, sJ, uU), rfl, hp, by rw [ht]; exact hP, va_K.moved hW.alike hK, hD⟩, hS.F ht⟩) hS.2.2 eX7_readBehindThing_0.2.2.2.2.2.2.2.2.2.2.1
noncomputable abbrev wd_X7_read (cI cC cZ cB cJ : ClassId) (xG uT xH uS sW uR qY sY : Nat) (qI qJ rY : Int32) (qM : Nat → Int32) (pG qB sH uP pQ mW : Int32) (sJ oF uU : Nat → Int32) : va_W := [(xG, .inr (8, [.ref uT, .int qI, .int qJ, .int rY])), (uT, .inl (cC, 80, .inl qM)), (xH, .inr (7, [.ref uS, .ref sW, .ref uR, .ref qY, .ref sY, .int pG, .int qB, .int sH, .int uP, .int pQ, .int mW])), (sW, .inl (cI, 40, .inl sJ)), (qY, .inl (cI, 40, .inl oF)), (sY, .inl (cI, 40, .inl uU))]
noncomputable abbrev q_X7_read (dC : Nat → ClassId) (dI : Nat → Nat → Nat) (cI cC cZ cB cJ : ClassId) (A : Nat → Prop) (xG uT xH uS sW uR : Nat) (qI rY : Int32) (qM : Nat → Int32) (post : Int32 → Int32 → Int32 → Int32 → Int32 → Int32 → Int32 → Int32 → (Nat → Int32) → (Nat → Int32) → (Nat → Int32) → Prop) : Array Value → State → Outcome → State → Prop := va_Qi (fun (r : Int32) (u : Int32 × Int32 × Int32 × Int32 × Int32 × Int32 × Int32 × (Nat → Int32) × (Nat → Int32) × (Nat → Int32) × Nat × Nat) => post r u.1 u.2.1 u.2.2.1 u.2.2.2.1 u.2.2.2.2.1 u.2.2.2.2.2.1 u.2.2.2.2.2.2.1 u.2.2.2.2.2.2.2.1 u.2.2.2.2.2.2.2.2.1 u.2.2.2.2.2.2.2.2.2.1) (fun u t => gB (dC, dI) (tyl cI cC cZ cB cJ) A (wd_X7_read cI cC cZ cB cJ xG uT xH uS sW uR u.2.2.2.2.2.2.2.2.2.2.2 u.2.2.2.2.2.2.2.2.2.2.1 qI u.1 rY qM u.2.1 u.2.2.1 u.2.2.2.1 u.2.2.2.2.1 u.2.2.2.2.2.1 u.2.2.2.2.2.2.1 u.2.2.2.2.2.2.2.1 u.2.2.2.2.2.2.2.2.1 u.2.2.2.2.2.2.2.2.2.1) t) A
noncomputable abbrev rm_X7_read : Room := { frames := 6, cells := 0, slots := 0, locals := 156 }
section S_X7_read
variable {p : Program} {l : Launch} {e : Env} {s : State} {m : MethodId} {args : Array Value} {below : List Frame} {meth : Method} {c : Code} {dC : Nat → ClassId} {dI : Nat → Nat → Nat} {cI cC cZ cB cJ : ClassId} {A : Nat → Prop} {xG uT xH uS sW uR : Nat} {qI rY : Int32} {qM : Nat → Int32} {post : Int32 → Int32 → Int32 → Int32 → Int32 → Int32 → Int32 → Int32 → (Nat → Int32) → (Nat → Int32) → (Nat → Int32) → Prop}
noncomputable def ws_X7_read_75 (post : Int32 → Int32 → Int32 → Int32 → Int32 → Int32 → Int32 → Int32 → (Nat → Int32) → (Nat → Int32) → (Nat → Int32) → Prop) (qI rY : Int32) (qM : Nat → Int32) (qJ pG qB sH uP pQ mW : Int32) (sJ oF uU : Nat → Int32) : Prop := (¬ mW = 0 → post 0 qJ pG qB sH uP pQ mW sJ oF uU) ∧ (mW = 0 → (0 < uP → post 0 qJ pG qB sH uP pQ mW sJ oF uU) ∧ (¬ 0 < uP → wp_X8_isThrough (fun r_1 => (¬ r_1 = 0 → wp_X7_settle (fun aAC aEr aBh => post 1 qJ aAC aAC aEr uP pQ mW sJ aBh oF) 1 qB sH sJ uU) ∧ (r_1 = 0 → post 0 qJ pG qB sH uP pQ mW sJ oF uU)) qI qJ))
set_option maxHeartbeats 4000000 in
set_option maxRecDepth 100000 in
theorem ks_X7_read_75 (C0 : gc cX7_read (some .boolean) 3 RX7 (dC, dI) (tyl cI cC cZ cB cJ) A p s m args meth c) : ∀ (qJ pG qB sH uP pQ mW : Int32) (sJ oF uU : Nat → Int32) (sY qY : Nat) (H : Heap) (locs : List Loc) (ls : Array Slot), (ws_X7_read_75 post qI rY qM) qJ pG qB sH uP pQ mW sJ oF uU → va_P (dC, dI) classes (wd_X7_read cI cC cZ cB cJ xG uT xH uS sW uR qY sY qI qJ rY qM pG qB sH uP pQ mW sJ oF uU) H → va_D A (wd_X7_read cI cC cZ cB cJ xG uT xH uS sW uR qY sY qI qJ rY qM pG qB sH uP pQ mW sJ oF uU) → va_S A s.heap H locs → lv_has ls 3 [(0, .ref xH), (1, .ref xG)] → W p l e rm_X7_read s m args below meth c H locs 0 0 (MQ below (q_X7_read dC dI cI cC cZ cB cJ A xG uT xH uS sW uR qI rY qM post) args s 0 0 A) (F0 m 75 ls []) := by
  obtain ⟨hx, hb, hr, hml, hown, hts, hlocks, hA, hK, hN, tL, tM, hZL, hTL, hZM, hTM, hZX⟩ := id C0
  intro qJ pG qB sH uP pQ mW sJ oF uU sY qY H locs ls hp hP hD hS hl
  unfold ws_X7_read_75 at hp
  refine lv_aload_n hx hb eX7_read_59.2.2.2.2.2.2.2.2.1 rfl (lv_at hl 0 rfl) ?_
  refine va_get (D := (dC, dI)) (ci := 7) (v := .int mW) (C := RX7) (T := TX7) (N := 11) hx hb hts i_X7 hown hK hP 2 rfl rfl 10 (Nat.le_of_ble_eq_true rfl) (hts _ q_112) (fun _ h9 => h9) rfl eX7_read_59.2.2.2.2.2.2.2.2.2.1 ?_
  refine lv_if_ne (tgt := 96) hx hb eX7_read_59.2.2.2.2.2.2.2.2.2.2.1 (by decide) (fun hc => ?_) (fun hc => ?_)
  · have hp := hp.1 hc
    refine lv_iconst (v := 0) hx hb eX7_read_93.2.1 ic_0 ?_
    exact W.zret (v := 0) hx hb hr rfl (fun t ht hW => ⟨⟨0, (qJ, pG, qB, sH, uP, pQ, mW, sJ, oF, uU, sY, qY), rfl, hp, by rw [ht]; exact hP, va_K.moved hW.alike hK, hD⟩, hS.F ht⟩) hS.2.2 eX7_read_93.2.2.1
  · have hp := hp.2 hc
    refine lv_aload_n hx hb eX7_read_59.2.2.2.2.2.2.2.2.2.2.2.1 rfl (lv_at hl 0 rfl) ?_
    refine va_get (D := (dC, dI)) (ci := 7) (v := .int uP) (C := RX7) (T := TX7) (N := 11) hx hb hts i_X7 hown hK hP 2 rfl rfl 8 (Nat.le_of_ble_eq_true rfl) (hts _ q_120) (fun _ h9 => h9) rfl eX7_read_59.2.2.2.2.2.2.2.2.2.2.2.2.1 ?_
    refine lv_if_gt (tgt := 96) hx hb eX7_read_59.2.2.2.2.2.2.2.2.2.2.2.2.2.1 (by decide) (fun hc => ?_) (fun hc => ?_)
    · have hp := hp.1 hc
      refine lv_iconst (v := 0) hx hb eX7_read_93.2.1 ic_0 ?_
      exact W.zret (v := 0) hx hb hr rfl (fun t ht hW => ⟨⟨0, (qJ, pG, qB, sH, uP, pQ, mW, sJ, oF, uU, sY, qY), rfl, hp, by rw [ht]; exact hP, va_K.moved hW.alike hK, hD⟩, hS.F ht⟩) hS.2.2 eX7_read_93.2.2.1
    · have hp := hp.2 hc
      refine lv_aload_n hx hb eX7_read_59.2.2.2.2.2.2.2.2.2.2.2.2.2.2.1 rfl (lv_at hl 1 rfl) ?_
      have hm := mgk (wc := (wd_X8_isThrough cI cC cZ cB cJ xG uT qI qJ rY)) hP mk_24 6 rfl rfl rfl
      refine g_calli hP hD hS hA (mixT mk_24) (mixF mk_24) hm.1 hm.2 (nd_F _) (dis_g _) (g_runV (As := []) (rest := []) C0 hP hD hS (mixT mk_24) hm.1 (nd_T _) 0 8 rfl rfl (c_X8_isThrough l dC dI cI cC cZ cB cJ xG uT H.size qI qJ rY _ hp) q_97 q_136 q_98 q_99 q_5 h_X8_isThrough rfl rfl ⟨Nat.le_of_ble_eq_true rfl, Nat.le_of_ble_eq_true rfl⟩ rfl rfl hl.1 rfl (lv_room (Nat.le_of_ble_eq_true rfl)) eX7_read_59.2.2.2.2.2.2.2.2.2.2.2.2.2.2.2 ⟨Nat.zero_le _, Nat.zero_le _⟩) (fun r_1 u H locs hp hP hD hS => ?_)
      have hPD := PDm (ws' := (wd_X7_read cI cC cZ cB cJ xG uT xH uS sW uR qY sY qI qJ rY qM pG qB sH uP pQ mW sJ oF uU)) hP hD 6 rfl rfl rfl
      have hP := hPD.1
      have hD := hPD.2
      refine lv_if_ne (tgt := 98) hx hb eX7_read_93.1 (by decide) (fun hc => ?_) (fun hc => ?_)
      · have hp := hp.1 hc
        refine lv_aload_n hx hb eX7_read_93.2.2.2.1 rfl (lv_at hl 0 rfl) ?_
        refine lv_iconst (v := 1) hx hb eX7_read_93.2.2.2.2.1 ic_1 ?_
        have hm := mgk (wc := (wd_X7_settle cI cC cZ cB cJ xH uS sW uR qY sY pG qB sH uP pQ mW sJ uU)) hP mk_25 6 rfl rfl rfl
        refine g_callv hP hD hS hA (mixT mk_25) (mixF mk_25) hm.1 hm.2 (nd_F _) (dis_g _) (g_runV (As := [.int 1]) (rest := []) C0 hP hD hS (mixT mk_25) hm.1 (nd_T _) 2 7 rfl rfl (c_X7_settle l dC dI cI cC cZ cB cJ xH uS sW uR qY sY H.size 1 pG qB sH uP pQ mW sJ uU _ hp) q_129 q_132 q_130 q_131 q_108 h_X7_settle rfl rfl ⟨Nat.le_of_ble_eq_true rfl, Nat.le_of_ble_eq_true rfl⟩ rfl rfl hl.1 rfl (lv_room (Nat.le_of_ble_eq_true rfl)) eX7_read_93.2.2.2.2.2.1 ⟨Nat.zero_le _, Nat.zero_le _⟩) (fun u H locs hp hP hD hS => ?_)
        obtain ⟨aAC, aEr, aBh⟩ := u
        have hPD := PDm (ws' := (wd_X7_read cI cC cZ cB cJ xG uT xH uS sW uR qY sY qI qJ rY qM pG aAC aEr uP pQ mW sJ oF aBh)) hP hD 6 rfl rfl rfl
        have hP := hPD.1
        have hD := hPD.2
        refine lv_aload_n hx hb eX7_read_93.2.2.2.2.2.2.1 rfl (lv_at hl 0 rfl) ?_
        refine va_get (D := (dC, dI)) (ci := 7) (v := .ref qY) (C := RX7) (T := TX7) (N := 11) hx hb hts i_X7 hown hK hP 2 rfl rfl 3 (Nat.le_of_ble_eq_true rfl) (hts _ q_137) (fun _ h9 => h9) rfl eX7_read_93.2.2.2.2.2.2.2.1 ?_
        refine lv_astore_n (lv' := [(2, .ref qY), (0, .ref xH), (1, .ref xG)]) hx hb eX7_read_93.2.2.2.2.2.2.2.2.1 rfl hl (by decide) rfl (fun ls hl => ?_)
        refine lv_aload_n hx hb eX7_read_93.2.2.2.2.2.2.2.2.2.1 rfl (lv_at hl 1 rfl) ?_
        refine lv_aload_n hx hb eX7_read_93.2.2.2.2.2.2.2.2.2.2.1 rfl (lv_at hl 1 rfl) ?_
        refine va_get (D := (dC, dI)) (ci := 7) (v := .ref sY) (C := RX7) (T := TX7) (N := 11) hx hb hts i_X7 hown hK hP 2 rfl rfl 4 (Nat.le_of_ble_eq_true rfl) (hts _ q_105) (fun _ h9 => h9) rfl eX7_read_93.2.2.2.2.2.2.2.2.2.2.2.1 ?_
        refine va_put (D := (dC, dI)) (ci := 7) (v := .ref sY) (ty := .array .int) (C := RX7) (T := TX7) (N := 11) hx hb hts i_X7 tyX7 tyX7_ok nmX7 hown hK hP hD hS 2 rfl rfl 3 (Nat.le_of_ble_eq_true rfl) (hts _ q_137) (fun _ h9 => h9) rfl (tyX7_ok 3 (Nat.le_of_ble_eq_true rfl)) rfl rfl (Nat.le_of_ble_eq_true rfl) eX7_read_93.2.2.2.2.2.2.2.2.2.2.2.2.1 (fun H locs hP hD hS => ?_)
        have hP : va_P (dC, dI) classes [(xG, .inr (8, [.ref uT, .int qI, .int qJ, .int rY])), (uT, .inl (cC, 80, .inl qM)), (xH, .inr (7, [.ref uS, .ref sW, .ref uR, .ref sY, .ref sY, .int pG, .int aAC, .int aEr, .int uP, .int pQ, .int mW])), (sW, .inl (cI, 40, .inl sJ)), (qY, .inl (cI, 40, .inl oF)), (sY, .inl (cI, 40, .inl aBh))] H := hP
        have hD : va_D A [(xG, .inr (8, [.ref uT, .int qI, .int qJ, .int rY])), (uT, .inl (cC, 80, .inl qM)), (xH, .inr (7, [.ref uS, .ref sW, .ref uR, .ref sY, .ref sY, .int pG, .int aAC, .int aEr, .int uP, .int pQ, .int mW])), (sW, .inl (cI, 40, .inl sJ)), (qY, .inl (cI, 40, .inl oF)), (sY, .inl (cI, 40, .inl aBh))] := hD
        refine lv_aload_n hx hb eX7_read_93.2.2.2.2.2.2.2.2.2.2.2.2.2.1 rfl (lv_at hl 1 rfl) ?_
        refine lv_aload_n hx hb eX7_read_93.2.2.2.2.2.2.2.2.2.2.2.2.2.2.1 rfl (lv_at hl 0 rfl) ?_
        refine va_put (D := (dC, dI)) (ci := 7) (v := .ref qY) (ty := .array .int) (C := RX7) (T := TX7) (N := 11) hx hb hts i_X7 tyX7 tyX7_ok nmX7 hown hK hP hD hS 2 rfl rfl 4 (Nat.le_of_ble_eq_true rfl) (hts _ q_105) (fun _ h9 => h9) rfl (tyX7_ok 4 (Nat.le_of_ble_eq_true rfl)) rfl rfl (Nat.le_of_ble_eq_true rfl) eX7_read_93.2.2.2.2.2.2.2.2.2.2.2.2.2.2.2 (fun H locs hP hD hS => ?_)
        have hP : va_P (dC, dI) classes [(xG, .inr (8, [.ref uT, .int qI, .int qJ, .int rY])), (uT, .inl (cC, 80, .inl qM)), (xH, .inr (7, [.ref uS, .ref sW, .ref uR, .ref sY, .ref qY, .int pG, .int aAC, .int aEr, .int uP, .int pQ, .int mW])), (sW, .inl (cI, 40, .inl sJ)), (qY, .inl (cI, 40, .inl oF)), (sY, .inl (cI, 40, .inl aBh))] H := hP
        have hD : va_D A [(xG, .inr (8, [.ref uT, .int qI, .int qJ, .int rY])), (uT, .inl (cC, 80, .inl qM)), (xH, .inr (7, [.ref uS, .ref sW, .ref uR, .ref sY, .ref qY, .int pG, .int aAC, .int aEr, .int uP, .int pQ, .int mW])), (sW, .inl (cI, 40, .inl sJ)), (qY, .inl (cI, 40, .inl oF)), (sY, .inl (cI, 40, .inl aBh))] := hD
        refine lv_aload_n hx hb eX7_read_121.1 rfl (lv_at hl 1 rfl) ?_
        refine lv_aload_n hx hb eX7_read_121.2.1 rfl (lv_at hl 1 rfl) ?_
        refine va_get (D := (dC, dI)) (ci := 7) (v := .int aAC) (C := RX7) (T := TX7) (N := 11) hx hb hts i_X7 hown hK hP 2 rfl rfl 6 (Nat.le_of_ble_eq_true rfl) (hts _ q_104) (fun _ h9 => h9) rfl eX7_read_121.2.2.1 ?_
        refine va_put (D := (dC, dI)) (ci := 7) (v := .int aAC) (ty := .int) (C := RX7) (T := TX7) (N := 11) hx hb hts i_X7 tyX7 tyX7_ok nmX7 hown hK hP hD hS 2 rfl rfl 5 (Nat.le_of_ble_eq_true rfl) (hts _ q_101) (fun _ h9 => h9) rfl (tyX7_ok 5 (Nat.le_of_ble_eq_true rfl)) rfl rfl (Nat.le_of_ble_eq_true rfl) eX7_read_121.2.2.2.1 (fun H locs hP hD hS => ?_)
        have hP : va_P (dC, dI) classes [(xG, .inr (8, [.ref uT, .int qI, .int qJ, .int rY])), (uT, .inl (cC, 80, .inl qM)), (xH, .inr (7, [.ref uS, .ref sW, .ref uR, .ref sY, .ref qY, .int aAC, .int aAC, .int aEr, .int uP, .int pQ, .int mW])), (sW, .inl (cI, 40, .inl sJ)), (qY, .inl (cI, 40, .inl oF)), (sY, .inl (cI, 40, .inl aBh))] H := hP
        have hD : va_D A [(xG, .inr (8, [.ref uT, .int qI, .int qJ, .int rY])), (uT, .inl (cC, 80, .inl qM)), (xH, .inr (7, [.ref uS, .ref sW, .ref uR, .ref sY, .ref qY, .int aAC, .int aAC, .int aEr, .int uP, .int pQ, .int mW])), (sW, .inl (cI, 40, .inl sJ)), (qY, .inl (cI, 40, .inl oF)), (sY, .inl (cI, 40, .inl aBh))] := hD
        refine lv_iconst (v := 1) hx hb eX7_read_121.2.2.2.2.1 ic_1 ?_
        have hPD := PDs (ws' := wd_X7_read cI cC cZ cB cJ xG uT xH uS sW uR sY qY qI qJ rY qM aAC aAC aEr uP pQ mW sJ aBh oF) hP hD [0, 1, 2, 3, 5, 4] (by decide) rfl
        have hP := hPD.1
        have hD := hPD.2
        exact W.zret (v := 1) hx hb hr rfl (fun t ht hW => ⟨⟨1, (qJ, aAC, aAC, aEr, uP, pQ, mW, sJ, aBh, oF, qY, sY), rfl, hp, by rw [ht]; exact hP, va_K.moved hW.alike hK, hD⟩, hS.F ht⟩) hS.2.2 eX7_read_121.2.2.2.2.2
      · have hp := hp.2 hc
        refine lv_iconst (v := 0) hx hb eX7_read_93.2.1 ic_0 ?_
        exact W.zret (v := 0) hx hb hr rfl (fun t ht hW => ⟨⟨0, (qJ, pG, qB, sH, uP, pQ, mW, sJ, oF, uU, sY, qY), rfl, hp, by rw [ht]; exact hP, va_K.moved hW.alike hK, hD⟩, hS.F ht⟩) hS.2.2 eX7_read_93.2.2.1
noncomputable def ws_X7_read_69 (post K27 : Int32 → Int32 → Int32 → Int32 → Int32 → Int32 → Int32 → Int32 → (Nat → Int32) → (Nat → Int32) → (Nat → Int32) → Prop) (qI rY : Int32) (qM : Nat → Int32) (x2 qJ pG qB sH uP pQ mW : Int32) (sJ oF uU : Nat → Int32) : Prop := ∀ v_15 : Int32, v_15 = x2 + 1 → K27 v_15 qJ pG qB sH uP pQ mW sJ oF uU
set_option maxHeartbeats 4000000 in
set_option maxRecDepth 100000 in
theorem ks_X7_read_69 (C0 : gc cX7_read (some .boolean) 3 RX7 (dC, dI) (tyl cI cC cZ cB cJ) A p s m args meth c) {K27 : Int32 → Int32 → Int32 → Int32 → Int32 → Int32 → Int32 → Int32 → (Nat → Int32) → (Nat → Int32) → (Nat → Int32) → Prop} (hK27 : ∀ (x2 : Int32) (qJ : Int32) (pG : Int32) (qB : Int32) (sH : Int32) (uP : Int32) (pQ : Int32) (mW : Int32) (sJ : Nat → Int32) (oF : Nat → Int32) (uU : Nat → Int32) (sY : Nat) (qY : Nat) (H : Heap) (locs : List Loc) (ls : Array Slot), K27 x2 qJ pG qB sH uP pQ mW sJ oF uU → va_P (dC, dI) classes (wd_X7_read cI cC cZ cB cJ xG uT xH uS sW uR qY sY qI qJ rY qM pG qB sH uP pQ mW sJ oF uU) H → va_D A (wd_X7_read cI cC cZ cB cJ xG uT xH uS sW uR qY sY qI qJ rY qM pG qB sH uP pQ mW sJ oF uU) → va_S A s.heap H locs → lv_has ls 3 [(0, .ref xH), (1, .ref xG), (2, .int x2)] → W p l e rm_X7_read s m args below meth c H locs 0 0 (MQ below (q_X7_read dC dI cI cC cZ cB cJ A xG uT xH uS sW uR qI rY qM post) args s 0 0 A) (F0 m 27 ls [])) : ∀ (x2 qJ pG qB sH uP pQ mW : Int32) (sJ oF uU : Nat → Int32) (sY qY : Nat) (H : Heap) (locs : List Loc) (ls : Array Slot), (ws_X7_read_69 post K27 qI rY qM) x2 qJ pG qB sH uP pQ mW sJ oF uU → va_P (dC, dI) classes (wd_X7_read cI cC cZ cB cJ xG uT xH uS sW uR qY sY qI qJ rY qM pG qB sH uP pQ mW sJ oF uU) H → va_D A (wd_X7_read cI cC cZ cB cJ xG uT xH uS sW uR qY sY qI qJ rY qM pG qB sH uP pQ mW sJ oF uU) → va_S A s.heap H locs → lv_has ls 3 [(0, .ref xH), (1, .ref xG), (2, .int x2)] → W p l e rm_X7_read s m args below meth c H locs 0 0 (MQ below (q_X7_read dC dI cI cC cZ cB cJ A xG uT xH uS sW uR qI rY qM post) args s 0 0 A) (F0 m 69 ls []) := by
  obtain ⟨hx, hb, hr, hml, hown, hts, hlocks, hA, hK, hN, tL, tM, hZL, hTL, hZM, hTM, hZX⟩ := id C0
  intro x2 qJ pG qB sH uP pQ mW sJ oF uU sY qY H locs ls hp hP hD hS hl
  unfold ws_X7_read_69 at hp
  obtain ⟨v_15, ev_15⟩ : ∃ y : Int32, y = x2 + 1 := ⟨_, rfl⟩
  refine lv_iinc (v := v_15) (lv' := [(2, .int v_15), (0, .ref xH), (1, .ref xG)]) hx hb eX7_read_59.2.2.2.2.2.2.1 hl (k := 2) rfl (by rw [ev_15]; rfl) (by decide) rfl (fun ls hl => ?_)
  have hp := hp v_15 ev_15
  refine lv_goto (tgt := 27) hx hb eX7_read_59.2.2.2.2.2.2.2.1 (by decide) ?_
  exact hK27 v_15 qJ pG qB sH uP pQ mW sJ oF uU sY qY H locs ls hp hP hD hS (lv_sub hl [1, 2, 0] rfl)
noncomputable def ws_X7_read_27 (post next : Int32 → Int32 → Int32 → Int32 → Int32 → Int32 → Int32 → Int32 → (Nat → Int32) → (Nat → Int32) → (Nat → Int32) → Prop) (qI rY : Int32) (qM : Nat → Int32) (x2 qJ pG qB sH uP pQ mW : Int32) (sJ oF uU : Nat → Int32) : Prop := (40 ≤ x2 → ws_X7_read_75 post qI rY qM qJ pG qB sH uP pQ mW sJ oF uU) ∧ (¬ 40 ≤ x2 → wp_X8_here (fun r_5 => (r_5 = (-1) → ws_X7_read_75 post qI rY qM qJ pG qB sH uP pQ mW sJ oF uU) ∧ (¬ r_5 = (-1) → (mW = 0 → wp_X7_readBehindThing (fun r_6 aFZ aJT ru_waits_9 ru_open_10 aF0 aCW aHK ru_draft_14 => (¬ r_6 = 0 → ws_X7_read_69 post next qI rY qM x2 aFZ pG aJT ru_waits_9 ru_open_10 aF0 aCW aHK oF ru_draft_14) ∧ (r_6 = 0 → post 0 aFZ pG aJT ru_waits_9 ru_open_10 aF0 aCW aHK oF ru_draft_14)) qJ rY qM qB sH uP pQ mW sJ uU) ∧ (¬ mW = 0 → wp_X7_readThing (fun r_16 aBu aHL ru_waits_19 ru_open_20 aF1 aCX aHM ru_draft_24 => (r_16 = 0 → post 0 aBu pG aHL ru_waits_19 ru_open_20 aF1 aCX aHM oF ru_draft_24) ∧ (¬ r_16 = 0 → ws_X7_read_69 post next qI rY qM x2 aBu pG aHL ru_waits_19 ru_open_20 aF1 aCX aHM oF ru_draft_24)) qJ rY qM qB sH uP pQ mW sJ uU))) qJ rY qM)
noncomputable def wb_X7_read_27 (post : Int32 → Int32 → Int32 → Int32 → Int32 → Int32 → Int32 → Int32 → (Nat → Int32) → (Nat → Int32) → (Nat → Int32) → Prop) (qI rY : Int32) (qM : Nat → Int32) : Nat → Int32 → Int32 → Int32 → Int32 → Int32 → Int32 → Int32 → Int32 → (Nat → Int32) → (Nat → Int32) → (Nat → Int32) → Prop := fun n => Nat.rec (motive := fun _ => Int32 → Int32 → Int32 → Int32 → Int32 → Int32 → Int32 → Int32 → (Nat → Int32) → (Nat → Int32) → (Nat → Int32) → Prop) (fun _ _ _ _ _ _ _ _ _ _ _ => False) (fun _ ih => ws_X7_read_27 post ih qI rY qM) n
set_option maxHeartbeats 4000000 in
set_option maxRecDepth 100000 in
theorem ks_X7_read_27 (C0 : gc cX7_read (some .boolean) 3 RX7 (dC, dI) (tyl cI cC cZ cB cJ) A p s m args meth c) {next : Int32 → Int32 → Int32 → Int32 → Int32 → Int32 → Int32 → Int32 → (Nat → Int32) → (Nat → Int32) → (Nat → Int32) → Prop} (hKn : ∀ (x2 : Int32) (qJ : Int32) (pG : Int32) (qB : Int32) (sH : Int32) (uP : Int32) (pQ : Int32) (mW : Int32) (sJ : Nat → Int32) (oF : Nat → Int32) (uU : Nat → Int32) (sY : Nat) (qY : Nat) (H : Heap) (locs : List Loc) (ls : Array Slot), next x2 qJ pG qB sH uP pQ mW sJ oF uU → va_P (dC, dI) classes (wd_X7_read cI cC cZ cB cJ xG uT xH uS sW uR qY sY qI qJ rY qM pG qB sH uP pQ mW sJ oF uU) H → va_D A (wd_X7_read cI cC cZ cB cJ xG uT xH uS sW uR qY sY qI qJ rY qM pG qB sH uP pQ mW sJ oF uU) → va_S A s.heap H locs → lv_has ls 3 [(0, .ref xH), (1, .ref xG), (2, .int x2)] → W p l e rm_X7_read s m args below meth c H locs 0 0 (MQ below (q_X7_read dC dI cI cC cZ cB cJ A xG uT xH uS sW uR qI rY qM post) args s 0 0 A) (F0 m 27 ls [])) : ∀ (x2 qJ pG qB sH uP pQ mW : Int32) (sJ oF uU : Nat → Int32) (sY qY : Nat) (H : Heap) (locs : List Loc) (ls : Array Slot), (ws_X7_read_27 post next qI rY qM) x2 qJ pG qB sH uP pQ mW sJ oF uU → va_P (dC, dI) classes (wd_X7_read cI cC cZ cB cJ xG uT xH uS sW uR qY sY qI qJ rY qM pG qB sH uP pQ mW sJ oF uU) H → va_D A (wd_X7_read cI cC cZ cB cJ xG uT xH uS sW uR qY sY qI qJ rY qM pG qB sH uP pQ mW sJ oF uU) → va_S A s.heap H locs → lv_has ls 3 [(0, .ref xH), (1, .ref xG), (2, .int x2)] → W p l e rm_X7_read s m args below meth c H locs 0 0 (MQ below (q_X7_read dC dI cI cC cZ cB cJ A xG uT xH uS sW uR qI rY qM post) args s 0 0 A) (F0 m 27 ls []) := by
  obtain ⟨hx, hb, hr, hml, hown, hts, hlocks, hA, hK, hN, tL, tM, hZL, hTL, hZM, hTM, hZX⟩ := id C0
  intro x2 qJ pG qB sH uP pQ mW sJ oF uU sY qY H locs ls hp hP hD hS hl
  unfold ws_X7_read_27 at hp
  refine lv_iload_n hx hb eX7_read_26.2.1 rfl (lv_at hl 2 rfl) ?_
  refine lv_bipush (v := 40) hx hb eX7_read_26.2.2.1 bp_40 ?_
  refine lv_icmp_ge (tgt := 75) hx hb eX7_read_26.2.2.2.1 (by decide) (fun hc => ?_) (fun hc => ?_)
  · have hp := hp.1 hc
    exact ks_X7_read_75 C0 qJ pG qB sH uP pQ mW sJ oF uU sY qY H locs ls hp hP hD hS (lv_sub hl [0, 1] rfl)
  · have hp := hp.2 hc
    refine lv_aload_n hx hb eX7_read_26.2.2.2.2.1 rfl (lv_at hl 1 rfl) ?_
    have hm := mgk (wc := (wd_X8_here cI cC cZ cB cJ xG uT qI qJ rY qM)) hP mk_26 6 rfl rfl rfl
    refine g_calli hP hD hS hA (mixT mk_26) (mixF mk_26) hm.1 hm.2 (nd_F _) (dis_g _) (g_runV (As := []) (rest := []) C0 hP hD hS (mixT mk_26) hm.1 (nd_T _) 0 8 rfl rfl (c_X8_here l dC dI cI cC cZ cB cJ xG uT H.size qI qJ rY qM _ hp) q_33 q_113 q_34 q_35 q_5 h_X8_here rfl rfl ⟨Nat.le_of_ble_eq_true rfl, Nat.le_of_ble_eq_true rfl⟩ rfl rfl hl.1 rfl (lv_room (Nat.le_of_ble_eq_true rfl)) eX7_read_26.2.2.2.2.2.1 ⟨Nat.zero_le _, Nat.zero_le _⟩) (fun r_5 u H locs hp hP hD hS => ?_)
    have hPD := PDm (ws' := (wd_X7_read cI cC cZ cB cJ xG uT xH uS sW uR qY sY qI qJ rY qM pG qB sH uP pQ mW sJ oF uU)) hP hD 6 rfl rfl rfl
    have hP := hPD.1
    have hD := hPD.2
    refine lv_iconst (v := (-1)) hx hb eX7_read_26.2.2.2.2.2.2.1 ic_m1 ?_
    refine lv_icmp_eq (tgt := 75) hx hb eX7_read_26.2.2.2.2.2.2.2.1 (by decide) (fun hc => ?_) (fun hc => ?_)
    · have hp := hp.1 hc
      exact ks_X7_read_75 C0 qJ pG qB sH uP pQ mW sJ oF uU sY qY H locs ls hp hP hD hS (lv_sub hl [0, 1] rfl)
    · have hp := hp.2 hc
      refine lv_aload_n hx hb eX7_read_26.2.2.2.2.2.2.2.2.1 rfl (lv_at hl 0 rfl) ?_
      refine va_get (D := (dC, dI)) (ci := 7) (v := .int mW) (C := RX7) (T := TX7) (N := 11) hx hb hts i_X7 hown hK hP 2 rfl rfl 10 (Nat.le_of_ble_eq_true rfl) (hts _ q_112) (fun _ h9 => h9) rfl eX7_read_26.2.2.2.2.2.2.2.2.2.1 ?_
      refine lv_if_eq (tgt := 59) hx hb eX7_read_26.2.2.2.2.2.2.2.2.2.2.1 (by decide) (fun hc => ?_) (fun hc => ?_)
      · have hp := hp.1 hc
        refine lv_aload_n hx hb eX7_read_59.1 rfl (lv_at hl 0 rfl) ?_
        refine lv_aload_n hx hb eX7_read_59.2.1 rfl (lv_at hl 1 rfl) ?_
        have hm := mgk (wc := (wd_X7_readBehindThing cI cC cZ cB cJ xG uT xH uS sW uR qY sY qI qJ rY qM pG qB sH uP pQ mW sJ uU)) hP mk_27 6 rfl rfl rfl
        refine g_calli hP hD hS hA (mixT mk_27) (mixF mk_27) hm.1 hm.2 (nd_F _) (dis_g _) (g_runV (As := [.ref xG]) (rest := []) C0 hP hD hS (mixT mk_27) hm.1 (nd_T _) 2 7 rfl rfl (c_X7_readBehindThing l dC dI cI cC cZ cB cJ xG uT xH uS sW uR qY sY H.size qI qJ rY qM pG qB sH uP pQ mW sJ uU _ hp) q_138 q_141 q_139 q_140 q_108 h_X7_readBehindThing rfl rfl ⟨Nat.le_of_ble_eq_true rfl, Nat.le_of_ble_eq_true rfl⟩ rfl rfl hl.1 rfl (lv_room (Nat.le_of_ble_eq_true rfl)) eX7_read_59.2.2.1 ⟨Nat.zero_le _, Nat.zero_le _⟩) (fun r_6 u H locs hp hP hD hS => ?_)
        obtain ⟨aFZ, aJT, ru_waits_9, ru_open_10, aF0, aCW, aHK, ru_draft_14⟩ := u
        have hPD := PDm (ws' := (wd_X7_read cI cC cZ cB cJ xG uT xH uS sW uR qY sY qI aFZ rY qM pG aJT ru_waits_9 ru_open_10 aF0 aCW aHK oF ru_draft_14)) hP hD 6 rfl rfl rfl
        have hP := hPD.1
        have hD := hPD.2
        refine lv_if_ne (tgt := 69) hx hb eX7_read_59.2.2.2.1 (by decide) (fun hc => ?_) (fun hc => ?_)
        · have hp := hp.1 hc
          exact ks_X7_read_69 C0 hKn x2 aFZ pG aJT ru_waits_9 ru_open_10 aF0 aCW aHK oF ru_draft_14 sY qY H locs ls hp hP hD hS (lv_sub hl [0, 1, 2] rfl)
        · have hp := hp.2 hc
          refine lv_iconst (v := 0) hx hb eX7_read_59.2.2.2.2.1 ic_0 ?_
          exact W.zret (v := 0) hx hb hr rfl (fun t ht hW => ⟨⟨0, (aFZ, pG, aJT, ru_waits_9, ru_open_10, aF0, aCW, aHK, oF, ru_draft_14, sY, qY), rfl, hp, by rw [ht]; exact hP, va_K.moved hW.alike hK, hD⟩, hS.F ht⟩) hS.2.2 eX7_read_59.2.2.2.2.2.1
      · have hp := hp.2 hc
        refine lv_aload_n hx hb eX7_read_26.2.2.2.2.2.2.2.2.2.2.2.1 rfl (lv_at hl 0 rfl) ?_
        refine lv_aload_n hx hb eX7_read_26.2.2.2.2.2.2.2.2.2.2.2.2.1 rfl (lv_at hl 1 rfl) ?_
        have hm := mgk (wc := (wd_X7_readThing cI cC cZ cB cJ xG uT xH uS sW uR qY sY qI qJ rY qM pG qB sH uP pQ mW sJ uU)) hP mk_27 6 rfl rfl rfl
        refine g_calli hP hD hS hA (mixT mk_27) (mixF mk_27) hm.1 hm.2 (nd_F _) (dis_g _) (g_runV (As := [.ref xG]) (rest := []) C0 hP hD hS (mixT mk_27) hm.1 (nd_T _) 2 7 rfl rfl (c_X7_readThing l dC dI cI cC cZ cB cJ xG uT xH uS sW uR qY sY H.size qI qJ rY qM pG qB sH uP pQ mW sJ uU _ hp) q_142 q_145 q_143 q_144 q_108 h_X7_readThing rfl rfl ⟨Nat.le_of_ble_eq_true rfl, Nat.le_of_ble_eq_true rfl⟩ rfl rfl hl.1 rfl (lv_room (Nat.le_of_ble_eq_true rfl)) eX7_read_26.2.2.2.2.2.2.2.2.2.2.2.2.2.1 ⟨Nat.zero_le _, Nat.zero_le _⟩) (fun r_16 u H locs hp hP hD hS => ?_)
        obtain ⟨aBu, aHL, ru_waits_19, ru_open_20, aF1, aCX, aHM, ru_draft_24⟩ := u
        have hPD := PDm (ws' := (wd_X7_read cI cC cZ cB cJ xG uT xH uS sW uR qY sY qI aBu rY qM pG aHL ru_waits_19 ru_open_20 aF1 aCX aHM oF ru_draft_24)) hP hD 6 rfl rfl rfl
        have hP := hPD.1
        have hD := hPD.2
        refine lv_if_eq (tgt := 67) hx hb eX7_read_26.2.2.2.2.2.2.2.2.2.2.2.2.2.2.1 (by decide) (fun hc => ?_) (fun hc => ?_)
        · have hp := hp.1 hc
          refine lv_iconst (v := 0) hx hb eX7_read_59.2.2.2.2.1 ic_0 ?_
          exact W.zret (v := 0) hx hb hr rfl (fun t ht hW => ⟨⟨0, (aBu, pG, aHL, ru_waits_19, ru_open_20, aF1, aCX, aHM, oF, ru_draft_24, sY, qY), rfl, hp, by rw [ht]; exact hP, va_K.moved hW.alike hK, hD⟩, hS.F ht⟩) hS.2.2 eX7_read_59.2.2.2.2.2.1
        · have hp := hp.2 hc
          refine lv_goto (tgt := 69) hx hb eX7_read_26.2.2.2.2.2.2.2.2.2.2.2.2.2.2.2 (by decide) ?_
          exact ks_X7_read_69 C0 hKn x2 aBu pG aHL ru_waits_19 ru_open_20 aF1 aCX aHM oF ru_draft_24 sY qY H locs ls hp hP hD hS (lv_sub hl [0, 1, 2] rfl)
set_option maxHeartbeats 4000000 in
set_option maxRecDepth 100000 in
theorem kb_X7_read_27 (C0 : gc cX7_read (some .boolean) 3 RX7 (dC, dI) (tyl cI cC cZ cB cJ) A p s m args meth c) : ∀ (n : Nat), ∀ (x2 qJ pG qB sH uP pQ mW : Int32) (sJ oF uU : Nat → Int32) (sY qY : Nat) (H : Heap) (locs : List Loc) (ls : Array Slot), (wb_X7_read_27 post qI rY qM n) x2 qJ pG qB sH uP pQ mW sJ oF uU → va_P (dC, dI) classes (wd_X7_read cI cC cZ cB cJ xG uT xH uS sW uR qY sY qI qJ rY qM pG qB sH uP pQ mW sJ oF uU) H → va_D A (wd_X7_read cI cC cZ cB cJ xG uT xH uS sW uR qY sY qI qJ rY qM pG qB sH uP pQ mW sJ oF uU) → va_S A s.heap H locs → lv_has ls 3 [(0, .ref xH), (1, .ref xG), (2, .int x2)] → W p l e rm_X7_read s m args below meth c H locs 0 0 (MQ below (q_X7_read dC dI cI cC cZ cB cJ A xG uT xH uS sW uR qI rY qM post) args s 0 0 A) (F0 m 27 ls []) := by
  intro n
  induction n with
  | zero =>
    intro x2 qJ pG qB sH uP pQ mW sJ oF uU sY qY H locs ls hp
    exact False.elim hp
  | succ n ih =>
    intro x2 qJ pG qB sH uP pQ mW sJ oF uU sY qY H locs ls hp
    exact ks_X7_read_27 C0 ih x2 qJ pG qB sH uP pQ mW sJ oF uU sY qY H locs ls hp
end S_X7_read
noncomputable def wp_X7_read (post : Int32 → Int32 → Int32 → Int32 → Int32 → Int32 → Int32 → Int32 → (Nat → Int32) → (Nat → Int32) → (Nat → Int32) → Prop) (qI qJ rY : Int32) (qM : Nat → Int32) (pG qB sH uP pQ mW : Int32) (sJ oF uU : Nat → Int32) : Prop := ∃ n : Nat, wb_X7_read_27 post qI rY qM n 0 qJ pG 0 0 0 0 1 sJ oF uU
set_option maxHeartbeats 4000000 in
set_option maxRecDepth 100000 in
theorem c_X7_read (l : Launch) (dC : Nat → ClassId) (dI : Nat → Nat → Nat) (cI cC cZ cB cJ : ClassId) (xG uT xH uS sW uR qY sY sz : Nat) (qI qJ rY : Int32) (qM : Nat → Int32) (pG qB sH uP pQ mW : Int32) (sJ oF uU : Nat → Int32) (post : Int32 → Int32 → Int32 → Int32 → Int32 → Int32 → Int32 → Int32 → (Nat → Int32) → (Nat → Int32) → (Nat → Int32) → Prop) (hw : wp_X7_read post qI qJ rY qM pG qB sH uP pQ mW sJ oF uU) : Met l yX7_read (gw yX7_read cX7_read 3 (some .boolean)) rm_X7_read (va_Pc [.ref xH, .ref xG] (gPre (dC, dI) (tyl cI cC cZ cB cJ) (wd_X7_read cI cC cZ cB cJ xG uT xH uS sW uR qY sY qI qJ rY qM pG qB sH uP pQ mW sJ oF uU) sz)) (q_X7_read dC dI cI cC cZ cB cJ (va_A (wd_X7_read cI cC cZ cB cJ xG uT xH uS sW uR qY sY qI qJ rY qM pG qB sH uP pQ mW sJ oF uU) sz) xG uT xH uS sW uR qI rY qM post) 0 0 (va_A (wd_X7_read cI cC cZ cB cJ xG uT xH uS sW uR qY sY qI qJ rY qM pG qB sH uP pQ mW sJ oF uU) sz) := by
  refine g_enter (own := RX7) (dC, dI) (tyl cI cC cZ cB cJ) (wd_X7_read cI cC cZ cB cJ xG uT xH uS sW uR qY sY qI qJ rY qM pG qB sH uP pQ mW sJ oF uU) sz [.ref xH, .ref xG] (fun A => q_X7_read dC dI cI cC cZ cB cJ A xG uT xH uS sW uR qI rY qM post) pn_RX7 rfl (Nat.le_of_ble_eq_true rfl) ?_
  intro p e s m args below meth c A H locs ls C0 hP hD hS hl
  have hl : lv_has ls 3 [(0, .ref xH), (1, .ref xG)] := hl
  obtain ⟨hx, hb, hr, hml, hown, hts, hlocks, hA, hK, hN, tL, tM, hZL, hTL, hZM, hTM, hZX⟩ := id C0
  have hp := hw
  unfold wp_X7_read at hp
  refine lv_aload_n hx hb eX7_read_0.1 rfl (lv_at hl 0 rfl) ?_
  refine lv_iconst (v := 0) hx hb eX7_read_0.2.1 ic_0 ?_
  refine va_put (D := (dC, dI)) (ci := 7) (v := .int 0) (ty := .int) (C := RX7) (T := TX7) (N := 11) hx hb hts i_X7 tyX7 tyX7_ok nmX7 hown hK hP hD hS 2 rfl rfl 6 (Nat.le_of_ble_eq_true rfl) (hts _ q_104) (fun _ h9 => h9) rfl (tyX7_ok 6 (Nat.le_of_ble_eq_true rfl)) rfl rfl (Nat.le_of_ble_eq_true rfl) eX7_read_0.2.2.1 (fun H locs hP hD hS => ?_)
  have hP : va_P (dC, dI) classes (wd_X7_read cI cC cZ cB cJ xG uT xH uS sW uR qY sY qI qJ rY qM pG 0 sH uP pQ mW sJ oF uU) H := hP
  have hD : va_D A (wd_X7_read cI cC cZ cB cJ xG uT xH uS sW uR qY sY qI qJ rY qM pG 0 sH uP pQ mW sJ oF uU) := hD
  refine lv_aload_n hx hb eX7_read_0.2.2.2.1 rfl (lv_at hl 0 rfl) ?_
  refine lv_iconst (v := 0) hx hb eX7_read_0.2.2.2.2.1 ic_0 ?_
  refine va_put (D := (dC, dI)) (ci := 7) (v := .int 0) (ty := .int) (C := RX7) (T := TX7) (N := 11) hx hb hts i_X7 tyX7 tyX7_ok nmX7 hown hK hP hD hS 2 rfl rfl 7 (Nat.le_of_ble_eq_true rfl) (hts _ q_102) (fun _ h9 => h9) rfl (tyX7_ok 7 (Nat.le_of_ble_eq_true rfl)) rfl rfl (Nat.le_of_ble_eq_true rfl) eX7_read_0.2.2.2.2.2.1 (fun H locs hP hD hS => ?_)
  have hP : va_P (dC, dI) classes (wd_X7_read cI cC cZ cB cJ xG uT xH uS sW uR qY sY qI qJ rY qM pG 0 0 uP pQ mW sJ oF uU) H := hP
  have hD : va_D A (wd_X7_read cI cC cZ cB cJ xG uT xH uS sW uR qY sY qI qJ rY qM pG 0 0 uP pQ mW sJ oF uU) := hD
  refine lv_aload_n hx hb eX7_read_0.2.2.2.2.2.2.1 rfl (lv_at hl 0 rfl) ?_
  refine lv_iconst (v := 0) hx hb eX7_read_0.2.2.2.2.2.2.2.1 ic_0 ?_
  refine va_put (D := (dC, dI)) (ci := 7) (v := .int 0) (ty := .int) (C := RX7) (T := TX7) (N := 11) hx hb hts i_X7 tyX7 tyX7_ok nmX7 hown hK hP hD hS 2 rfl rfl 8 (Nat.le_of_ble_eq_true rfl) (hts _ q_120) (fun _ h9 => h9) rfl (tyX7_ok 8 (Nat.le_of_ble_eq_true rfl)) rfl rfl (Nat.le_of_ble_eq_true rfl) eX7_read_0.2.2.2.2.2.2.2.2.1 (fun H locs hP hD hS => ?_)
  have hP : va_P (dC, dI) classes (wd_X7_read cI cC cZ cB cJ xG uT xH uS sW uR qY sY qI qJ rY qM pG 0 0 0 pQ mW sJ oF uU) H := hP
  have hD : va_D A (wd_X7_read cI cC cZ cB cJ xG uT xH uS sW uR qY sY qI qJ rY qM pG 0 0 0 pQ mW sJ oF uU) := hD
  refine lv_aload_n hx hb eX7_read_0.2.2.2.2.2.2.2.2.2.1 rfl (lv_at hl 0 rfl) ?_
  refine lv_iconst (v := 0) hx hb eX7_read_0.2.2.2.2.2.2.2.2.2.2.1 ic_0 ?_
  refine va_put (D := (dC, dI)) (ci := 7) (v := .int 0) (ty := .int) (C := RX7) (T := TX7) (N := 11) hx hb hts i_X7 tyX7 tyX7_ok nmX7 hown hK hP hD hS 2 rfl rfl 9 (Nat.le_of_ble_eq_true rfl) (hts _ q_121) (fun _ h9 => h9) rfl (tyX7_ok 9 (Nat.le_of_ble_eq_true rfl)) rfl rfl (Nat.le_of_ble_eq_true rfl) eX7_read_0.2.2.2.2.2.2.2.2.2.2.2.1 (fun H locs hP hD hS => ?_)
  have hP : va_P (dC, dI) classes (wd_X7_read cI cC cZ cB cJ xG uT xH uS sW uR qY sY qI qJ rY qM pG 0 0 0 0 mW sJ oF uU) H := hP
  have hD : va_D A (wd_X7_read cI cC cZ cB cJ xG uT xH uS sW uR qY sY qI qJ rY qM pG 0 0 0 0 mW sJ oF uU) := hD
  refine lv_aload_n hx hb eX7_read_0.2.2.2.2.2.2.2.2.2.2.2.2.1 rfl (lv_at hl 0 rfl) ?_
  refine lv_iconst (v := 1) hx hb eX7_read_0.2.2.2.2.2.2.2.2.2.2.2.2.2.1 ic_1 ?_
  refine va_put (D := (dC, dI)) (ci := 7) (v := .int 1) (ty := .boolean) (C := RX7) (T := TX7) (N := 11) hx hb hts i_X7 tyX7 tyX7_ok nmX7 hown hK hP hD hS 2 rfl rfl 10 (Nat.le_of_ble_eq_true rfl) (hts _ q_112) (fun _ h9 => h9) rfl (tyX7_ok 10 (Nat.le_of_ble_eq_true rfl)) rfl rfl (Nat.le_of_ble_eq_true rfl) eX7_read_0.2.2.2.2.2.2.2.2.2.2.2.2.2.2.1 (fun H locs hP hD hS => ?_)
  have hP : va_P (dC, dI) classes (wd_X7_read cI cC cZ cB cJ xG uT xH uS sW uR qY sY qI qJ rY qM pG 0 0 0 0 1 sJ oF uU) H := hP
  have hD : va_D A (wd_X7_read cI cC cZ cB cJ xG uT xH uS sW uR qY sY qI qJ rY qM pG 0 0 0 0 1 sJ oF uU) := hD
  refine lv_iconst (v := 0) hx hb eX7_read_0.2.2.2.2.2.2.2.2.2.2.2.2.2.2.2 ic_0 ?_
  refine lv_istore_n (lv' := [(2, .int 0), (0, .ref xH), (1, .ref xG)]) hx hb eX7_read_26.1 rfl hl (by decide) rfl (fun ls hl => ?_)
  obtain ⟨n9, hp⟩ := hp
  exact kb_X7_read_27 C0 n9 0 qJ pG 0 0 0 0 1 sJ oF uU sY qY H locs ls hp hP hD hS (lv_sub hl [1, 2, 0] rfl)
noncomputable abbrev wd_X9_rule (cI cC cZ cB cJ : ClassId) (a_x xG xD wY wJ wQ xI xK xJ tW uT xH uS sW uR qY sY : Nat) (qI qJ rY : Int32) (qM : Nat → Int32) (pG qB sH uP pQ mW : Int32) (sJ oF uU : Nat → Int32) : va_W := [(a_x, .inr (9, [.ref xG, .ref xD, .ref wY, .ref wJ, .ref wQ, .ref xI, .ref xK, .ref xJ, .ref tW])), (xG, .inr (8, [.ref uT, .int qI, .int qJ, .int rY])), (uT, .inl (cC, 80, .inl qM)), (wY, .inr (0, [.ref wJ, .ref wQ, .ref xH])), (xH, .inr (7, [.ref uS, .ref sW, .ref uR, .ref qY, .ref sY, .int pG, .int qB, .int sH, .int uP, .int pQ, .int mW])), (sW, .inl (cI, 40, .inl sJ)), (qY, .inl (cI, 40, .inl oF)), (sY, .inl (cI, 40, .inl uU))]
noncomputable abbrev q_X9_rule (dC : Nat → ClassId) (dI : Nat → Nat → Nat) (cI cC cZ cB cJ : ClassId) (A : Nat → Prop) (a_x xG xD wY wJ wQ xI xK xJ tW uT xH uS sW uR : Nat) (qM : Nat → Int32) (post : Int32 → Int32 → Int32 → Int32 → Int32 → Int32 → Int32 → Int32 → Int32 → Int32 → (Nat → Int32) → (Nat → Int32) → (Nat → Int32) → Prop) : Array Value → State → Outcome → State → Prop := va_Qi (fun (r : Int32) (u : Int32 × Int32 × Int32 × Int32 × Int32 × Int32 × Int32 × Int32 × Int32 × (Nat → Int32) × (Nat → Int32) × (Nat → Int32) × Nat × Nat) => post r u.1 u.2.1 u.2.2.1 u.2.2.2.1 u.2.2.2.2.1 u.2.2.2.2.2.1 u.2.2.2.2.2.2.1 u.2.2.2.2.2.2.2.1 u.2.2.2.2.2.2.2.2.1 u.2.2.2.2.2.2.2.2.2.1 u.2.2.2.2.2.2.2.2.2.2.1 u.2.2.2.2.2.2.2.2.2.2.2.1) (fun u t => gB (dC, dI) (tyl cI cC cZ cB cJ) A (wd_X9_rule cI cC cZ cB cJ a_x xG xD wY wJ wQ xI xK xJ tW uT xH uS sW uR u.2.2.2.2.2.2.2.2.2.2.2.2.2 u.2.2.2.2.2.2.2.2.2.2.2.2.1 u.1 u.2.1 u.2.2.1 qM u.2.2.2.1 u.2.2.2.2.1 u.2.2.2.2.2.1 u.2.2.2.2.2.2.1 u.2.2.2.2.2.2.2.1 u.2.2.2.2.2.2.2.2.1 u.2.2.2.2.2.2.2.2.2.1 u.2.2.2.2.2.2.2.2.2.2.1 u.2.2.2.2.2.2.2.2.2.2.2.1) t) A
noncomputable abbrev rm_X9_rule : Room := { frames := 7, cells := 0, slots := 0, locals := 178 }
section S_X9_rule
variable {p : Program} {l : Launch} {e : Env} {s : State} {m : MethodId} {args : Array Value} {below : List Frame} {meth : Method} {c : Code} {dC : Nat → ClassId} {dI : Nat → Nat → Nat} {cI cC cZ cB cJ : ClassId} {A : Nat → Prop} {a_x xG xD wY wJ wQ xI xK xJ tW uT xH uS sW uR : Nat} {qM : Nat → Int32} {post : Int32 → Int32 → Int32 → Int32 → Int32 → Int32 → Int32 → Int32 → Int32 → Int32 → (Nat → Int32) → (Nat → Int32) → (Nat → Int32) → Prop}
noncomputable def ws_X9_rule_59 (post : Int32 → Int32 → Int32 → Int32 → Int32 → Int32 → Int32 → Int32 → Int32 → Int32 → (Nat → Int32) → (Nat → Int32) → (Nat → Int32) → Prop) (qM : Nat → Int32) (x1 qI qJ rY pG qB sH uP pQ mW : Int32) (sJ oF uU : Nat → Int32) : Prop := wp_X8_clear (fun tx_length_16 => post x1 tx_length_16 qJ rY pG qB sH uP pQ mW sJ oF uU) qI
set_option maxHeartbeats 4000000 in
set_option maxRecDepth 100000 in
theorem ks_X9_rule_59 (C0 : gc cX9_rule (some .int) 2 RX9 (dC, dI) (tyl cI cC cZ cB cJ) A p s m args meth c) : ∀ (x1 qI qJ rY pG qB sH uP pQ mW : Int32) (sJ oF uU : Nat → Int32) (sY qY : Nat) (H : Heap) (locs : List Loc) (ls : Array Slot), (ws_X9_rule_59 post qM) x1 qI qJ rY pG qB sH uP pQ mW sJ oF uU → va_P (dC, dI) classes (wd_X9_rule cI cC cZ cB cJ a_x xG xD wY wJ wQ xI xK xJ tW uT xH uS sW uR qY sY qI qJ rY qM pG qB sH uP pQ mW sJ oF uU) H → va_D A (wd_X9_rule cI cC cZ cB cJ a_x xG xD wY wJ wQ xI xK xJ tW uT xH uS sW uR qY sY qI qJ rY qM pG qB sH uP pQ mW sJ oF uU) → va_S A s.heap H locs → lv_has ls 2 [(0, .ref a_x), (1, .int x1)] → W p l e rm_X9_rule s m args below meth c H locs 0 0 (MQ below (q_X9_rule dC dI cI cC cZ cB cJ A a_x xG xD wY wJ wQ xI xK xJ tW uT xH uS sW uR qM post) args s 0 0 A) (F0 m 59 ls []) := by
  obtain ⟨hx, hb, hr, hml, hown, hts, hlocks, hA, hK, hN, tL, tM, hZL, hTL, hZM, hTM, hZX⟩ := id C0
  intro x1 qI qJ rY pG qB sH uP pQ mW sJ oF uU sY qY H locs ls hp hP hD hS hl
  unfold ws_X9_rule_59 at hp
  refine lv_aload_n hx hb eX9_rule_35.2.2.2.2.2.2.2.2.2.2.1 rfl (lv_at hl 0 rfl) ?_
  refine va_get (D := (dC, dI)) (ci := 9) (v := .ref xG) (C := RX9) (T := TX9) (N := 9) hx hb hts i_X9 hown hK hP 0 rfl rfl 0 (Nat.le_of_ble_eq_true rfl) (hts _ q_3) (fun _ h9 => h9) rfl eX9_rule_35.2.2.2.2.2.2.2.2.2.2.2.1 ?_
  have hm := mgk (wc := (wd_X8_clear cI cC cZ cB cJ xG uT qI qJ rY)) hP mk_28 8 rfl rfl rfl
  refine g_callv hP hD hS hA (mixT mk_28) (mixF mk_28) hm.1 hm.2 (nd_F _) (dis_g _) (g_runV (As := []) (rest := []) C0 hP hD hS (mixT mk_28) hm.1 (nd_T _) 1 8 rfl rfl (c_X8_clear l dC dI cI cC cZ cB cJ xG uT H.size qI qJ rY _ hp) q_83 q_86 q_84 q_85 q_5 h_X8_clear rfl rfl ⟨Nat.le_of_ble_eq_true rfl, Nat.le_of_ble_eq_true rfl⟩ rfl rfl hl.1 rfl (lv_room (Nat.le_of_ble_eq_true rfl)) eX9_rule_35.2.2.2.2.2.2.2.2.2.2.2.2.1 ⟨Nat.zero_le _, Nat.zero_le _⟩) (fun u H locs hp hP hD hS => ?_)
  obtain ⟨tx_length_16, rfl⟩ : ∃ z, z = u := ⟨_, rfl⟩
  have hPD := PDm (ws' := (wd_X9_rule cI cC cZ cB cJ a_x xG xD wY wJ wQ xI xK xJ tW uT xH uS sW uR qY sY tx_length_16 qJ rY qM pG qB sH uP pQ mW sJ oF uU)) hP hD 8 rfl rfl rfl
  have hP := hPD.1
  have hD := hPD.2
  refine lv_iload_n hx hb eX9_rule_35.2.2.2.2.2.2.2.2.2.2.2.2.2.1 rfl (lv_at hl 1 rfl) ?_
  exact W.iret (v := x1) hx hb hr (fun t ht hW => ⟨⟨x1, (tx_length_16, qJ, rY, pG, qB, sH, uP, pQ, mW, sJ, oF, uU, sY, qY), rfl, hp, by rw [ht]; exact hP, va_K.moved hW.alike hK, hD⟩, hS.F ht⟩) hS.2.2 eX9_rule_35.2.2.2.2.2.2.2.2.2.2.2.2.2.2
end S_X9_rule
noncomputable def wp_X9_rule (post : Int32 → Int32 → Int32 → Int32 → Int32 → Int32 → Int32 → Int32 → Int32 → Int32 → (Nat → Int32) → (Nat → Int32) → (Nat → Int32) → Prop) (qI qJ rY : Int32) (qM : Nat → Int32) (pG qB sH uP pQ mW : Int32) (sJ oF uU : Nat → Int32) : Prop := wp_X8_open (fun aAz zT => (¬ qI = 0 → wp_X7_read (fun r_3 xU aDw aAR aF2 aIw aBW aA5 aAM aBX aAH => (¬ r_3 = 0 → ws_X9_rule_59 post qM 0 qI xU zT aDw aAR aF2 aIw aBW aA5 aAM aBX aAH) ∧ (r_3 = 0 → wp_X8_wrong (fun r_17 => ws_X9_rule_59 post qM r_17 qI xU zT aDw aAR aF2 aIw aBW aA5 aAM aBX aAH) xU)) qI aAz zT qM pG qB sH uP pQ mW sJ oF uU) ∧ (qI = 0 → wp_X7_drop (fun ru_length_18 => ws_X9_rule_59 post qM 0 qI aAz zT ru_length_18 qB sH uP pQ mW sJ oF uU) pG)) 40 qI qJ rY
set_option maxHeartbeats 4000000 in
set_option maxRecDepth 100000 in
theorem c_X9_rule (l : Launch) (dC : Nat → ClassId) (dI : Nat → Nat → Nat) (cI cC cZ cB cJ : ClassId) (a_x xG xD wY wJ wQ xI xK xJ tW uT xH uS sW uR qY sY sz : Nat) (qI qJ rY : Int32) (qM : Nat → Int32) (pG qB sH uP pQ mW : Int32) (sJ oF uU : Nat → Int32) (post : Int32 → Int32 → Int32 → Int32 → Int32 → Int32 → Int32 → Int32 → Int32 → Int32 → (Nat → Int32) → (Nat → Int32) → (Nat → Int32) → Prop) (hw : wp_X9_rule post qI qJ rY qM pG qB sH uP pQ mW sJ oF uU) : Met l yX9_rule (gw yX9_rule cX9_rule 2 (some .int)) rm_X9_rule (va_Pc [.ref a_x] (gPre (dC, dI) (tyl cI cC cZ cB cJ) (wd_X9_rule cI cC cZ cB cJ a_x xG xD wY wJ wQ xI xK xJ tW uT xH uS sW uR qY sY qI qJ rY qM pG qB sH uP pQ mW sJ oF uU) sz)) (q_X9_rule dC dI cI cC cZ cB cJ (va_A (wd_X9_rule cI cC cZ cB cJ a_x xG xD wY wJ wQ xI xK xJ tW uT xH uS sW uR qY sY qI qJ rY qM pG qB sH uP pQ mW sJ oF uU) sz) a_x xG xD wY wJ wQ xI xK xJ tW uT xH uS sW uR qM post) 0 0 (va_A (wd_X9_rule cI cC cZ cB cJ a_x xG xD wY wJ wQ xI xK xJ tW uT xH uS sW uR qY sY qI qJ rY qM pG qB sH uP pQ mW sJ oF uU) sz) := by
  refine g_enter (own := RX9) (dC, dI) (tyl cI cC cZ cB cJ) (wd_X9_rule cI cC cZ cB cJ a_x xG xD wY wJ wQ xI xK xJ tW uT xH uS sW uR qY sY qI qJ rY qM pG qB sH uP pQ mW sJ oF uU) sz [.ref a_x] (fun A => q_X9_rule dC dI cI cC cZ cB cJ A a_x xG xD wY wJ wQ xI xK xJ tW uT xH uS sW uR qM post) pn_RX9 rfl (Nat.le_of_ble_eq_true rfl) ?_
  intro p e s m args below meth c A H locs ls C0 hP hD hS hl
  have hl : lv_has ls 2 [(0, .ref a_x)] := hl
  obtain ⟨hx, hb, hr, hml, hown, hts, hlocks, hA, hK, hN, tL, tM, hZL, hTL, hZM, hTM, hZX⟩ := id C0
  have hp := hw
  unfold wp_X9_rule at hp
  refine lv_aload_n hx hb eX9_rule_0.1 rfl (lv_at hl 0 rfl) ?_
  refine va_get (D := (dC, dI)) (ci := 9) (v := .ref xG) (C := RX9) (T := TX9) (N := 9) hx hb hts i_X9 hown hK hP 0 rfl rfl 0 (Nat.le_of_ble_eq_true rfl) (hts _ q_3) (fun _ h9 => h9) rfl eX9_rule_0.2.1 ?_
  refine lv_bipush (v := 40) hx hb eX9_rule_0.2.2.1 bp_40 ?_
  have hm := mgk (wc := (wd_X8_open cI cC cZ cB cJ xG uT qI qJ rY)) hP mk_28 8 rfl rfl rfl
  refine g_callv hP hD hS hA (mixT mk_28) (mixF mk_28) hm.1 hm.2 (nd_F _) (dis_g _) (g_runV (As := [.int 40]) (rest := []) C0 hP hD hS (mixT mk_28) hm.1 (nd_T _) 1 8 rfl rfl (c_X8_open l dC dI cI cC cZ cB cJ xG uT H.size 40 qI qJ rY _ hp) q_69 q_72 q_70 q_71 q_5 h_X8_open rfl rfl ⟨Nat.le_of_ble_eq_true rfl, Nat.le_of_ble_eq_true rfl⟩ rfl rfl hl.1 rfl (lv_room (Nat.le_of_ble_eq_true rfl)) eX9_rule_0.2.2.2.1 ⟨Nat.zero_le _, Nat.zero_le _⟩) (fun u H locs hp hP hD hS => ?_)
  obtain ⟨aAz, zT⟩ := u
  have hPD := PDm (ws' := (wd_X9_rule cI cC cZ cB cJ a_x xG xD wY wJ wQ xI xK xJ tW uT xH uS sW uR qY sY qI aAz zT qM pG qB sH uP pQ mW sJ oF uU)) hP hD 8 rfl rfl rfl
  have hP := hPD.1
  have hD := hPD.2
  refine lv_iconst (v := 0) hx hb eX9_rule_0.2.2.2.2.1 ic_0 ?_
  refine lv_istore_n (lv' := [(1, .int 0), (0, .ref a_x)]) hx hb eX9_rule_0.2.2.2.2.2.1 rfl hl (by decide) rfl (fun ls hl => ?_)
  refine lv_aload_n hx hb eX9_rule_0.2.2.2.2.2.2.1 rfl (lv_at hl 1 rfl) ?_
  refine va_get (D := (dC, dI)) (ci := 9) (v := .ref xG) (C := RX9) (T := TX9) (N := 9) hx hb hts i_X9 hown hK hP 0 rfl rfl 0 (Nat.le_of_ble_eq_true rfl) (hts _ q_3) (fun _ h9 => h9) rfl eX9_rule_0.2.2.2.2.2.2.2.1 ?_
  refine va_get (D := (dC, dI)) (ci := 8) (v := .int qI) (C := RX8) (T := TX8) (N := 4) hx hb hts i_X8 hown hK hP 1 rfl rfl 1 (Nat.le_of_ble_eq_true rfl) (hts _ q_73) (fun _ h9 => h9) rfl eX9_rule_0.2.2.2.2.2.2.2.2.1 ?_
  refine lv_if_ne (tgt := 34) hx hb eX9_rule_0.2.2.2.2.2.2.2.2.2.1 (by decide) (fun hc => ?_) (fun hc => ?_)
  · have hp := hp.1 hc
    refine lv_aload_n hx hb eX9_rule_0.2.2.2.2.2.2.2.2.2.2.2.2.2.2.2 rfl (lv_at hl 1 rfl) ?_
    refine va_get (D := (dC, dI)) (ci := 9) (v := .ref wY) (C := RX9) (T := TX9) (N := 9) hx hb hts i_X9 hown hK hP 0 rfl rfl 2 (Nat.le_of_ble_eq_true rfl) (hts _ q_146) (fun _ h9 => h9) rfl eX9_rule_35.1 ?_
    refine va_get (D := (dC, dI)) (ci := 0) (v := .ref xH) (C := RX0) (T := TX0) (N := 3) hx hb hts i_X0 hown hK hP 3 rfl rfl 2 (Nat.le_of_ble_eq_true rfl) (hts _ q_147) (fun _ h9 => h9) rfl eX9_rule_35.2.1 ?_
    refine lv_aload_n hx hb eX9_rule_35.2.2.1 rfl (lv_at hl 1 rfl) ?_
    refine va_get (D := (dC, dI)) (ci := 9) (v := .ref xG) (C := RX9) (T := TX9) (N := 9) hx hb hts i_X9 hown hK hP 0 rfl rfl 0 (Nat.le_of_ble_eq_true rfl) (hts _ q_3) (fun _ h9 => h9) rfl eX9_rule_35.2.2.2.1 ?_
    have hm := mgk (wc := (wd_X7_read cI cC cZ cB cJ xG uT xH uS sW uR qY sY qI aAz zT qM pG qB sH uP pQ mW sJ oF uU)) hP mk_29 8 rfl rfl rfl
    refine g_calli hP hD hS hA (mixT mk_29) (mixF mk_29) hm.1 hm.2 (nd_F _) (dis_g _) (g_runV (As := [.ref xG]) (rest := []) C0 hP hD hS (mixT mk_29) hm.1 (nd_T _) 4 7 rfl rfl (c_X7_read l dC dI cI cC cZ cB cJ xG uT xH uS sW uR qY sY H.size qI aAz zT qM pG qB sH uP pQ mW sJ oF uU _ hp) q_148 q_151 q_149 q_150 q_108 h_X7_read rfl rfl ⟨Nat.le_of_ble_eq_true rfl, Nat.le_of_ble_eq_true rfl⟩ rfl rfl hl.1 rfl (lv_room (Nat.le_of_ble_eq_true rfl)) eX9_rule_35.2.2.2.2.1 ⟨Nat.zero_le _, Nat.zero_le _⟩) (fun r_3 u H locs hp hP hD hS => ?_)
    obtain ⟨xU, aDw, aAR, aF2, aIw, aBW, aA5, aAM, aBX, aAH, a_ru_draft_14, aLc⟩ := u
    have hPD := PDm (ws' := (wd_X9_rule cI cC cZ cB cJ a_x xG xD wY wJ wQ xI xK xJ tW uT xH uS sW uR aLc a_ru_draft_14 qI xU zT qM aDw aAR aF2 aIw aBW aA5 aAM aBX aAH)) hP hD 8 rfl rfl rfl
    have hP := hPD.1
    have hD := hPD.2
    refine lv_if_ne (tgt := 59) hx hb eX9_rule_35.2.2.2.2.2.1 (by decide) (fun hc => ?_) (fun hc => ?_)
    · have hp := hp.1 hc
      exact ks_X9_rule_59 C0 0 qI xU zT aDw aAR aF2 aIw aBW aA5 aAM aBX aAH a_ru_draft_14 aLc H locs ls hp hP hD hS (lv_sub hl [1, 0] rfl)
    · have hp := hp.2 hc
      refine lv_aload_n hx hb eX9_rule_35.2.2.2.2.2.2.1 rfl (lv_at hl 1 rfl) ?_
      refine va_get (D := (dC, dI)) (ci := 9) (v := .ref xG) (C := RX9) (T := TX9) (N := 9) hx hb hts i_X9 hown hK hP 0 rfl rfl 0 (Nat.le_of_ble_eq_true rfl) (hts _ q_3) (fun _ h9 => h9) rfl eX9_rule_35.2.2.2.2.2.2.2.1 ?_
      have hm := mgk (wc := (wd_X8_wrong cI cC cZ cB cJ xG uT qI xU zT)) hP mk_28 8 rfl rfl rfl
      refine g_calli hP hD hS hA (mixT mk_28) (mixF mk_28) hm.1 hm.2 (nd_F _) (dis_g _) (g_runV (As := []) (rest := []) C0 hP hD hS (mixT mk_28) hm.1 (nd_T _) 1 8 rfl rfl (c_X8_wrong l dC dI cI cC cZ cB cJ xG uT H.size qI xU zT _ hp) q_79 q_82 q_80 q_81 q_5 h_X8_wrong rfl rfl ⟨Nat.le_of_ble_eq_true rfl, Nat.le_of_ble_eq_true rfl⟩ rfl rfl hl.1 rfl (lv_room (Nat.le_of_ble_eq_true rfl)) eX9_rule_35.2.2.2.2.2.2.2.2.1 ⟨Nat.zero_le _, Nat.zero_le _⟩) (fun r_17 u H locs hp hP hD hS => ?_)
      have hPD := PDm (ws' := (wd_X9_rule cI cC cZ cB cJ a_x xG xD wY wJ wQ xI xK xJ tW uT xH uS sW uR aLc a_ru_draft_14 qI xU zT qM aDw aAR aF2 aIw aBW aA5 aAM aBX aAH)) hP hD 8 rfl rfl rfl
      have hP := hPD.1
      have hD := hPD.2
      refine lv_istore_n (lv' := [(1, .int r_17), (0, .ref a_x)]) hx hb eX9_rule_35.2.2.2.2.2.2.2.2.2.1 rfl hl (by decide) rfl (fun ls hl => ?_)
      exact ks_X9_rule_59 C0 r_17 qI xU zT aDw aAR aF2 aIw aBW aA5 aAM aBX aAH a_ru_draft_14 aLc H locs ls hp hP hD hS (lv_sub hl [1, 0] rfl)
  · have hp := hp.2 hc
    refine lv_aload_n hx hb eX9_rule_0.2.2.2.2.2.2.2.2.2.2.1 rfl (lv_at hl 1 rfl) ?_
    refine va_get (D := (dC, dI)) (ci := 9) (v := .ref wY) (C := RX9) (T := TX9) (N := 9) hx hb hts i_X9 hown hK hP 0 rfl rfl 2 (Nat.le_of_ble_eq_true rfl) (hts _ q_146) (fun _ h9 => h9) rfl eX9_rule_0.2.2.2.2.2.2.2.2.2.2.2.1 ?_
    refine va_get (D := (dC, dI)) (ci := 0) (v := .ref xH) (C := RX0) (T := TX0) (N := 3) hx hb hts i_X0 hown hK hP 3 rfl rfl 2 (Nat.le_of_ble_eq_true rfl) (hts _ q_147) (fun _ h9 => h9) rfl eX9_rule_0.2.2.2.2.2.2.2.2.2.2.2.2.1 ?_
    have hm := mgk (wc := (wd_X7_drop cI cC cZ cB cJ xH uS sW uR qY sY pG qB sH uP pQ mW)) hP mk_30 8 rfl rfl rfl
    refine g_callv hP hD hS hA (mixT mk_30) (mixF mk_30) hm.1 hm.2 (nd_F _) (dis_g _) (g_runV (As := []) (rest := []) C0 hP hD hS (mixT mk_30) hm.1 (nd_T _) 4 7 rfl rfl (c_X7_drop l dC dI cI cC cZ cB cJ xH uS sW uR qY sY H.size pG qB sH uP pQ mW _ hp) q_152 q_155 q_153 q_154 q_108 h_X7_drop rfl rfl ⟨Nat.le_of_ble_eq_true rfl, Nat.le_of_ble_eq_true rfl⟩ rfl rfl hl.1 rfl (lv_room (Nat.le_of_ble_eq_true rfl)) eX9_rule_0.2.2.2.2.2.2.2.2.2.2.2.2.2.1 ⟨Nat.zero_le _, Nat.zero_le _⟩) (fun u H locs hp hP hD hS => ?_)
    obtain ⟨ru_length_18, rfl⟩ : ∃ z, z = u := ⟨_, rfl⟩
    have hPD := PDm (ws' := (wd_X9_rule cI cC cZ cB cJ a_x xG xD wY wJ wQ xI xK xJ tW uT xH uS sW uR qY sY qI aAz zT qM ru_length_18 qB sH uP pQ mW sJ oF uU)) hP hD 8 rfl rfl rfl
    have hP := hPD.1
    have hD := hPD.2
    refine lv_goto (tgt := 59) hx hb eX9_rule_0.2.2.2.2.2.2.2.2.2.2.2.2.2.2.1 (by decide) ?_
    exact ks_X9_rule_59 C0 0 qI aAz zT ru_length_18 qB sH uP pQ mW sJ oF uU sY qY H locs ls hp hP hD hS (lv_sub hl [1, 0] rfl)
noncomputable abbrev wd_X3_hasFruit (cI cC cZ cB cJ : ClassId) (wJ tX jE mX pD oO oQ eG : Nat) (bZ bD bI aI : Int32) : va_W := [(wJ, .inr (3, [.ref tX, .ref jE, .ref mX, .ref pD, .ref oO, .ref oQ, .ref eG, .int bZ, .int bD, .int bI, .int aI]))]
noncomputable abbrev q_X3_hasFruit (dC : Nat → ClassId) (dI : Nat → Nat → Nat) (cI cC cZ cB cJ : ClassId) (A : Nat → Prop) (wJ tX jE mX pD oO oQ eG : Nat) (bZ bD bI aI : Int32) (post : Int32 → Prop) : Array Value → State → Outcome → State → Prop := va_Qi (fun (r : Int32) (u : Unit) => post r) (fun u t => gB (dC, dI) (tyl cI cC cZ cB cJ) A (wd_X3_hasFruit cI cC cZ cB cJ wJ tX jE mX pD oO oQ eG bZ bD bI aI) t) A
noncomputable abbrev rm_X3_hasFruit : Room := { frames := 0, cells := 0, slots := 0, locals := 0 }
noncomputable def wp_X3_hasFruit (post : Int32 → Prop) (p0 bZ : Int32) : Prop := (p0 < 0 → post 0) ∧ (¬ p0 < 0 → (bZ ≤ p0 → post 0) ∧ (¬ bZ ≤ p0 → post 1))
set_option maxHeartbeats 4000000 in
set_option maxRecDepth 100000 in
theorem c_X3_hasFruit (l : Launch) (dC : Nat → ClassId) (dI : Nat → Nat → Nat) (cI cC cZ cB cJ : ClassId) (wJ tX jE mX pD oO oQ eG sz : Nat) (p0 bZ bD bI aI : Int32) (post : Int32 → Prop) (hw : wp_X3_hasFruit post p0 bZ) : Met l yX3_hasFruit (gw yX3_hasFruit cX3_hasFruit 2 (some .boolean)) rm_X3_hasFruit (va_Pc [.ref wJ, .int p0] (gPre (dC, dI) (tyl cI cC cZ cB cJ) (wd_X3_hasFruit cI cC cZ cB cJ wJ tX jE mX pD oO oQ eG bZ bD bI aI) sz)) (q_X3_hasFruit dC dI cI cC cZ cB cJ (va_A (wd_X3_hasFruit cI cC cZ cB cJ wJ tX jE mX pD oO oQ eG bZ bD bI aI) sz) wJ tX jE mX pD oO oQ eG bZ bD bI aI post) 0 0 (va_A (wd_X3_hasFruit cI cC cZ cB cJ wJ tX jE mX pD oO oQ eG bZ bD bI aI) sz) := by
  refine g_enter (own := RX3) (dC, dI) (tyl cI cC cZ cB cJ) (wd_X3_hasFruit cI cC cZ cB cJ wJ tX jE mX pD oO oQ eG bZ bD bI aI) sz [.ref wJ, .int p0] (fun A => q_X3_hasFruit dC dI cI cC cZ cB cJ A wJ tX jE mX pD oO oQ eG bZ bD bI aI post) pn_RX3 rfl (Nat.le_of_ble_eq_true rfl) ?_
  intro p e s m args below meth c A H locs ls C0 hP hD hS hl
  have hl : lv_has ls 2 [(0, .ref wJ), (1, .int p0)] := hl
  obtain ⟨hx, hb, hr, hml, hown, hts, hlocks, hA, hK, hN, tL, tM, hZL, hTL, hZM, hTM, hZX⟩ := id C0
  have hp := hw
  unfold wp_X3_hasFruit at hp
  refine lv_iload_n hx hb eX3_hasFruit_0.1 rfl (lv_at hl 1 rfl) ?_
  refine lv_if_lt (tgt := 16) hx hb eX3_hasFruit_0.2.1 (by decide) (fun hc => ?_) (fun hc => ?_)
  · have hp := hp.1 hc
    refine lv_iconst (v := 0) hx hb eX3_hasFruit_0.2.2.2.2.2.2.2.2.1 ic_0 ?_
    exact W.zret (v := 0) hx hb hr rfl (fun t ht hW => ⟨⟨0, (), rfl, hp, by rw [ht]; exact hP, va_K.moved hW.alike hK, hD⟩, hS.F ht⟩) hS.2.2 eX3_hasFruit_0.2.2.2.2.2.2.2.2.2
  · have hp := hp.2 hc
    refine lv_iload_n hx hb eX3_hasFruit_0.2.2.1 rfl (lv_at hl 1 rfl) ?_
    refine lv_aload_n hx hb eX3_hasFruit_0.2.2.2.1 rfl (lv_at hl 0 rfl) ?_
    refine va_get (D := (dC, dI)) (ci := 3) (v := .int bZ) (C := RX3) (T := TX3) (N := 11) hx hb hts i_X3 hown hK hP 0 rfl rfl 7 (Nat.le_of_ble_eq_true rfl) (hts _ q_20) (fun _ h9 => h9) rfl eX3_hasFruit_0.2.2.2.2.1 ?_
    refine lv_icmp_ge (tgt := 16) hx hb eX3_hasFruit_0.2.2.2.2.2.1 (by decide) (fun hc => ?_) (fun hc => ?_)
    · have hp := hp.1 hc
      refine lv_iconst (v := 0) hx hb eX3_hasFruit_0.2.2.2.2.2.2.2.2.1 ic_0 ?_
      exact W.zret (v := 0) hx hb hr rfl (fun t ht hW => ⟨⟨0, (), rfl, hp, by rw [ht]; exact hP, va_K.moved hW.alike hK, hD⟩, hS.F ht⟩) hS.2.2 eX3_hasFruit_0.2.2.2.2.2.2.2.2.2
    · have hp := hp.2 hc
      refine lv_iconst (v := 1) hx hb eX3_hasFruit_0.2.2.2.2.2.2.1 ic_1 ?_
      refine lv_goto (tgt := 17) hx hb eX3_hasFruit_0.2.2.2.2.2.2.2.1 (by decide) ?_
      exact W.zret (v := 1) hx hb hr rfl (fun t ht hW => ⟨⟨1, (), rfl, hp, by rw [ht]; exact hP, va_K.moved hW.alike hK, hD⟩, hS.F ht⟩) hS.2.2 eX3_hasFruit_0.2.2.2.2.2.2.2.2.2
noncomputable abbrev wd_X3_allFruits (cI cC cZ cB cJ : ClassId) (wJ tX jE mX pD oO oQ eG : Nat) (bZ bD bI aI : Int32) : va_W := [(wJ, .inr (3, [.ref tX, .ref jE, .ref mX, .ref pD, .ref oO, .ref oQ, .ref eG, .int bZ, .int bD, .int bI, .int aI]))]
noncomputable abbrev q_X3_allFruits (dC : Nat → ClassId) (dI : Nat → Nat → Nat) (cI cC cZ cB cJ : ClassId) (A : Nat → Prop) (wJ tX jE mX pD oO oQ eG : Nat) (bZ bD bI aI : Int32) (post : Int32 → Prop) : Array Value → State → Outcome → State → Prop := va_Qi (fun (r : Int32) (u : Unit) => post r) (fun u t => gB (dC, dI) (tyl cI cC cZ cB cJ) A (wd_X3_allFruits cI cC cZ cB cJ wJ tX jE mX pD oO oQ eG bZ bD bI aI) t) A
noncomputable abbrev rm_X3_allFruits : Room := { frames := 0, cells := 0, slots := 0, locals := 0 }
noncomputable def wp_X3_allFruits (post : Int32 → Prop) (bZ : Int32) : Prop := ∀ v_1 : Int32, v_1 = 1 <<< (bZ &&& 31) → post (v_1 - 1)
set_option maxHeartbeats 4000000 in
set_option maxRecDepth 100000 in
theorem c_X3_allFruits (l : Launch) (dC : Nat → ClassId) (dI : Nat → Nat → Nat) (cI cC cZ cB cJ : ClassId) (wJ tX jE mX pD oO oQ eG sz : Nat) (bZ bD bI aI : Int32) (post : Int32 → Prop) (hw : wp_X3_allFruits post bZ) : Met l yX3_allFruits (gw yX3_allFruits cX3_allFruits 1 (some .int)) rm_X3_allFruits (va_Pc [.ref wJ] (gPre (dC, dI) (tyl cI cC cZ cB cJ) (wd_X3_allFruits cI cC cZ cB cJ wJ tX jE mX pD oO oQ eG bZ bD bI aI) sz)) (q_X3_allFruits dC dI cI cC cZ cB cJ (va_A (wd_X3_allFruits cI cC cZ cB cJ wJ tX jE mX pD oO oQ eG bZ bD bI aI) sz) wJ tX jE mX pD oO oQ eG bZ bD bI aI post) 0 0 (va_A (wd_X3_allFruits cI cC cZ cB cJ wJ tX jE mX pD oO oQ eG bZ bD bI aI) sz) := by
  refine g_enter (own := RX3) (dC, dI) (tyl cI cC cZ cB cJ) (wd_X3_allFruits cI cC cZ cB cJ wJ tX jE mX pD oO oQ eG bZ bD bI aI) sz [.ref wJ] (fun A => q_X3_allFruits dC dI cI cC cZ cB cJ A wJ tX jE mX pD oO oQ eG bZ bD bI aI post) pn_RX3 rfl (Nat.le_of_ble_eq_true rfl) ?_
  intro p e s m args below meth c A H locs ls C0 hP hD hS hl
  have hl : lv_has ls 1 [(0, .ref wJ)] := hl
  obtain ⟨hx, hb, hr, hml, hown, hts, hlocks, hA, hK, hN, tL, tM, hZL, hTL, hZM, hTM, hZX⟩ := id C0
  have hp := hw
  unfold wp_X3_allFruits at hp
  refine lv_iconst (v := 1) hx hb eX3_allFruits_0.1 ic_1 ?_
  refine lv_aload_n hx hb eX3_allFruits_0.2.1 rfl (lv_at hl 0 rfl) ?_
  refine va_get (D := (dC, dI)) (ci := 3) (v := .int bZ) (C := RX3) (T := TX3) (N := 11) hx hb hts i_X3 hown hK hP 0 rfl rfl 7 (Nat.le_of_ble_eq_true rfl) (hts _ q_20) (fun _ h9 => h9) rfl eX3_allFruits_0.2.2.1 ?_
  refine lv_ishl hx hb eX3_allFruits_0.2.2.2.1 ?_
  refine lv_topi (fun v_1 ev_1 => ?_)
  have hp := hp v_1 ev_1
  refine lv_iconst (v := 1) hx hb eX3_allFruits_0.2.2.2.2.1 ic_1 ?_
  refine lv_isub hx hb eX3_allFruits_0.2.2.2.2.2.1 ?_
  exact W.iret (v := v_1 - 1) hx hb hr (fun t ht hW => ⟨⟨v_1 - 1, (), rfl, hp, by rw [ht]; exact hP, va_K.moved hW.alike hK, hD⟩, hS.F ht⟩) hS.2.2 eX3_allFruits_0.2.2.2.2.2.2
noncomputable abbrev wd_X0_hanging (cI cC cZ cB cJ : ClassId) (wY wJ wQ xH tX jE mX pD oO oQ eG : Nat) (bZ bD bI aI jC eO eW dO fJ fY jD nG : Int32) : va_W := [(wY, .inr (0, [.ref wJ, .ref wQ, .ref xH])), (wJ, .inr (3, [.ref tX, .ref jE, .ref mX, .ref pD, .ref oO, .ref oQ, .ref eG, .int bZ, .int bD, .int bI, .int aI])), (wQ, .inr (2, [.int jC, .int eO, .int eW, .int dO, .int fJ, .int fY, .int jD, .int nG]))]
noncomputable abbrev q_X0_hanging (dC : Nat → ClassId) (dI : Nat → Nat → Nat) (cI cC cZ cB cJ : ClassId) (A : Nat → Prop) (wY wJ wQ xH tX jE mX pD oO oQ eG : Nat) (bZ bD bI aI jC eO eW dO fJ fY jD nG : Int32) (post : Int32 → Prop) : Array Value → State → Outcome → State → Prop := va_Qi (fun (r : Int32) (u : Unit) => post r) (fun u t => gB (dC, dI) (tyl cI cC cZ cB cJ) A (wd_X0_hanging cI cC cZ cB cJ wY wJ wQ xH tX jE mX pD oO oQ eG bZ bD bI aI jC eO eW dO fJ fY jD nG) t) A
noncomputable abbrev rm_X0_hanging : Room := { frames := 1, cells := 0, slots := 0, locals := 20 }
noncomputable def wp_X0_hanging (post : Int32 → Prop) (bZ jC eO eW : Int32) : Prop := wp_X3_allFruits (fun r_1 => ∀ v_2 : Int32, v_2 = jC ||| eO → ∀ v_3 : Int32, v_3 = v_2 ||| eW → post (r_1 &&& (v_3 ^^^ (-1)))) bZ
set_option maxHeartbeats 4000000 in
set_option maxRecDepth 100000 in
theorem c_X0_hanging (l : Launch) (dC : Nat → ClassId) (dI : Nat → Nat → Nat) (cI cC cZ cB cJ : ClassId) (wY wJ wQ xH tX jE mX pD oO oQ eG sz : Nat) (bZ bD bI aI jC eO eW dO fJ fY jD nG : Int32) (post : Int32 → Prop) (hw : wp_X0_hanging post bZ jC eO eW) : Met l yX0_hanging (gw yX0_hanging cX0_hanging 1 (some .int)) rm_X0_hanging (va_Pc [.ref wY] (gPre (dC, dI) (tyl cI cC cZ cB cJ) (wd_X0_hanging cI cC cZ cB cJ wY wJ wQ xH tX jE mX pD oO oQ eG bZ bD bI aI jC eO eW dO fJ fY jD nG) sz)) (q_X0_hanging dC dI cI cC cZ cB cJ (va_A (wd_X0_hanging cI cC cZ cB cJ wY wJ wQ xH tX jE mX pD oO oQ eG bZ bD bI aI jC eO eW dO fJ fY jD nG) sz) wY wJ wQ xH tX jE mX pD oO oQ eG bZ bD bI aI jC eO eW dO fJ fY jD nG post) 0 0 (va_A (wd_X0_hanging cI cC cZ cB cJ wY wJ wQ xH tX jE mX pD oO oQ eG bZ bD bI aI jC eO eW dO fJ fY jD nG) sz) := by
  refine g_enter (own := RX0) (dC, dI) (tyl cI cC cZ cB cJ) (wd_X0_hanging cI cC cZ cB cJ wY wJ wQ xH tX jE mX pD oO oQ eG bZ bD bI aI jC eO eW dO fJ fY jD nG) sz [.ref wY] (fun A => q_X0_hanging dC dI cI cC cZ cB cJ A wY wJ wQ xH tX jE mX pD oO oQ eG bZ bD bI aI jC eO eW dO fJ fY jD nG post) pn_RX0 rfl (Nat.le_of_ble_eq_true rfl) ?_
  intro p e s m args below meth c A H locs ls C0 hP hD hS hl
  have hl : lv_has ls 1 [(0, .ref wY)] := hl
  obtain ⟨hx, hb, hr, hml, hown, hts, hlocks, hA, hK, hN, tL, tM, hZL, hTL, hZM, hTM, hZX⟩ := id C0
  have hp := hw
  unfold wp_X0_hanging at hp
  refine lv_aload_n hx hb eX0_hanging_0.1 rfl (lv_at hl 0 rfl) ?_
  refine va_get (D := (dC, dI)) (ci := 0) (v := .ref wJ) (C := RX0) (T := TX0) (N := 3) hx hb hts i_X0 hown hK hP 0 rfl rfl 0 (Nat.le_of_ble_eq_true rfl) (hts _ q_156) (fun _ h9 => h9) rfl eX0_hanging_0.2.1 ?_
  have hm := mgk (wc := (wd_X3_allFruits cI cC cZ cB cJ wJ tX jE mX pD oO oQ eG bZ bD bI aI)) hP mk_31 3 rfl rfl rfl
  refine g_calli hP hD hS hA (mixT mk_31) (mixF mk_31) hm.1 hm.2 (nd_F _) (dis_g _) (g_runV (As := []) (rest := []) C0 hP hD hS (mixT mk_31) hm.1 (nd_T _) 1 3 rfl rfl (c_X3_allFruits l dC dI cI cC cZ cB cJ wJ tX jE mX pD oO oQ eG H.size bZ bD bI aI _ hp) q_157 q_160 q_158 q_159 q_48 h_X3_allFruits rfl rfl ⟨Nat.le_of_ble_eq_true rfl, Nat.le_of_ble_eq_true rfl⟩ rfl rfl hl.1 rfl (lv_room (Nat.le_of_ble_eq_true rfl)) eX0_hanging_0.2.2.1 ⟨Nat.zero_le _, Nat.zero_le _⟩) (fun r_1 u H locs hp hP hD hS => ?_)
  have hPD := PDm (ws' := (wd_X0_hanging cI cC cZ cB cJ wY wJ wQ xH tX jE mX pD oO oQ eG bZ bD bI aI jC eO eW dO fJ fY jD nG)) hP hD 3 rfl rfl rfl
  have hP := hPD.1
  have hD := hPD.2
  refine lv_aload_n hx hb eX0_hanging_0.2.2.2.1 rfl (lv_at hl 0 rfl) ?_
  refine va_get (D := (dC, dI)) (ci := 0) (v := .ref wQ) (C := RX0) (T := TX0) (N := 3) hx hb hts i_X0 hown hK hP 0 rfl rfl 1 (Nat.le_of_ble_eq_true rfl) (hts _ q_161) (fun _ h9 => h9) rfl eX0_hanging_0.2.2.2.2.1 ?_
  refine va_get (D := (dC, dI)) (ci := 2) (v := .int jC) (C := RX2) (T := TX2) (N := 8) hx hb hts i_X2 hown hK hP 2 rfl rfl 0 (Nat.le_of_ble_eq_true rfl) (hts _ q_162) (fun _ h9 => h9) rfl eX0_hanging_0.2.2.2.2.2.1 ?_
  refine lv_aload_n hx hb eX0_hanging_0.2.2.2.2.2.2.1 rfl (lv_at hl 0 rfl) ?_
  refine va_get (D := (dC, dI)) (ci := 0) (v := .ref wQ) (C := RX0) (T := TX0) (N := 3) hx hb hts i_X0 hown hK hP 0 rfl rfl 1 (Nat.le_of_ble_eq_true rfl) (hts _ q_161) (fun _ h9 => h9) rfl eX0_hanging_0.2.2.2.2.2.2.2.1 ?_
  refine va_get (D := (dC, dI)) (ci := 2) (v := .int eO) (C := RX2) (T := TX2) (N := 8) hx hb hts i_X2 hown hK hP 2 rfl rfl 1 (Nat.le_of_ble_eq_true rfl) (hts _ q_163) (fun _ h9 => h9) rfl eX0_hanging_0.2.2.2.2.2.2.2.2.1 ?_
  refine lv_ior hx hb eX0_hanging_0.2.2.2.2.2.2.2.2.2.1 ?_
  refine lv_topi (fun v_2 ev_2 => ?_)
  have hp := hp v_2 ev_2
  refine lv_aload_n hx hb eX0_hanging_0.2.2.2.2.2.2.2.2.2.2.1 rfl (lv_at hl 0 rfl) ?_
  refine va_get (D := (dC, dI)) (ci := 0) (v := .ref wQ) (C := RX0) (T := TX0) (N := 3) hx hb hts i_X0 hown hK hP 0 rfl rfl 1 (Nat.le_of_ble_eq_true rfl) (hts _ q_161) (fun _ h9 => h9) rfl eX0_hanging_0.2.2.2.2.2.2.2.2.2.2.2.1 ?_
  refine va_get (D := (dC, dI)) (ci := 2) (v := .int eW) (C := RX2) (T := TX2) (N := 8) hx hb hts i_X2 hown hK hP 2 rfl rfl 2 (Nat.le_of_ble_eq_true rfl) (hts _ q_164) (fun _ h9 => h9) rfl eX0_hanging_0.2.2.2.2.2.2.2.2.2.2.2.2.1 ?_
  refine lv_ior hx hb eX0_hanging_0.2.2.2.2.2.2.2.2.2.2.2.2.2.1 ?_
  refine lv_topi (fun v_3 ev_3 => ?_)
  have hp := hp v_3 ev_3
  refine lv_iconst (v := (-1)) hx hb eX0_hanging_0.2.2.2.2.2.2.2.2.2.2.2.2.2.2.1 ic_m1 ?_
  refine lv_ixor hx hb eX0_hanging_0.2.2.2.2.2.2.2.2.2.2.2.2.2.2.2 ?_
  refine lv_iand hx hb eX0_hanging_32.1 ?_
  exact W.iret (v := r_1 &&& (v_3 ^^^ (-1))) hx hb hr (fun t ht hW => ⟨⟨r_1 &&& (v_3 ^^^ (-1)), (), rfl, hp, by rw [ht]; exact hP, va_K.moved hW.alike hK, hD⟩, hS.F ht⟩) hS.2.2 eX0_hanging_32.2
noncomputable abbrev wd_X3_lowerThan (cI cC cZ cB cJ : ClassId) (wJ tX jE mX pD oO oQ eG : Nat) (bZ bD bI aI : Int32) (wD gF : Nat → Int32) : va_W := [(wJ, .inr (3, [.ref tX, .ref jE, .ref mX, .ref pD, .ref oO, .ref oQ, .ref eG, .int bZ, .int bD, .int bI, .int aI])), (tX, .inl (cI, 16, .inl wD)), (jE, .inl (cI, 16, .inl gF))]
noncomputable abbrev q_X3_lowerThan (dC : Nat → ClassId) (dI : Nat → Nat → Nat) (cI cC cZ cB cJ : ClassId) (A : Nat → Prop) (wJ tX jE mX pD oO oQ eG : Nat) (bZ bD bI aI : Int32) (wD gF : Nat → Int32) (post : Int32 → Prop) : Array Value → State → Outcome → State → Prop := va_Qi (fun (r : Int32) (u : Unit) => post r) (fun u t => gB (dC, dI) (tyl cI cC cZ cB cJ) A (wd_X3_lowerThan cI cC cZ cB cJ wJ tX jE mX pD oO oQ eG bZ bD bI aI wD gF) t) A
noncomputable abbrev rm_X3_lowerThan : Room := { frames := 1, cells := 0, slots := 0, locals := 21 }
section S_X3_lowerThan
variable {p : Program} {l : Launch} {e : Env} {s : State} {m : MethodId} {args : Array Value} {below : List Frame} {meth : Method} {c : Code} {dC : Nat → ClassId} {dI : Nat → Nat → Nat} {cI cC cZ cB cJ : ClassId} {A : Nat → Prop} {wJ tX jE mX pD oO oQ eG : Nat} {bZ bD bI aI : Int32} {wD gF : Nat → Int32} {post : Int32 → Prop}
noncomputable def ws_X3_lowerThan_89 (post : Int32 → Prop) (K15 : Int32 → Int32 → Int32 → Int32 → Prop) (bZ : Int32) (wD gF : Nat → Int32) (x1 x2 x3 x4 : Int32) : Prop := ∀ v_5 : Int32, v_5 = x4 + 1 → K15 x1 x2 x3 v_5
set_option maxHeartbeats 4000000 in
set_option maxRecDepth 100000 in
theorem ks_X3_lowerThan_89 (C0 : gc cX3_lowerThan (some .int) 6 RX3 (dC, dI) (tyl cI cC cZ cB cJ) A p s m args meth c) {K15 : Int32 → Int32 → Int32 → Int32 → Prop} (hK15 : ∀ (x1 : Int32) (x2 : Int32) (x3 : Int32) (x4 : Int32) (H : Heap) (locs : List Loc) (ls : Array Slot), K15 x1 x2 x3 x4 → va_P (dC, dI) classes (wd_X3_lowerThan cI cC cZ cB cJ wJ tX jE mX pD oO oQ eG bZ bD bI aI wD gF) H → va_D A (wd_X3_lowerThan cI cC cZ cB cJ wJ tX jE mX pD oO oQ eG bZ bD bI aI wD gF) → va_S A s.heap H locs → lv_has ls 6 [(0, .ref wJ), (1, .int x1), (2, .int x2), (3, .int x3), (4, .int x4)] → W p l e rm_X3_lowerThan s m args below meth c H locs 0 0 (MQ below (q_X3_lowerThan dC dI cI cC cZ cB cJ A wJ tX jE mX pD oO oQ eG bZ bD bI aI wD gF post) args s 0 0 A) (F0 m 15 ls [])) : ∀ (x1 x2 x3 x4 : Int32) (H : Heap) (locs : List Loc) (ls : Array Slot), (ws_X3_lowerThan_89 post K15 bZ wD gF) x1 x2 x3 x4 → va_P (dC, dI) classes (wd_X3_lowerThan cI cC cZ cB cJ wJ tX jE mX pD oO oQ eG bZ bD bI aI wD gF) H → va_D A (wd_X3_lowerThan cI cC cZ cB cJ wJ tX jE mX pD oO oQ eG bZ bD bI aI wD gF) → va_S A s.heap H locs → lv_has ls 6 [(0, .ref wJ), (1, .int x1), (2, .int x2), (3, .int x3), (4, .int x4)] → W p l e rm_X3_lowerThan s m args below meth c H locs 0 0 (MQ below (q_X3_lowerThan dC dI cI cC cZ cB cJ A wJ tX jE mX pD oO oQ eG bZ bD bI aI wD gF post) args s 0 0 A) (F0 m 89 ls []) := by
  obtain ⟨hx, hb, hr, hml, hown, hts, hlocks, hA, hK, hN, tL, tM, hZL, hTL, hZM, hTM, hZX⟩ := id C0
  intro x1 x2 x3 x4 H locs ls hp hP hD hS hl
  unfold ws_X3_lowerThan_89 at hp
  obtain ⟨v_5, ev_5⟩ : ∃ y : Int32, y = x4 + 1 := ⟨_, rfl⟩
  refine lv_iinc (v := v_5) (lv' := [(4, .int v_5), (0, .ref wJ), (1, .int x1), (2, .int x2), (3, .int x3)]) hx hb eX3_lowerThan_79.2.2.2.2.2.2.2.1 hl (k := 4) rfl (by rw [ev_5]; rfl) (by decide) rfl (fun ls hl => ?_)
  have hp := hp v_5 ev_5
  refine lv_goto (tgt := 15) hx hb eX3_lowerThan_79.2.2.2.2.2.2.2.2.1 (by decide) ?_
  exact hK15 x1 x2 x3 v_5 H locs ls hp hP hD hS (lv_sub hl [1, 2, 3, 4, 0] rfl)
noncomputable def ws_X3_lowerThan_66 (post : Int32 → Prop) (K15 : Int32 → Int32 → Int32 → Int32 → Prop) (bZ : Int32) (wD gF : Nat → Int32) (x1 x2 x3 x4 k0 : Int32) : Prop := (k0 = 0 → ws_X3_lowerThan_89 post K15 bZ wD gF x1 x2 x3 x4) ∧ (¬ k0 = 0 → ∀ v_6 : Int32, v_6 = x2 >>> (x4 &&& 31) → ((v_6 &&& 1) = 0 → ws_X3_lowerThan_89 post K15 bZ wD gF x1 x2 x3 x4) ∧ (¬ (v_6 &&& 1) = 0 → ∀ v_7 : Int32, v_7 = x3 ||| (1 <<< (x4 &&& 31)) → ws_X3_lowerThan_89 post K15 bZ wD gF x1 x2 v_7 x4))
set_option maxHeartbeats 4000000 in
set_option maxRecDepth 100000 in
theorem ks_X3_lowerThan_66 (C0 : gc cX3_lowerThan (some .int) 6 RX3 (dC, dI) (tyl cI cC cZ cB cJ) A p s m args meth c) {K15 : Int32 → Int32 → Int32 → Int32 → Prop} (hK15 : ∀ (x1 : Int32) (x2 : Int32) (x3 : Int32) (x4 : Int32) (H : Heap) (locs : List Loc) (ls : Array Slot), K15 x1 x2 x3 x4 → va_P (dC, dI) classes (wd_X3_lowerThan cI cC cZ cB cJ wJ tX jE mX pD oO oQ eG bZ bD bI aI wD gF) H → va_D A (wd_X3_lowerThan cI cC cZ cB cJ wJ tX jE mX pD oO oQ eG bZ bD bI aI wD gF) → va_S A s.heap H locs → lv_has ls 6 [(0, .ref wJ), (1, .int x1), (2, .int x2), (3, .int x3), (4, .int x4)] → W p l e rm_X3_lowerThan s m args below meth c H locs 0 0 (MQ below (q_X3_lowerThan dC dI cI cC cZ cB cJ A wJ tX jE mX pD oO oQ eG bZ bD bI aI wD gF post) args s 0 0 A) (F0 m 15 ls [])) : ∀ (x1 x2 x3 x4 k0 : Int32) (H : Heap) (locs : List Loc) (ls : Array Slot), (ws_X3_lowerThan_66 post K15 bZ wD gF) x1 x2 x3 x4 k0 → va_P (dC, dI) classes (wd_X3_lowerThan cI cC cZ cB cJ wJ tX jE mX pD oO oQ eG bZ bD bI aI wD gF) H → va_D A (wd_X3_lowerThan cI cC cZ cB cJ wJ tX jE mX pD oO oQ eG bZ bD bI aI wD gF) → va_S A s.heap H locs → lv_has ls 6 [(0, .ref wJ), (1, .int x1), (2, .int x2), (3, .int x3), (4, .int x4)] → W p l e rm_X3_lowerThan s m args below meth c H locs 0 0 (MQ below (q_X3_lowerThan dC dI cI cC cZ cB cJ A wJ tX jE mX pD oO oQ eG bZ bD bI aI wD gF post) args s 0 0 A) (F0 m 66 ls [.int k0]) := by
  obtain ⟨hx, hb, hr, hml, hown, hts, hlocks, hA, hK, hN, tL, tM, hZL, hTL, hZM, hTM, hZX⟩ := id C0
  intro x1 x2 x3 x4 k0 H locs ls hp hP hD hS hl
  unfold ws_X3_lowerThan_66 at hp
  refine lv_istore (lv' := [(5, .int k0), (0, .ref wJ), (1, .int x1), (2, .int x2), (3, .int x3), (4, .int x4)]) hx hb eX3_lowerThan_52.2.2.2.2.2.2.2.2.1 hl (by decide) rfl (fun ls hl => ?_)
  refine lv_iload hx hb eX3_lowerThan_52.2.2.2.2.2.2.2.2.2.1 (lv_at hl 0 rfl) ?_
  refine lv_if_eq (tgt := 89) hx hb eX3_lowerThan_52.2.2.2.2.2.2.2.2.2.2.1 (by decide) (fun hc => ?_) (fun hc => ?_)
  · have hp := hp.1 hc
    exact ks_X3_lowerThan_89 C0 hK15 x1 x2 x3 x4 H locs ls hp hP hD hS (lv_sub hl [1, 2, 3, 4, 5] rfl)
  · have hp := hp.2 hc
    refine lv_iload_n hx hb eX3_lowerThan_52.2.2.2.2.2.2.2.2.2.2.2.1 rfl (lv_at hl 3 rfl) ?_
    refine lv_iload hx hb eX3_lowerThan_52.2.2.2.2.2.2.2.2.2.2.2.2.1 (lv_at hl 5 rfl) ?_
    refine lv_ishr hx hb eX3_lowerThan_52.2.2.2.2.2.2.2.2.2.2.2.2.2.1 ?_
    refine lv_topi (fun v_6 ev_6 => ?_)
    have hp := hp v_6 ev_6
    refine lv_iconst (v := 1) hx hb eX3_lowerThan_52.2.2.2.2.2.2.2.2.2.2.2.2.2.2.1 ic_1 ?_
    refine lv_iand hx hb eX3_lowerThan_52.2.2.2.2.2.2.2.2.2.2.2.2.2.2.2 ?_
    refine lv_if_eq (tgt := 89) hx hb eX3_lowerThan_79.1 (by decide) (fun hc => ?_) (fun hc => ?_)
    · have hp := hp.1 hc
      exact ks_X3_lowerThan_89 C0 hK15 x1 x2 x3 x4 H locs ls hp hP hD hS (lv_sub hl [1, 2, 3, 4, 5] rfl)
    · have hp := hp.2 hc
      refine lv_iload_n hx hb eX3_lowerThan_79.2.1 rfl (lv_at hl 4 rfl) ?_
      refine lv_iconst (v := 1) hx hb eX3_lowerThan_79.2.2.1 ic_1 ?_
      refine lv_iload hx hb eX3_lowerThan_79.2.2.2.1 (lv_at hl 5 rfl) ?_
      refine lv_ishl hx hb eX3_lowerThan_79.2.2.2.2.1 ?_
      refine lv_ior hx hb eX3_lowerThan_79.2.2.2.2.2.1 ?_
      refine lv_topi (fun v_7 ev_7 => ?_)
      have hp := hp v_7 ev_7
      refine lv_istore_n (lv' := [(3, .int v_7), (5, .int k0), (0, .ref wJ), (1, .int x1), (2, .int x2), (4, .int x4)]) hx hb eX3_lowerThan_79.2.2.2.2.2.2.1 rfl hl (by decide) rfl (fun ls hl => ?_)
      exact ks_X3_lowerThan_89 C0 hK15 x1 x2 v_7 x4 H locs ls hp hP hD hS (lv_sub hl [2, 3, 4, 0, 5] rfl)
noncomputable def ws_X3_lowerThan_65 (post : Int32 → Prop) (K15 : Int32 → Int32 → Int32 → Int32 → Prop) (bZ : Int32) (wD gF : Nat → Int32) (x1 x2 x3 x4 : Int32) : Prop := ws_X3_lowerThan_66 post K15 bZ wD gF x1 x2 x3 x4 0
set_option maxHeartbeats 4000000 in
set_option maxRecDepth 100000 in
theorem ks_X3_lowerThan_65 (C0 : gc cX3_lowerThan (some .int) 6 RX3 (dC, dI) (tyl cI cC cZ cB cJ) A p s m args meth c) {K15 : Int32 → Int32 → Int32 → Int32 → Prop} (hK15 : ∀ (x1 : Int32) (x2 : Int32) (x3 : Int32) (x4 : Int32) (H : Heap) (locs : List Loc) (ls : Array Slot), K15 x1 x2 x3 x4 → va_P (dC, dI) classes (wd_X3_lowerThan cI cC cZ cB cJ wJ tX jE mX pD oO oQ eG bZ bD bI aI wD gF) H → va_D A (wd_X3_lowerThan cI cC cZ cB cJ wJ tX jE mX pD oO oQ eG bZ bD bI aI wD gF) → va_S A s.heap H locs → lv_has ls 6 [(0, .ref wJ), (1, .int x1), (2, .int x2), (3, .int x3), (4, .int x4)] → W p l e rm_X3_lowerThan s m args below meth c H locs 0 0 (MQ below (q_X3_lowerThan dC dI cI cC cZ cB cJ A wJ tX jE mX pD oO oQ eG bZ bD bI aI wD gF post) args s 0 0 A) (F0 m 15 ls [])) : ∀ (x1 x2 x3 x4 : Int32) (H : Heap) (locs : List Loc) (ls : Array Slot), (ws_X3_lowerThan_65 post K15 bZ wD gF) x1 x2 x3 x4 → va_P (dC, dI) classes (wd_X3_lowerThan cI cC cZ cB cJ wJ tX jE mX pD oO oQ eG bZ bD bI aI wD gF) H → va_D A (wd_X3_lowerThan cI cC cZ cB cJ wJ tX jE mX pD oO oQ eG bZ bD bI aI wD gF) → va_S A s.heap H locs → lv_has ls 6 [(0, .ref wJ), (1, .int x1), (2, .int x2), (3, .int x3), (4, .int x4)] → W p l e rm_X3_lowerThan s m args below meth c H locs 0 0 (MQ below (q_X3_lowerThan dC dI cI cC cZ cB cJ A wJ tX jE mX pD oO oQ eG bZ bD bI aI wD gF post) args s 0 0 A) (F0 m 65 ls []) := by
  obtain ⟨hx, hb, hr, hml, hown, hts, hlocks, hA, hK, hN, tL, tM, hZL, hTL, hZM, hTM, hZX⟩ := id C0
  intro x1 x2 x3 x4 H locs ls hp hP hD hS hl
  unfold ws_X3_lowerThan_65 at hp
  refine lv_iconst (v := 0) hx hb eX3_lowerThan_52.2.2.2.2.2.2.2.1 ic_0 ?_
  exact ks_X3_lowerThan_66 C0 hK15 x1 x2 x3 x4 0 H locs ls hp hP hD hS (lv_sub hl [0, 1, 2, 3, 4] rfl)
noncomputable def ws_X3_lowerThan_15 (post : Int32 → Prop) (next : Int32 → Int32 → Int32 → Int32 → Prop) (bZ : Int32) (wD gF : Nat → Int32) (x1 x2 x3 x4 : Int32) : Prop := (bZ ≤ x4 → post x3) ∧ (¬ bZ ≤ x4 → vp_in x4 16 ∧ (∀ v_2 : Int32, v_2 = wD x4.toNatClampNeg → vp_in x1 16 ∧ (∀ v_3 : Int32, v_3 = v_2 - (wD x1.toNatClampNeg) → ∀ v_4 : Int32, v_4 = (if 0 ≤ v_3 then v_3 else 0 - v_3) → (1 < v_4 → ws_X3_lowerThan_65 post next bZ wD gF x1 x2 x3 x4) ∧ (¬ 1 < v_4 → vp_in x4 16 ∧ (∀ v_8 : Int32, v_8 = gF x4.toNatClampNeg → vp_in x1 16 ∧ (((gF x1.toNatClampNeg) ≤ v_8 → ws_X3_lowerThan_65 post next bZ wD gF x1 x2 x3 x4) ∧ (¬ (gF x1.toNatClampNeg) ≤ v_8 → ws_X3_lowerThan_66 post next bZ wD gF x1 x2 x3 x4 1)))))))
noncomputable def wb_X3_lowerThan_15 (post : Int32 → Prop) (bZ : Int32) (wD gF : Nat → Int32) : Nat → Int32 → Int32 → Int32 → Int32 → Prop := fun n => Nat.rec (motive := fun _ => Int32 → Int32 → Int32 → Int32 → Prop) (fun _ _ _ _ => False) (fun _ ih => ws_X3_lowerThan_15 post ih bZ wD gF) n
set_option maxHeartbeats 4000000 in
set_option maxRecDepth 100000 in
theorem ks_X3_lowerThan_15 (C0 : gc cX3_lowerThan (some .int) 6 RX3 (dC, dI) (tyl cI cC cZ cB cJ) A p s m args meth c) {next : Int32 → Int32 → Int32 → Int32 → Prop} (hKn : ∀ (x1 : Int32) (x2 : Int32) (x3 : Int32) (x4 : Int32) (H : Heap) (locs : List Loc) (ls : Array Slot), next x1 x2 x3 x4 → va_P (dC, dI) classes (wd_X3_lowerThan cI cC cZ cB cJ wJ tX jE mX pD oO oQ eG bZ bD bI aI wD gF) H → va_D A (wd_X3_lowerThan cI cC cZ cB cJ wJ tX jE mX pD oO oQ eG bZ bD bI aI wD gF) → va_S A s.heap H locs → lv_has ls 6 [(0, .ref wJ), (1, .int x1), (2, .int x2), (3, .int x3), (4, .int x4)] → W p l e rm_X3_lowerThan s m args below meth c H locs 0 0 (MQ below (q_X3_lowerThan dC dI cI cC cZ cB cJ A wJ tX jE mX pD oO oQ eG bZ bD bI aI wD gF post) args s 0 0 A) (F0 m 15 ls [])) : ∀ (x1 x2 x3 x4 : Int32) (H : Heap) (locs : List Loc) (ls : Array Slot), (ws_X3_lowerThan_15 post next bZ wD gF) x1 x2 x3 x4 → va_P (dC, dI) classes (wd_X3_lowerThan cI cC cZ cB cJ wJ tX jE mX pD oO oQ eG bZ bD bI aI wD gF) H → va_D A (wd_X3_lowerThan cI cC cZ cB cJ wJ tX jE mX pD oO oQ eG bZ bD bI aI wD gF) → va_S A s.heap H locs → lv_has ls 6 [(0, .ref wJ), (1, .int x1), (2, .int x2), (3, .int x3), (4, .int x4)] → W p l e rm_X3_lowerThan s m args below meth c H locs 0 0 (MQ below (q_X3_lowerThan dC dI cI cC cZ cB cJ A wJ tX jE mX pD oO oQ eG bZ bD bI aI wD gF post) args s 0 0 A) (F0 m 15 ls []) := by
  obtain ⟨hx, hb, hr, hml, hown, hts, hlocks, hA, hK, hN, tL, tM, hZL, hTL, hZM, hTM, hZX⟩ := id C0
  intro x1 x2 x3 x4 H locs ls hp hP hD hS hl
  unfold ws_X3_lowerThan_15 at hp
  refine lv_iload hx hb eX3_lowerThan_0.2.2.2.2.2.2.2.2.2.2.2.2.1 (lv_at hl 4 rfl) ?_
  refine lv_aload_n hx hb eX3_lowerThan_0.2.2.2.2.2.2.2.2.2.2.2.2.2.1 rfl (lv_at hl 0 rfl) ?_
  refine va_get (D := (dC, dI)) (ci := 3) (v := .int bZ) (C := RX3) (T := TX3) (N := 11) hx hb hts i_X3 hown hK hP 0 rfl rfl 7 (Nat.le_of_ble_eq_true rfl) (hts _ q_20) (fun _ h9 => h9) rfl eX3_lowerThan_0.2.2.2.2.2.2.2.2.2.2.2.2.2.2.1 ?_
  refine lv_icmp_ge (tgt := 95) hx hb eX3_lowerThan_0.2.2.2.2.2.2.2.2.2.2.2.2.2.2.2 (by decide) (fun hc => ?_) (fun hc => ?_)
  · have hp := hp.1 hc
    refine lv_iload_n hx hb eX3_lowerThan_79.2.2.2.2.2.2.2.2.2.1 rfl (lv_at hl 3 rfl) ?_
    exact W.iret (v := x3) hx hb hr (fun t ht hW => ⟨⟨x3, (), rfl, hp, by rw [ht]; exact hP, va_K.moved hW.alike hK, hD⟩, hS.F ht⟩) hS.2.2 eX3_lowerThan_79.2.2.2.2.2.2.2.2.2.2
  · have hp := hp.2 hc
    refine lv_aload_n hx hb eX3_lowerThan_24.1 rfl (lv_at hl 0 rfl) ?_
    refine va_get (D := (dC, dI)) (ci := 3) (v := .ref tX) (C := RX3) (T := TX3) (N := 11) hx hb hts i_X3 hown hK hP 0 rfl rfl 0 (Nat.le_of_ble_eq_true rfl) (hts _ q_45) (fun _ h9 => h9) rfl eX3_lowerThan_24.2.1 ?_
    refine lv_iload hx hb eX3_lowerThan_24.2.2.1 (lv_at hl 4 rfl) ?_
    have hin := hp.1
    have hp := hp.2
    refine va_iald hx hb hK hP 1 0 rfl rfl hin eX3_lowerThan_24.2.2.2.1 ?_
    refine lv_topi (fun v_2 ev_2 => ?_)
    have hp := hp v_2 ev_2
    refine lv_aload_n hx hb eX3_lowerThan_24.2.2.2.2.1 rfl (lv_at hl 0 rfl) ?_
    refine va_get (D := (dC, dI)) (ci := 3) (v := .ref tX) (C := RX3) (T := TX3) (N := 11) hx hb hts i_X3 hown hK hP 0 rfl rfl 0 (Nat.le_of_ble_eq_true rfl) (hts _ q_45) (fun _ h9 => h9) rfl eX3_lowerThan_24.2.2.2.2.2.1 ?_
    refine lv_iload_n hx hb eX3_lowerThan_24.2.2.2.2.2.2.1 rfl (lv_at hl 1 rfl) ?_
    have hin := hp.1
    have hp := hp.2
    refine va_iald hx hb hK hP 1 0 rfl rfl hin eX3_lowerThan_24.2.2.2.2.2.2.2.1 ?_
    refine lv_isub hx hb eX3_lowerThan_24.2.2.2.2.2.2.2.2.1 ?_
    refine lv_topi (fun v_3 ev_3 => ?_)
    have hp := hp v_3 ev_3
    refine va_mabs hx hb (by rw [hml]; exact hl.1.symm) hown (hts _ q_165) (hts _ q_166) (hts _ q_16) (hts _ q_167) (Nat.le_of_ble_eq_true rfl) (Nat.le_of_ble_eq_true rfl) (Nat.zero_le _) (Nat.zero_le _) eX3_lowerThan_24.2.2.2.2.2.2.2.2.2.1 ?_
    refine lv_topi (fun v_4 ev_4 => ?_)
    have hp := hp v_4 ev_4
    refine lv_iconst (v := 1) hx hb eX3_lowerThan_24.2.2.2.2.2.2.2.2.2.2.1 ic_1 ?_
    refine lv_icmp_gt (tgt := 65) hx hb eX3_lowerThan_24.2.2.2.2.2.2.2.2.2.2.2.1 (by decide) (fun hc => ?_) (fun hc => ?_)
    · have hp := hp.1 hc
      exact ks_X3_lowerThan_65 C0 hKn x1 x2 x3 x4 H locs ls hp hP hD hS (lv_sub hl [0, 1, 2, 3, 4] rfl)
    · have hp := hp.2 hc
      refine lv_aload_n hx hb eX3_lowerThan_24.2.2.2.2.2.2.2.2.2.2.2.2.1 rfl (lv_at hl 0 rfl) ?_
      refine va_get (D := (dC, dI)) (ci := 3) (v := .ref jE) (C := RX3) (T := TX3) (N := 11) hx hb hts i_X3 hown hK hP 0 rfl rfl 1 (Nat.le_of_ble_eq_true rfl) (hts _ q_46) (fun _ h9 => h9) rfl eX3_lowerThan_24.2.2.2.2.2.2.2.2.2.2.2.2.2.1 ?_
      refine lv_iload hx hb eX3_lowerThan_24.2.2.2.2.2.2.2.2.2.2.2.2.2.2.1 (lv_at hl 4 rfl) ?_
      have hin := hp.1
      have hp := hp.2
      refine va_iald hx hb hK hP 2 0 rfl rfl hin eX3_lowerThan_24.2.2.2.2.2.2.2.2.2.2.2.2.2.2.2 ?_
      refine lv_topi (fun v_8 ev_8 => ?_)
      have hp := hp v_8 ev_8
      refine lv_aload_n hx hb eX3_lowerThan_52.1 rfl (lv_at hl 0 rfl) ?_
      refine va_get (D := (dC, dI)) (ci := 3) (v := .ref jE) (C := RX3) (T := TX3) (N := 11) hx hb hts i_X3 hown hK hP 0 rfl rfl 1 (Nat.le_of_ble_eq_true rfl) (hts _ q_46) (fun _ h9 => h9) rfl eX3_lowerThan_52.2.1 ?_
      refine lv_iload_n hx hb eX3_lowerThan_52.2.2.1 rfl (lv_at hl 1 rfl) ?_
      have hin := hp.1
      have hp := hp.2
      refine va_iald hx hb hK hP 2 0 rfl rfl hin eX3_lowerThan_52.2.2.2.1 ?_
      refine lv_icmp_ge (tgt := 65) hx hb eX3_lowerThan_52.2.2.2.2.1 (by decide) (fun hc => ?_) (fun hc => ?_)
      · have hp := hp.1 hc
        exact ks_X3_lowerThan_65 C0 hKn x1 x2 x3 x4 H locs ls hp hP hD hS (lv_sub hl [0, 1, 2, 3, 4] rfl)
      · have hp := hp.2 hc
        refine lv_iconst (v := 1) hx hb eX3_lowerThan_52.2.2.2.2.2.1 ic_1 ?_
        refine lv_goto (tgt := 66) hx hb eX3_lowerThan_52.2.2.2.2.2.2.1 (by decide) ?_
        exact ks_X3_lowerThan_66 C0 hKn x1 x2 x3 x4 1 H locs ls hp hP hD hS (lv_sub hl [0, 1, 2, 3, 4] rfl)
set_option maxHeartbeats 4000000 in
set_option maxRecDepth 100000 in
theorem kb_X3_lowerThan_15 (C0 : gc cX3_lowerThan (some .int) 6 RX3 (dC, dI) (tyl cI cC cZ cB cJ) A p s m args meth c) : ∀ (n : Nat), ∀ (x1 x2 x3 x4 : Int32) (H : Heap) (locs : List Loc) (ls : Array Slot), (wb_X3_lowerThan_15 post bZ wD gF n) x1 x2 x3 x4 → va_P (dC, dI) classes (wd_X3_lowerThan cI cC cZ cB cJ wJ tX jE mX pD oO oQ eG bZ bD bI aI wD gF) H → va_D A (wd_X3_lowerThan cI cC cZ cB cJ wJ tX jE mX pD oO oQ eG bZ bD bI aI wD gF) → va_S A s.heap H locs → lv_has ls 6 [(0, .ref wJ), (1, .int x1), (2, .int x2), (3, .int x3), (4, .int x4)] → W p l e rm_X3_lowerThan s m args below meth c H locs 0 0 (MQ below (q_X3_lowerThan dC dI cI cC cZ cB cJ A wJ tX jE mX pD oO oQ eG bZ bD bI aI wD gF post) args s 0 0 A) (F0 m 15 ls []) := by
  intro n
  induction n with
  | zero =>
    intro x1 x2 x3 x4 H locs ls hp
    exact False.elim hp
  | succ n ih =>
    intro x1 x2 x3 x4 H locs ls hp
    exact ks_X3_lowerThan_15 C0 ih x1 x2 x3 x4 H locs ls hp
end S_X3_lowerThan
noncomputable def wp_X3_lowerThan (post : Int32 → Prop) (p0 p1 bZ : Int32) (wD gF : Nat → Int32) : Prop := ∀ v_1 : Int32, v_1 = p1 >>> (p0 &&& 31) → (¬ (v_1 &&& 1) = 0 → ∃ n : Nat, wb_X3_lowerThan_15 post bZ wD gF n p0 p1 0 0) ∧ ((v_1 &&& 1) = 0 → post 0)
set_option maxHeartbeats 4000000 in
set_option maxRecDepth 100000 in
theorem c_X3_lowerThan (l : Launch) (dC : Nat → ClassId) (dI : Nat → Nat → Nat) (cI cC cZ cB cJ : ClassId) (wJ tX jE mX pD oO oQ eG sz : Nat) (p0 p1 bZ bD bI aI : Int32) (wD gF : Nat → Int32) (post : Int32 → Prop) (hw : wp_X3_lowerThan post p0 p1 bZ wD gF) : Met l yX3_lowerThan (gw yX3_lowerThan cX3_lowerThan 6 (some .int)) rm_X3_lowerThan (va_Pc [.ref wJ, .int p0, .int p1] (gPre (dC, dI) (tyl cI cC cZ cB cJ) (wd_X3_lowerThan cI cC cZ cB cJ wJ tX jE mX pD oO oQ eG bZ bD bI aI wD gF) sz)) (q_X3_lowerThan dC dI cI cC cZ cB cJ (va_A (wd_X3_lowerThan cI cC cZ cB cJ wJ tX jE mX pD oO oQ eG bZ bD bI aI wD gF) sz) wJ tX jE mX pD oO oQ eG bZ bD bI aI wD gF post) 0 0 (va_A (wd_X3_lowerThan cI cC cZ cB cJ wJ tX jE mX pD oO oQ eG bZ bD bI aI wD gF) sz) := by
  refine g_enter (own := RX3) (dC, dI) (tyl cI cC cZ cB cJ) (wd_X3_lowerThan cI cC cZ cB cJ wJ tX jE mX pD oO oQ eG bZ bD bI aI wD gF) sz [.ref wJ, .int p0, .int p1] (fun A => q_X3_lowerThan dC dI cI cC cZ cB cJ A wJ tX jE mX pD oO oQ eG bZ bD bI aI wD gF post) pn_RX3 rfl (Nat.le_of_ble_eq_true rfl) ?_
  intro p e s m args below meth c A H locs ls C0 hP hD hS hl
  have hl : lv_has ls 6 [(0, .ref wJ), (1, .int p0), (2, .int p1)] := hl
  obtain ⟨hx, hb, hr, hml, hown, hts, hlocks, hA, hK, hN, tL, tM, hZL, hTL, hZM, hTM, hZX⟩ := id C0
  have hp := hw
  unfold wp_X3_lowerThan at hp
  refine lv_iload_n hx hb eX3_lowerThan_0.1 rfl (lv_at hl 2 rfl) ?_
  refine lv_iload_n hx hb eX3_lowerThan_0.2.1 rfl (lv_at hl 1 rfl) ?_
  refine lv_ishr hx hb eX3_lowerThan_0.2.2.1 ?_
  refine lv_topi (fun v_1 ev_1 => ?_)
  have hp := hp v_1 ev_1
  refine lv_iconst (v := 1) hx hb eX3_lowerThan_0.2.2.2.1 ic_1 ?_
  refine lv_iand hx hb eX3_lowerThan_0.2.2.2.2.1 ?_
  refine lv_if_ne (tgt := 10) hx hb eX3_lowerThan_0.2.2.2.2.2.1 (by decide) (fun hc => ?_) (fun hc => ?_)
  · have hp := hp.1 hc
    refine lv_iconst (v := 0) hx hb eX3_lowerThan_0.2.2.2.2.2.2.2.2.1 ic_0 ?_
    refine lv_istore_n (lv' := [(3, .int 0), (0, .ref wJ), (1, .int p0), (2, .int p1)]) hx hb eX3_lowerThan_0.2.2.2.2.2.2.2.2.2.1 rfl hl (by decide) rfl (fun ls hl => ?_)
    refine lv_iconst (v := 0) hx hb eX3_lowerThan_0.2.2.2.2.2.2.2.2.2.2.1 ic_0 ?_
    refine lv_istore (lv' := [(4, .int 0), (3, .int 0), (0, .ref wJ), (1, .int p0), (2, .int p1)]) hx hb eX3_lowerThan_0.2.2.2.2.2.2.2.2.2.2.2.1 hl (by decide) rfl (fun ls hl => ?_)
    obtain ⟨n9, hp⟩ := hp
    exact kb_X3_lowerThan_15 C0 n9 p0 p1 0 0 H locs ls hp hP hD hS (lv_sub hl [2, 3, 4, 1, 0] rfl)
  · have hp := hp.2 hc
    refine lv_iconst (v := 0) hx hb eX3_lowerThan_0.2.2.2.2.2.2.1 ic_0 ?_
    exact W.iret (v := 0) hx hb hr (fun t ht hW => ⟨⟨0, (), rfl, hp, by rw [ht]; exact hP, va_K.moved hW.alike hK, hD⟩, hS.F ht⟩) hS.2.2 eX3_lowerThan_0.2.2.2.2.2.2.2.1
noncomputable abbrev wd_X2_whereIs (cI cC cZ cB cJ : ClassId) (wQ : Nat) (jC eO eW dO fJ fY jD nG : Int32) : va_W := [(wQ, .inr (2, [.int jC, .int eO, .int eW, .int dO, .int fJ, .int fY, .int jD, .int nG]))]
noncomputable abbrev q_X2_whereIs (dC : Nat → ClassId) (dI : Nat → Nat → Nat) (cI cC cZ cB cJ : ClassId) (A : Nat → Prop) (wQ : Nat) (jC eO eW dO fJ fY jD nG : Int32) (post : Int32 → Prop) : Array Value → State → Outcome → State → Prop := va_Qi (fun (r : Int32) (u : Unit) => post r) (fun u t => gB (dC, dI) (tyl cI cC cZ cB cJ) A (wd_X2_whereIs cI cC cZ cB cJ wQ jC eO eW dO fJ fY jD nG) t) A
noncomputable abbrev rm_X2_whereIs : Room := { frames := 0, cells := 0, slots := 0, locals := 0 }
noncomputable def wp_X2_whereIs (post : Int32 → Prop) (p0 jC eO eW : Int32) : Prop := ∀ v_1 : Int32, v_1 = jC >>> (p0 &&& 31) → ∀ v_2 : Int32, v_2 = v_1 &&& 1 → ∀ v_3 : Int32, v_3 = eO >>> (p0 &&& 31) → ∀ v_4 : Int32, v_4 = v_2 + (2 * (v_3 &&& 1)) → ∀ v_5 : Int32, v_5 = eW >>> (p0 &&& 31) → post (v_4 + (3 * (v_5 &&& 1)))
set_option maxHeartbeats 4000000 in
set_option maxRecDepth 100000 in
theorem c_X2_whereIs (l : Launch) (dC : Nat → ClassId) (dI : Nat → Nat → Nat) (cI cC cZ cB cJ : ClassId) (wQ sz : Nat) (p0 jC eO eW dO fJ fY jD nG : Int32) (post : Int32 → Prop) (hw : wp_X2_whereIs post p0 jC eO eW) : Met l yX2_whereIs (gw yX2_whereIs cX2_whereIs 2 (some .int)) rm_X2_whereIs (va_Pc [.ref wQ, .int p0] (gPre (dC, dI) (tyl cI cC cZ cB cJ) (wd_X2_whereIs cI cC cZ cB cJ wQ jC eO eW dO fJ fY jD nG) sz)) (q_X2_whereIs dC dI cI cC cZ cB cJ (va_A (wd_X2_whereIs cI cC cZ cB cJ wQ jC eO eW dO fJ fY jD nG) sz) wQ jC eO eW dO fJ fY jD nG post) 0 0 (va_A (wd_X2_whereIs cI cC cZ cB cJ wQ jC eO eW dO fJ fY jD nG) sz) := by
  refine g_enter (own := RX2) (dC, dI) (tyl cI cC cZ cB cJ) (wd_X2_whereIs cI cC cZ cB cJ wQ jC eO eW dO fJ fY jD nG) sz [.ref wQ, .int p0] (fun A => q_X2_whereIs dC dI cI cC cZ cB cJ A wQ jC eO eW dO fJ fY jD nG post) pn_RX2 rfl (Nat.le_of_ble_eq_true rfl) ?_
  intro p e s m args below meth c A H locs ls C0 hP hD hS hl
  have hl : lv_has ls 2 [(0, .ref wQ), (1, .int p0)] := hl
  obtain ⟨hx, hb, hr, hml, hown, hts, hlocks, hA, hK, hN, tL, tM, hZL, hTL, hZM, hTM, hZX⟩ := id C0
  have hp := hw
  unfold wp_X2_whereIs at hp
  refine lv_aload_n hx hb eX2_whereIs_0.1 rfl (lv_at hl 0 rfl) ?_
  refine va_get (D := (dC, dI)) (ci := 2) (v := .int jC) (C := RX2) (T := TX2) (N := 8) hx hb hts i_X2 hown hK hP 0 rfl rfl 0 (Nat.le_of_ble_eq_true rfl) (hts _ q_168) (fun _ h9 => h9) rfl eX2_whereIs_0.2.1 ?_
  refine lv_iload_n hx hb eX2_whereIs_0.2.2.1 rfl (lv_at hl 1 rfl) ?_
  refine lv_ishr hx hb eX2_whereIs_0.2.2.2.1 ?_
  refine lv_topi (fun v_1 ev_1 => ?_)
  have hp := hp v_1 ev_1
  refine lv_iconst (v := 1) hx hb eX2_whereIs_0.2.2.2.2.1 ic_1 ?_
  refine lv_iand hx hb eX2_whereIs_0.2.2.2.2.2.1 ?_
  refine lv_topi (fun v_2 ev_2 => ?_)
  have hp := hp v_2 ev_2
  refine lv_iconst (v := 2) hx hb eX2_whereIs_0.2.2.2.2.2.2.1 ic_2 ?_
  refine lv_aload_n hx hb eX2_whereIs_0.2.2.2.2.2.2.2.1 rfl (lv_at hl 0 rfl) ?_
  refine va_get (D := (dC, dI)) (ci := 2) (v := .int eO) (C := RX2) (T := TX2) (N := 8) hx hb hts i_X2 hown hK hP 0 rfl rfl 1 (Nat.le_of_ble_eq_true rfl) (hts _ q_169) (fun _ h9 => h9) rfl eX2_whereIs_0.2.2.2.2.2.2.2.2.1 ?_
  refine lv_iload_n hx hb eX2_whereIs_0.2.2.2.2.2.2.2.2.2.1 rfl (lv_at hl 1 rfl) ?_
  refine lv_ishr hx hb eX2_whereIs_0.2.2.2.2.2.2.2.2.2.2.1 ?_
  refine lv_topi (fun v_3 ev_3 => ?_)
  have hp := hp v_3 ev_3
  refine lv_iconst (v := 1) hx hb eX2_whereIs_0.2.2.2.2.2.2.2.2.2.2.2.1 ic_1 ?_
  refine lv_iand hx hb eX2_whereIs_0.2.2.2.2.2.2.2.2.2.2.2.2.1 ?_
  refine lv_imul hx hb eX2_whereIs_0.2.2.2.2.2.2.2.2.2.2.2.2.2.1 ?_
  refine lv_iadd hx hb eX2_whereIs_0.2.2.2.2.2.2.2.2.2.2.2.2.2.2.1 ?_
  refine lv_topi (fun v_4 ev_4 => ?_)
  have hp := hp v_4 ev_4
  refine lv_iconst (v := 3) hx hb eX2_whereIs_0.2.2.2.2.2.2.2.2.2.2.2.2.2.2.2 ic_3 ?_
  refine lv_aload_n hx hb eX2_whereIs_20.1 rfl (lv_at hl 0 rfl) ?_
  refine va_get (D := (dC, dI)) (ci := 2) (v := .int eW) (C := RX2) (T := TX2) (N := 8) hx hb hts i_X2 hown hK hP 0 rfl rfl 2 (Nat.le_of_ble_eq_true rfl) (hts _ q_170) (fun _ h9 => h9) rfl eX2_whereIs_20.2.1 ?_
  refine lv_iload_n hx hb eX2_whereIs_20.2.2.1 rfl (lv_at hl 1 rfl) ?_
  refine lv_ishr hx hb eX2_whereIs_20.2.2.2.1 ?_
  refine lv_topi (fun v_5 ev_5 => ?_)
  have hp := hp v_5 ev_5
  refine lv_iconst (v := 1) hx hb eX2_whereIs_20.2.2.2.2.1 ic_1 ?_
  refine lv_iand hx hb eX2_whereIs_20.2.2.2.2.2.1 ?_
  refine lv_imul hx hb eX2_whereIs_20.2.2.2.2.2.2.1 ?_
  refine lv_iadd hx hb eX2_whereIs_20.2.2.2.2.2.2.2.1 ?_
  exact W.iret (v := v_4 + (3 * (v_5 &&& 1))) hx hb hr (fun t ht hW => ⟨⟨v_4 + (3 * (v_5 &&& 1)), (), rfl, hp, by rw [ht]; exact hP, va_K.moved hW.alike hK, hD⟩, hS.F ht⟩) hS.2.2 eX2_whereIs_20.2.2.2.2.2.2.2.2
noncomputable abbrev wd_X9_fruit (cI cC cZ cB cJ : ClassId) (a_x xG xD wY wJ wQ xI xK xJ tW xH tX jE mX pD oO oQ eG : Nat) (bZ bD bI aI : Int32) (wD gF pE qA : Nat → Int32) (jC eO eW dO fJ fY jD nG : Int32) : va_W := [(a_x, .inr (9, [.ref xG, .ref xD, .ref wY, .ref wJ, .ref wQ, .ref xI, .ref xK, .ref xJ, .ref tW])), (wY, .inr (0, [.ref wJ, .ref wQ, .ref xH])), (wJ, .inr (3, [.ref tX, .ref jE, .ref mX, .ref pD, .ref oO, .ref oQ, .ref eG, .int bZ, .int bD, .int bI, .int aI])), (tX, .inl (cI, 16, .inl wD)), (jE, .inl (cI, 16, .inl gF)), (mX, .inl (cI, 16, .inl pE)), (pD, .inl (cI, 16, .inl qA)), (wQ, .inr (2, [.int jC, .int eO, .int eW, .int dO, .int fJ, .int fY, .int jD, .int nG]))]
noncomputable abbrev q_X9_fruit (dC : Nat → ClassId) (dI : Nat → Nat → Nat) (cI cC cZ cB cJ : ClassId) (A : Nat → Prop) (a_x xG xD wY wJ wQ xI xK xJ tW xH tX jE mX pD oO oQ eG : Nat) (bZ bD bI aI : Int32) (wD gF pE qA : Nat → Int32) (jC eO eW dO fJ fY jD nG : Int32) (post : Int32 → Prop) : Array Value → State → Outcome → State → Prop := va_Qi (fun (r : Int32) (u : Unit) => post r) (fun u t => gB (dC, dI) (tyl cI cC cZ cB cJ) A (wd_X9_fruit cI cC cZ cB cJ a_x xG xD wY wJ wQ xI xK xJ tW xH tX jE mX pD oO oQ eG bZ bD bI aI wD gF pE qA jC eO eW dO fJ fY jD nG) t) A
noncomputable abbrev rm_X9_fruit : Room := { frames := 6, cells := 1, slots := 6, locals := 100 }
noncomputable def wp_X9_fruit (post : Int32 → Prop) (postx : Prop) (p0 p1 bZ : Int32) (wD gF pE qA : Nat → Int32) (jC eO eW dO : Int32) : Prop := wp_X3_hasFruit (fun r_1 => (¬ r_1 = 0 → (p1 = 0 → vp_in p0 16 ∧ (post (wD p0.toNatClampNeg))) ∧ (p1 = 1 → vp_in p0 16 ∧ (post (gF p0.toNatClampNeg))) ∧ (p1 = 2 → vp_in p0 16 ∧ (post (pE p0.toNatClampNeg))) ∧ (p1 = 3 → vp_in p0 16 ∧ (post (qA p0.toNatClampNeg))) ∧ (p1 = 4 → wp_X2_whereIs (fun r_2 => post r_2) p0 jC eO eW) ∧ (p1 = 5 → ∀ v_3 : Int32, v_3 = dO >>> (p0 &&& 31) → post (v_3 &&& 1)) ∧ (p1 = 6 → wp_X0_hanging (fun r_4 => wp_X3_lowerThan (fun r_5 => post r_5) p0 r_4 bZ wD gF) bZ jC eO eW) ∧ (¬ p1 = 0 → ¬ p1 = 1 → ¬ p1 = 2 → ¬ p1 = 3 → ¬ p1 = 4 → ¬ p1 = 5 → ¬ p1 = 6 → postx)) ∧ (r_1 = 0 → postx)) p0 bZ
set_option maxHeartbeats 4000000 in
set_option maxRecDepth 100000 in
theorem c_X9_fruit (l : Launch) (hl9 : l.stackTraces = false) (dC : Nat → ClassId) (dI : Nat → Nat → Nat) (cI cC cZ cB cJ : ClassId) (a_x xG xD wY wJ wQ xI xK xJ tW xH tX jE mX pD oO oQ eG sz : Nat) (p0 p1 bZ bD bI aI : Int32) (wD gF pE qA : Nat → Int32) (jC eO eW dO fJ fY jD nG : Int32) (post : Int32 → Prop) (postx : Prop) (hw : wp_X9_fruit post postx p0 p1 bZ wD gF pE qA jC eO eW dO) : vx_Met l yX9_fruit (gw yX9_fruit cX9_fruit 3 (some .int)) rm_X9_fruit (va_Pc [.ref a_x, .int p0, .int p1] (gPre (dC, dI) (tyl cI cC cZ cB cJ) (wd_X9_fruit cI cC cZ cB cJ a_x xG xD wY wJ wQ xI xK xJ tW xH tX jE mX pD oO oQ eG bZ bD bI aI wD gF pE qA jC eO eW dO fJ fY jD nG) sz)) (q_X9_fruit dC dI cI cC cZ cB cJ (va_A (wd_X9_fruit cI cC cZ cB cJ a_x xG xD wY wJ wQ xI xK xJ tW xH tX jE mX pD oO oQ eG bZ bD bI aI wD gF pE qA jC eO eW dO fJ fY jD nG) sz) a_x xG xD wY wJ wQ xI xK xJ tW xH tX jE mX pD oO oQ eG bZ bD bI aI wD gF pE qA jC eO eW dO fJ fY jD nG post) (gXC (dC, dI) (tyl cI cC cZ cB cJ) (va_A (wd_X9_fruit cI cC cZ cB cJ a_x xG xD wY wJ wQ xI xK xJ tW xH tX jE mX pD oO oQ eG bZ bD bI aI wD gF pE qA jC eO eW dO fJ fY jD nG) sz) (wd_X9_fruit cI cC cZ cB cJ a_x xG xD wY wJ wQ xI xK xJ tW xH tX jE mX pD oO oQ eG bZ bD bI aI wD gF pE qA jC eO eW dO fJ fY jD nG) postx) 1 6 (va_A (wd_X9_fruit cI cC cZ cB cJ a_x xG xD wY wJ wQ xI xK xJ tW xH tX jE mX pD oO oQ eG bZ bD bI aI wD gF pE qA jC eO eW dO fJ fY jD nG) sz) := by
  refine g_enterX (own := RX9) (dC, dI) (tyl cI cC cZ cB cJ) (wd_X9_fruit cI cC cZ cB cJ a_x xG xD wY wJ wQ xI xK xJ tW xH tX jE mX pD oO oQ eG bZ bD bI aI wD gF pE qA jC eO eW dO fJ fY jD nG) sz [.ref a_x, .int p0, .int p1] (fun A => q_X9_fruit dC dI cI cC cZ cB cJ A a_x xG xD wY wJ wQ xI xK xJ tW xH tX jE mX pD oO oQ eG bZ bD bI aI wD gF pE qA jC eO eW dO fJ fY jD nG post) (fun A => (gXC (dC, dI) (tyl cI cC cZ cB cJ) A (wd_X9_fruit cI cC cZ cB cJ a_x xG xD wY wJ wQ xI xK xJ tW xH tX jE mX pD oO oQ eG bZ bD bI aI wD gF pE qA jC eO eW dO fJ fY jD nG) postx)) (by decide) rfl (Nat.le_of_ble_eq_true rfl) ?_
  intro p e s m args below meth c A H locs ls C0 htab hP hD hS hl
  have hl : lv_has ls 3 [(0, .ref a_x), (1, .int p0), (2, .int p1)] := hl
  obtain ⟨hx, hb, hr, hml, hown, hts, hlocks, hA, hK, hN, tL, tM, hZL, hTL, hZM, hTM, hZX⟩ := id C0
  have hp := hw
  unfold wp_X9_fruit at hp
  refine lv_aload_n hx hb eX9_fruit_0.1 rfl (lv_at hl 0 rfl) ?_
  refine va_get (D := (dC, dI)) (ci := 9) (v := .ref wJ) (C := RX9) (T := TX9) (N := 9) hx hb hts i_X9 hown hK hP 0 rfl rfl 3 (Nat.le_of_ble_eq_true rfl) (hts _ q_74) (fun _ h9 => h9) rfl eX9_fruit_0.2.1 ?_
  refine lv_iload_n hx hb eX9_fruit_0.2.2.1 rfl (lv_at hl 1 rfl) ?_
  have hm := mgk (wc := (wd_X3_hasFruit cI cC cZ cB cJ wJ tX jE mX pD oO oQ eG bZ bD bI aI)) hP mk_32 8 rfl rfl rfl
  refine g_calli hP hD hS hA (mixT mk_32) (mixF mk_32) hm.1 hm.2 (nd_F _) (dis_g _) (g_runV (As := [.int p0]) (rest := []) C0 hP hD hS (mixT mk_32) hm.1 (nd_T _) 2 3 rfl rfl (c_X3_hasFruit l dC dI cI cC cZ cB cJ wJ tX jE mX pD oO oQ eG H.size p0 bZ bD bI aI _ hp) q_171 q_174 q_172 q_173 q_48 h_X3_hasFruit rfl rfl ⟨Nat.le_of_ble_eq_true rfl, Nat.le_of_ble_eq_true rfl⟩ rfl rfl hl.1 rfl (lv_room (Nat.le_of_ble_eq_true rfl)) eX9_fruit_0.2.2.2.1 ⟨Nat.zero_le _, Nat.zero_le _⟩) (fun r_1 u H locs hp hP hD hS => ?_)
  have hPD := PDm (ws' := (wd_X9_fruit cI cC cZ cB cJ a_x xG xD wY wJ wQ xI xK xJ tW xH tX jE mX pD oO oQ eG bZ bD bI aI wD gF pE qA jC eO eW dO fJ fY jD nG)) hP hD 8 rfl rfl rfl
  have hP := hPD.1
  have hD := hPD.2
  refine lv_if_ne (tgt := 19) hx hb eX9_fruit_0.2.2.2.2.1 (by decide) (fun hc => ?_) (fun hc => ?_)
  · have hp := hp.1 hc
    refine lv_iload_n hx hb eX9_fruit_0.2.2.2.2.2.2.2.2.2.1 rfl (lv_at hl 2 rfl) ?_
    by_cases hc0 : p1 = 0
    · have hp := hp.1 hc0
      refine lv_tableIn (tgt := 64) hx hb eX9_fruit_0.2.2.2.2.2.2.2.2.2.2.1 (by first | (rw [hc0]; done) | (rw [hc0]; decide)) (by first | (rw [hc0]; done) | (rw [hc0]; decide)) (by first | (rw [hc0]; done) | (rw [hc0]; rfl)) (by decide) ?_
      refine lv_aload_n hx hb eX9_fruit_0.2.2.2.2.2.2.2.2.2.2.2.1 rfl (lv_at hl 0 rfl) ?_
      refine va_get (D := (dC, dI)) (ci := 9) (v := .ref wJ) (C := RX9) (T := TX9) (N := 9) hx hb hts i_X9 hown hK hP 0 rfl rfl 3 (Nat.le_of_ble_eq_true rfl) (hts _ q_74) (fun _ h9 => h9) rfl eX9_fruit_0.2.2.2.2.2.2.2.2.2.2.2.2.1 ?_
      refine va_get (D := (dC, dI)) (ci := 3) (v := .ref tX) (C := RX3) (T := TX3) (N := 11) hx hb hts i_X3 hown hK hP 2 rfl rfl 0 (Nat.le_of_ble_eq_true rfl) (hts _ q_175) (fun _ h9 => h9) rfl eX9_fruit_0.2.2.2.2.2.2.2.2.2.2.2.2.2.1 ?_
      refine lv_iload_n hx hb eX9_fruit_0.2.2.2.2.2.2.2.2.2.2.2.2.2.2.1 rfl (lv_at hl 1 rfl) ?_
      have hin := hp.1
      have hp := hp.2
      refine va_iald hx hb hK hP 3 0 rfl rfl hin eX9_fruit_0.2.2.2.2.2.2.2.2.2.2.2.2.2.2.2 ?_
      refine vx_ret (W.widen (k := 1) (n := 6) (Nat.zero_le _) (Nat.zero_le _) ?_)
      exact W.iret (v := wD p0.toNatClampNeg) hx hb hr (fun t ht hW => ⟨⟨wD p0.toNatClampNeg, (), rfl, hp, by rw [ht]; exact hP, va_K.moved hW.alike hK, hD⟩, hS.F ht⟩) hS.2.2 eX9_fruit_73.1
    by_cases hc1 : p1 = 1
    · have hp := hp.2.1 hc1
      refine lv_tableIn (tgt := 74) hx hb eX9_fruit_0.2.2.2.2.2.2.2.2.2.2.1 (by first | (rw [hc1]; done) | (rw [hc1]; decide)) (by first | (rw [hc1]; done) | (rw [hc1]; decide)) (by first | (rw [hc1]; done) | (rw [hc1]; rfl)) (by decide) ?_
      refine lv_aload_n hx hb eX9_fruit_73.2.1 rfl (lv_at hl 0 rfl) ?_
      refine va_get (D := (dC, dI)) (ci := 9) (v := .ref wJ) (C := RX9) (T := TX9) (N := 9) hx hb hts i_X9 hown hK hP 0 rfl rfl 3 (Nat.le_of_ble_eq_true rfl) (hts _ q_74) (fun _ h9 => h9) rfl eX9_fruit_73.2.2.1 ?_
      refine va_get (D := (dC, dI)) (ci := 3) (v := .ref jE) (C := RX3) (T := TX3) (N := 11) hx hb hts i_X3 hown hK hP 2 rfl rfl 1 (Nat.le_of_ble_eq_true rfl) (hts _ q_176) (fun _ h9 => h9) rfl eX9_fruit_73.2.2.2.1 ?_
      refine lv_iload_n hx hb eX9_fruit_73.2.2.2.2.1 rfl (lv_at hl 1 rfl) ?_
      have hin := hp.1
      have hp := hp.2
      refine va_iald hx hb hK hP 4 0 rfl rfl hin eX9_fruit_73.2.2.2.2.2.1 ?_
      refine vx_ret (W.widen (k := 1) (n := 6) (Nat.zero_le _) (Nat.zero_le _) ?_)
      exact W.iret (v := gF p0.toNatClampNeg) hx hb hr (fun t ht hW => ⟨⟨gF p0.toNatClampNeg, (), rfl, hp, by rw [ht]; exact hP, va_K.moved hW.alike hK, hD⟩, hS.F ht⟩) hS.2.2 eX9_fruit_73.2.2.2.2.2.2.1
    by_cases hc2 : p1 = 2
    · have hp := hp.2.2.1 hc2
      refine lv_tableIn (tgt := 84) hx hb eX9_fruit_0.2.2.2.2.2.2.2.2.2.2.1 (by first | (rw [hc2]; done) | (rw [hc2]; decide)) (by first | (rw [hc2]; done) | (rw [hc2]; decide)) (by first | (rw [hc2]; done) | (rw [hc2]; rfl)) (by decide) ?_
      refine lv_aload_n hx hb eX9_fruit_73.2.2.2.2.2.2.2.1 rfl (lv_at hl 0 rfl) ?_
      refine va_get (D := (dC, dI)) (ci := 9) (v := .ref wJ) (C := RX9) (T := TX9) (N := 9) hx hb hts i_X9 hown hK hP 0 rfl rfl 3 (Nat.le_of_ble_eq_true rfl) (hts _ q_74) (fun _ h9 => h9) rfl eX9_fruit_73.2.2.2.2.2.2.2.2.1 ?_
      refine va_get (D := (dC, dI)) (ci := 3) (v := .ref mX) (C := RX3) (T := TX3) (N := 11) hx hb hts i_X3 hown hK hP 2 rfl rfl 2 (Nat.le_of_ble_eq_true rfl) (hts _ q_177) (fun _ h9 => h9) rfl eX9_fruit_73.2.2.2.2.2.2.2.2.2.1 ?_
      refine lv_iload_n hx hb eX9_fruit_73.2.2.2.2.2.2.2.2.2.2.1 rfl (lv_at hl 1 rfl) ?_
      have hin := hp.1
      have hp := hp.2
      refine va_iald hx hb hK hP 5 0 rfl rfl hin eX9_fruit_73.2.2.2.2.2.2.2.2.2.2.2.1 ?_
      refine vx_ret (W.widen (k := 1) (n := 6) (Nat.zero_le _) (Nat.zero_le _) ?_)
      exact W.iret (v := pE p0.toNatClampNeg) hx hb hr (fun t ht hW => ⟨⟨pE p0.toNatClampNeg, (), rfl, hp, by rw [ht]; exact hP, va_K.moved hW.alike hK, hD⟩, hS.F ht⟩) hS.2.2 eX9_fruit_73.2.2.2.2.2.2.2.2.2.2.2.2.1
    by_cases hc3 : p1 = 3
    · have hp := hp.2.2.2.1 hc3
      refine lv_tableIn (tgt := 94) hx hb eX9_fruit_0.2.2.2.2.2.2.2.2.2.2.1 (by first | (rw [hc3]; done) | (rw [hc3]; decide)) (by first | (rw [hc3]; done) | (rw [hc3]; decide)) (by first | (rw [hc3]; done) | (rw [hc3]; rfl)) (by decide) ?_
      refine lv_aload_n hx hb eX9_fruit_73.2.2.2.2.2.2.2.2.2.2.2.2.2.1 rfl (lv_at hl 0 rfl) ?_
      refine va_get (D := (dC, dI)) (ci := 9) (v := .ref wJ) (C := RX9) (T := TX9) (N := 9) hx hb hts i_X9 hown hK hP 0 rfl rfl 3 (Nat.le_of_ble_eq_true rfl) (hts _ q_74) (fun _ h9 => h9) rfl eX9_fruit_73.2.2.2.2.2.2.2.2.2.2.2.2.2.2.1 ?_
      refine va_get (D := (dC, dI)) (ci := 3) (v := .ref pD) (C := RX3) (T := TX3) (N := 11) hx hb hts i_X3 hown hK hP 2 rfl rfl 3 (Nat.le_of_ble_eq_true rfl) (hts _ q_178) (fun _ h9 => h9) rfl eX9_fruit_73.2.2.2.2.2.2.2.2.2.2.2.2.2.2.2 ?_
      refine lv_iload_n hx hb eX9_fruit_101.1 rfl (lv_at hl 1 rfl) ?_
      have hin := hp.1
      have hp := hp.2
      refine va_iald hx hb hK hP 6 0 rfl rfl hin eX9_fruit_101.2.1 ?_
      refine vx_ret (W.widen (k := 1) (n := 6) (Nat.zero_le _) (Nat.zero_le _) ?_)
      exact W.iret (v := qA p0.toNatClampNeg) hx hb hr (fun t ht hW => ⟨⟨qA p0.toNatClampNeg, (), rfl, hp, by rw [ht]; exact hP, va_K.moved hW.alike hK, hD⟩, hS.F ht⟩) hS.2.2 eX9_fruit_101.2.2.1
    by_cases hc4 : p1 = 4
    · have hp := hp.2.2.2.2.1 hc4
      refine lv_tableIn (tgt := 104) hx hb eX9_fruit_0.2.2.2.2.2.2.2.2.2.2.1 (by first | (rw [hc4]; done) | (rw [hc4]; decide)) (by first | (rw [hc4]; done) | (rw [hc4]; decide)) (by first | (rw [hc4]; done) | (rw [hc4]; rfl)) (by decide) ?_
      refine lv_aload_n hx hb eX9_fruit_101.2.2.2.1 rfl (lv_at hl 0 rfl) ?_
      refine va_get (D := (dC, dI)) (ci := 9) (v := .ref wQ) (C := RX9) (T := TX9) (N := 9) hx hb hts i_X9 hown hK hP 0 rfl rfl 4 (Nat.le_of_ble_eq_true rfl) (hts _ q_179) (fun _ h9 => h9) rfl eX9_fruit_101.2.2.2.2.1 ?_
      refine lv_iload_n hx hb eX9_fruit_101.2.2.2.2.2.1 rfl (lv_at hl 1 rfl) ?_
      have hm := mgk (wc := (wd_X2_whereIs cI cC cZ cB cJ wQ jC eO eW dO fJ fY jD nG)) hP mk_33 8 rfl rfl rfl
      refine g_calli hP hD hS hA (mixT mk_33) (mixF mk_33) hm.1 hm.2 (nd_F _) (dis_g _) (g_runV (As := [.int p0]) (rest := []) C0 hP hD hS (mixT mk_33) hm.1 (nd_T _) 7 2 rfl rfl (c_X2_whereIs l dC dI cI cC cZ cB cJ wQ H.size p0 jC eO eW dO fJ fY jD nG _ hp) q_180 q_184 q_182 q_183 q_181 h_X2_whereIs rfl rfl ⟨Nat.le_of_ble_eq_true rfl, Nat.le_of_ble_eq_true rfl⟩ rfl rfl hl.1 rfl (lv_room (Nat.le_of_ble_eq_true rfl)) eX9_fruit_101.2.2.2.2.2.2.1 ⟨Nat.zero_le _, Nat.zero_le _⟩) (fun r_2 u H locs hp hP hD hS => ?_)
      have hPD := PDm (ws' := (wd_X9_fruit cI cC cZ cB cJ a_x xG xD wY wJ wQ xI xK xJ tW xH tX jE mX pD oO oQ eG bZ bD bI aI wD gF pE qA jC eO eW dO fJ fY jD nG)) hP hD 8 rfl rfl rfl
      have hP := hPD.1
      have hD := hPD.2
      refine vx_ret (W.widen (k := 1) (n := 6) (Nat.zero_le _) (Nat.zero_le _) ?_)
      exact W.iret (v := r_2) hx hb hr (fun t ht hW => ⟨⟨r_2, (), rfl, hp, by rw [ht]; exact hP, va_K.moved hW.alike hK, hD⟩, hS.F ht⟩) hS.2.2 eX9_fruit_101.2.2.2.2.2.2.2.1
    by_cases hc5 : p1 = 5
    · have hp := hp.2.2.2.2.2.1 hc5
      refine lv_tableIn (tgt := 113) hx hb eX9_fruit_0.2.2.2.2.2.2.2.2.2.2.1 (by first | (rw [hc5]; done) | (rw [hc5]; decide)) (by first | (rw [hc5]; done) | (rw [hc5]; decide)) (by first | (rw [hc5]; done) | (rw [hc5]; rfl)) (by decide) ?_
      refine lv_aload_n hx hb eX9_fruit_101.2.2.2.2.2.2.2.2.1 rfl (lv_at hl 0 rfl) ?_
      refine va_get (D := (dC, dI)) (ci := 9) (v := .ref wQ) (C := RX9) (T := TX9) (N := 9) hx hb hts i_X9 hown hK hP 0 rfl rfl 4 (Nat.le_of_ble_eq_true rfl) (hts _ q_179) (fun _ h9 => h9) rfl eX9_fruit_101.2.2.2.2.2.2.2.2.2.1 ?_
      refine va_get (D := (dC, dI)) (ci := 2) (v := .int dO) (C := RX2) (T := TX2) (N := 8) hx hb hts i_X2 hown hK hP 7 rfl rfl 3 (Nat.le_of_ble_eq_true rfl) (hts _ q_185) (fun _ h9 => h9) rfl eX9_fruit_101.2.2.2.2.2.2.2.2.2.2.1 ?_
      refine lv_iload_n hx hb eX9_fruit_101.2.2.2.2.2.2.2.2.2.2.2.1 rfl (lv_at hl 1 rfl) ?_
      refine lv_ishr hx hb eX9_fruit_101.2.2.2.2.2.2.2.2.2.2.2.2.1 ?_
      refine lv_topi (fun v_3 ev_3 => ?_)
      have hp := hp v_3 ev_3
      refine lv_iconst (v := 1) hx hb eX9_fruit_101.2.2.2.2.2.2.2.2.2.2.2.2.2.1 ic_1 ?_
      refine lv_iand hx hb eX9_fruit_101.2.2.2.2.2.2.2.2.2.2.2.2.2.2.1 ?_
      refine vx_ret (W.widen (k := 1) (n := 6) (Nat.zero_le _) (Nat.zero_le _) ?_)
      exact W.iret (v := v_3 &&& 1) hx hb hr (fun t ht hW => ⟨⟨v_3 &&& 1, (), rfl, hp, by rw [ht]; exact hP, va_K.moved hW.alike hK, hD⟩, hS.F ht⟩) hS.2.2 eX9_fruit_101.2.2.2.2.2.2.2.2.2.2.2.2.2.2.2
    by_cases hc6 : p1 = 6
    · have hp := hp.2.2.2.2.2.2.1 hc6
      refine lv_tableIn (tgt := 125) hx hb eX9_fruit_0.2.2.2.2.2.2.2.2.2.2.1 (by first | (rw [hc6]; done) | (rw [hc6]; decide)) (by first | (rw [hc6]; done) | (rw [hc6]; decide)) (by first | (rw [hc6]; done) | (rw [hc6]; rfl)) (by decide) ?_
      refine lv_aload_n hx hb eX9_fruit_125.1 rfl (lv_at hl 0 rfl) ?_
      refine va_get (D := (dC, dI)) (ci := 9) (v := .ref wJ) (C := RX9) (T := TX9) (N := 9) hx hb hts i_X9 hown hK hP 0 rfl rfl 3 (Nat.le_of_ble_eq_true rfl) (hts _ q_74) (fun _ h9 => h9) rfl eX9_fruit_125.2.1 ?_
      refine lv_iload_n hx hb eX9_fruit_125.2.2.1 rfl (lv_at hl 1 rfl) ?_
      refine lv_aload_n hx hb eX9_fruit_125.2.2.2.1 rfl (lv_at hl 0 rfl) ?_
      refine va_get (D := (dC, dI)) (ci := 9) (v := .ref wY) (C := RX9) (T := TX9) (N := 9) hx hb hts i_X9 hown hK hP 0 rfl rfl 2 (Nat.le_of_ble_eq_true rfl) (hts _ q_146) (fun _ h9 => h9) rfl eX9_fruit_125.2.2.2.2.1 ?_
      have hm := mgk (wc := (wd_X0_hanging cI cC cZ cB cJ wY wJ wQ xH tX jE mX pD oO oQ eG bZ bD bI aI jC eO eW dO fJ fY jD nG)) hP mk_34 8 rfl rfl rfl
      refine g_calli hP hD hS hA (mixT mk_34) (mixF mk_34) hm.1 hm.2 (nd_F _) (dis_g _) (g_runV (As := []) (rest := [.int p0, .ref wJ]) C0 hP hD hS (mixT mk_34) hm.1 (nd_T _) 1 0 rfl rfl (c_X0_hanging l dC dI cI cC cZ cB cJ wY wJ wQ xH tX jE mX pD oO oQ eG H.size bZ bD bI aI jC eO eW dO fJ fY jD nG _ hp) q_186 q_190 q_188 q_189 q_187 h_X0_hanging rfl rfl ⟨Nat.le_of_ble_eq_true rfl, Nat.le_of_ble_eq_true rfl⟩ rfl rfl hl.1 rfl (lv_room (Nat.le_of_ble_eq_true rfl)) eX9_fruit_125.2.2.2.2.2.1 ⟨Nat.zero_le _, Nat.zero_le _⟩) (fun r_4 u H locs hp hP hD hS => ?_)
      have hPD := PDm (ws' := (wd_X9_fruit cI cC cZ cB cJ a_x xG xD wY wJ wQ xI xK xJ tW xH tX jE mX pD oO oQ eG bZ bD bI aI wD gF pE qA jC eO eW dO fJ fY jD nG)) hP hD 8 rfl rfl rfl
      have hP := hPD.1
      have hD := hPD.2
      have hm := mgk (wc := (wd_X3_lowerThan cI cC cZ cB cJ wJ tX jE mX pD oO oQ eG bZ bD bI aI wD gF)) hP mk_35 8 rfl rfl rfl
      refine g_calli hP hD hS hA (mixT mk_35) (mixF mk_35) hm.1 hm.2 (nd_F _) (dis_g _) (g_runV (As := [.int p0, .int r_4]) (rest := []) C0 hP hD hS (mixT mk_35) hm.1 (nd_T _) 2 3 rfl rfl (c_X3_lowerThan l dC dI cI cC cZ cB cJ wJ tX jE mX pD oO oQ eG H.size p0 r_4 bZ bD bI aI wD gF _ hp) q_191 q_194 q_192 q_193 q_48 h_X3_lowerThan rfl rfl ⟨Nat.le_of_ble_eq_true rfl, Nat.le_of_ble_eq_true rfl⟩ rfl rfl hl.1 rfl (lv_room (Nat.le_of_ble_eq_true rfl)) eX9_fruit_125.2.2.2.2.2.2.1 ⟨Nat.zero_le _, Nat.zero_le _⟩) (fun r_5 u H locs hp hP hD hS => ?_)
      have hPD := PDm (ws' := (wd_X9_fruit cI cC cZ cB cJ a_x xG xD wY wJ wQ xI xK xJ tW xH tX jE mX pD oO oQ eG bZ bD bI aI wD gF pE qA jC eO eW dO fJ fY jD nG)) hP hD 8 rfl rfl rfl
      have hP := hPD.1
      have hD := hPD.2
      refine vx_ret (W.widen (k := 1) (n := 6) (Nat.zero_le _) (Nat.zero_le _) ?_)
      exact W.iret (v := r_5) hx hb hr (fun t ht hW => ⟨⟨r_5, (), rfl, hp, by rw [ht]; exact hP, va_K.moved hW.alike hK, hD⟩, hS.F ht⟩) hS.2.2 eX9_fruit_125.2.2.2.2.2.2.2
    have hp := hp.2.2.2.2.2.2.2 hc0 hc1 hc2 hc3 hc4 hc5 hc6
    have key : W p l e rm_X9_fruit s m args below meth c H locs 0 0 (vx_MQ below (q_X9_fruit dC dI cI cC cZ cB cJ A a_x xG xD wY wJ wQ xI xK xJ tW xH tX jE mX pD oO oQ eG bZ bD bI aI wD gF pE qA jC eO eW dO fJ fY jD nG post) (gXC (dC, dI) (tyl cI cC cZ cB cJ) A (wd_X9_fruit cI cC cZ cB cJ a_x xG xD wY wJ wQ xI xK xJ tW xH tX jE mX pD oO oQ eG bZ bD bI aI wD gF pE qA jC eO eW dO fJ fY jD nG) postx) args s 1 6 A) (F0 m 141 ls []) := by
      exact g_throw C0 hl9 htab hP hD hS hl.1 eX9_fruit_141.1 eX9_fruit_141.2.1 eX9_fruit_141.2.2.1 eX9_fruit_141.2.2.2 (Nat.le_of_ble_eq_true rfl) (Nat.le_of_ble_eq_true rfl) (Nat.le_of_ble_eq_true rfl) (Nat.le_of_ble_eq_true rfl) hp
    exact lv_tableOut (tgt := 141) hx hb eX9_fruit_0.2.2.2.2.2.2.2.2.2.2.1 (by have g0 := lv_neT (a := 0) hc0 rfl; have g1 := lv_neT (a := 1) hc1 rfl; have g2 := lv_neT (a := 2) hc2 rfl; have g3 := lv_neT (a := 3) hc3 rfl; have g4 := lv_neT (a := 4) hc4 rfl; have g5 := lv_neT (a := 5) hc5 rfl; have g6 := lv_neT (a := 6) hc6 rfl; omega) (by decide) key
  · have hp := hp.2 hc
    exact g_throw C0 hl9 htab hP hD hS hl.1 eX9_fruit_0.2.2.2.2.2.1 eX9_fruit_0.2.2.2.2.2.2.1 eX9_fruit_0.2.2.2.2.2.2.2.1 eX9_fruit_0.2.2.2.2.2.2.2.2.1 (Nat.le_of_ble_eq_true rfl) (Nat.le_of_ble_eq_true rfl) (Nat.le_of_ble_eq_true rfl) (Nat.le_of_ble_eq_true rfl) hp
noncomputable abbrev wd_X3_hasStanding (cI cC cZ cB cJ : ClassId) (wJ tX jE mX pD oO oQ eG : Nat) (bZ bD bI aI : Int32) : va_W := [(wJ, .inr (3, [.ref tX, .ref jE, .ref mX, .ref pD, .ref oO, .ref oQ, .ref eG, .int bZ, .int bD, .int bI, .int aI]))]
noncomputable abbrev q_X3_hasStanding (dC : Nat → ClassId) (dI : Nat → Nat → Nat) (cI cC cZ cB cJ : ClassId) (A : Nat → Prop) (wJ tX jE mX pD oO oQ eG : Nat) (bZ bD bI aI : Int32) (post : Int32 → Prop) : Array Value → State → Outcome → State → Prop := va_Qi (fun (r : Int32) (u : Unit) => post r) (fun u t => gB (dC, dI) (tyl cI cC cZ cB cJ) A (wd_X3_hasStanding cI cC cZ cB cJ wJ tX jE mX pD oO oQ eG bZ bD bI aI) t) A
noncomputable abbrev rm_X3_hasStanding : Room := { frames := 0, cells := 0, slots := 0, locals := 0 }
noncomputable def wp_X3_hasStanding (post : Int32 → Prop) (p0 bD : Int32) : Prop := (p0 < 0 → post 0) ∧ (¬ p0 < 0 → (bD ≤ p0 → post 0) ∧ (¬ bD ≤ p0 → post 1))
set_option maxHeartbeats 4000000 in
set_option maxRecDepth 100000 in
theorem c_X3_hasStanding (l : Launch) (dC : Nat → ClassId) (dI : Nat → Nat → Nat) (cI cC cZ cB cJ : ClassId) (wJ tX jE mX pD oO oQ eG sz : Nat) (p0 bZ bD bI aI : Int32) (post : Int32 → Prop) (hw : wp_X3_hasStanding post p0 bD) : Met l yX3_hasStanding (gw yX3_hasStanding cX3_hasStanding 2 (some .boolean)) rm_X3_hasStanding (va_Pc [.ref wJ, .int p0] (gPre (dC, dI) (tyl cI cC cZ cB cJ) (wd_X3_hasStanding cI cC cZ cB cJ wJ tX jE mX pD oO oQ eG bZ bD bI aI) sz)) (q_X3_hasStanding dC dI cI cC cZ cB cJ (va_A (wd_X3_hasStanding cI cC cZ cB cJ wJ tX jE mX pD oO oQ eG bZ bD bI aI) sz) wJ tX jE mX pD oO oQ eG bZ bD bI aI post) 0 0 (va_A (wd_X3_hasStanding cI cC cZ cB cJ wJ tX jE mX pD oO oQ eG bZ bD bI aI) sz) := by
  refine g_enter (own := RX3) (dC, dI) (tyl cI cC cZ cB cJ) (wd_X3_hasStanding cI cC cZ cB cJ wJ tX jE mX pD oO oQ eG bZ bD bI aI) sz [.ref wJ, .int p0] (fun A => q_X3_hasStanding dC dI cI cC cZ cB cJ A wJ tX jE mX pD oO oQ eG bZ bD bI aI post) pn_RX3 rfl (Nat.le_of_ble_eq_true rfl) ?_
  intro p e s m args below meth c A H locs ls C0 hP hD hS hl
  have hl : lv_has ls 2 [(0, .ref wJ), (1, .int p0)] := hl
  obtain ⟨hx, hb, hr, hml, hown, hts, hlocks, hA, hK, hN, tL, tM, hZL, hTL, hZM, hTM, hZX⟩ := id C0
  have hp := hw
  unfold wp_X3_hasStanding at hp
  refine lv_iload_n hx hb eX3_hasStanding_0.1 rfl (lv_at hl 1 rfl) ?_
  refine lv_if_lt (tgt := 16) hx hb eX3_hasStanding_0.2.1 (by decide) (fun hc => ?_) (fun hc => ?_)
  · have hp := hp.1 hc
    refine lv_iconst (v := 0) hx hb eX3_hasStanding_0.2.2.2.2.2.2.2.2.1 ic_0 ?_
    exact W.zret (v := 0) hx hb hr rfl (fun t ht hW => ⟨⟨0, (), rfl, hp, by rw [ht]; exact hP, va_K.moved hW.alike hK, hD⟩, hS.F ht⟩) hS.2.2 eX3_hasStanding_0.2.2.2.2.2.2.2.2.2
  · have hp := hp.2 hc
    refine lv_iload_n hx hb eX3_hasStanding_0.2.2.1 rfl (lv_at hl 1 rfl) ?_
    refine lv_aload_n hx hb eX3_hasStanding_0.2.2.2.1 rfl (lv_at hl 0 rfl) ?_
    refine va_get (D := (dC, dI)) (ci := 3) (v := .int bD) (C := RX3) (T := TX3) (N := 11) hx hb hts i_X3 hown hK hP 0 rfl rfl 8 (Nat.le_of_ble_eq_true rfl) (hts _ q_22) (fun _ h9 => h9) rfl eX3_hasStanding_0.2.2.2.2.1 ?_
    refine lv_icmp_ge (tgt := 16) hx hb eX3_hasStanding_0.2.2.2.2.2.1 (by decide) (fun hc => ?_) (fun hc => ?_)
    · have hp := hp.1 hc
      refine lv_iconst (v := 0) hx hb eX3_hasStanding_0.2.2.2.2.2.2.2.2.1 ic_0 ?_
      exact W.zret (v := 0) hx hb hr rfl (fun t ht hW => ⟨⟨0, (), rfl, hp, by rw [ht]; exact hP, va_K.moved hW.alike hK, hD⟩, hS.F ht⟩) hS.2.2 eX3_hasStanding_0.2.2.2.2.2.2.2.2.2
    · have hp := hp.2 hc
      refine lv_iconst (v := 1) hx hb eX3_hasStanding_0.2.2.2.2.2.2.1 ic_1 ?_
      refine lv_goto (tgt := 17) hx hb eX3_hasStanding_0.2.2.2.2.2.2.2.1 (by decide) ?_
      exact W.zret (v := 1) hx hb hr rfl (fun t ht hW => ⟨⟨1, (), rfl, hp, by rw [ht]; exact hP, va_K.moved hW.alike hK, hD⟩, hS.F ht⟩) hS.2.2 eX3_hasStanding_0.2.2.2.2.2.2.2.2.2
noncomputable abbrev wd_X3_downSeconds (cI cC cZ cB cJ : ClassId) (wJ tX jE mX pD oO oQ eG : Nat) (bZ bD bI aI : Int32) (nY : Nat → Int32) : va_W := [(wJ, .inr (3, [.ref tX, .ref jE, .ref mX, .ref pD, .ref oO, .ref oQ, .ref eG, .int bZ, .int bD, .int bI, .int aI])), (oQ, .inl (cI, 8, .inl nY))]
noncomputable abbrev q_X3_downSeconds (dC : Nat → ClassId) (dI : Nat → Nat → Nat) (cI cC cZ cB cJ : ClassId) (A : Nat → Prop) (wJ tX jE mX pD oO oQ eG : Nat) (bZ bD bI aI : Int32) (nY : Nat → Int32) (post : Int32 → Prop) : Array Value → State → Outcome → State → Prop := va_Qi (fun (r : Int32) (u : Unit) => post r) (fun u t => gB (dC, dI) (tyl cI cC cZ cB cJ) A (wd_X3_downSeconds cI cC cZ cB cJ wJ tX jE mX pD oO oQ eG bZ bD bI aI nY) t) A
noncomputable abbrev rm_X3_downSeconds : Room := { frames := 0, cells := 0, slots := 0, locals := 0 }
noncomputable def wp_X3_downSeconds (post : Int32 → Prop) (p0 : Int32) (nY : Nat → Int32) : Prop := vp_in p0 8 ∧ (∀ v_1 : Int32, v_1 = nY p0.toNatClampNeg → ∀ v_2 : Int32, v_2 = v_1 + 9 → post (3 + (v_2 / 10)))
set_option maxHeartbeats 4000000 in
set_option maxRecDepth 100000 in
theorem c_X3_downSeconds (l : Launch) (dC : Nat → ClassId) (dI : Nat → Nat → Nat) (cI cC cZ cB cJ : ClassId) (wJ tX jE mX pD oO oQ eG sz : Nat) (p0 bZ bD bI aI : Int32) (nY : Nat → Int32) (post : Int32 → Prop) (hw : wp_X3_downSeconds post p0 nY) : Met l yX3_downSeconds (gw yX3_downSeconds cX3_downSeconds 2 (some .int)) rm_X3_downSeconds (va_Pc [.ref wJ, .int p0] (gPre (dC, dI) (tyl cI cC cZ cB cJ) (wd_X3_downSeconds cI cC cZ cB cJ wJ tX jE mX pD oO oQ eG bZ bD bI aI nY) sz)) (q_X3_downSeconds dC dI cI cC cZ cB cJ (va_A (wd_X3_downSeconds cI cC cZ cB cJ wJ tX jE mX pD oO oQ eG bZ bD bI aI nY) sz) wJ tX jE mX pD oO oQ eG bZ bD bI aI nY post) 0 0 (va_A (wd_X3_downSeconds cI cC cZ cB cJ wJ tX jE mX pD oO oQ eG bZ bD bI aI nY) sz) := by
  refine g_enter (own := RX3) (dC, dI) (tyl cI cC cZ cB cJ) (wd_X3_downSeconds cI cC cZ cB cJ wJ tX jE mX pD oO oQ eG bZ bD bI aI nY) sz [.ref wJ, .int p0] (fun A => q_X3_downSeconds dC dI cI cC cZ cB cJ A wJ tX jE mX pD oO oQ eG bZ bD bI aI nY post) pn_RX3 rfl (Nat.le_of_ble_eq_true rfl) ?_
  intro p e s m args below meth c A H locs ls C0 hP hD hS hl
  have hl : lv_has ls 2 [(0, .ref wJ), (1, .int p0)] := hl
  obtain ⟨hx, hb, hr, hml, hown, hts, hlocks, hA, hK, hN, tL, tM, hZL, hTL, hZM, hTM, hZX⟩ := id C0
  have hp := hw
  unfold wp_X3_downSeconds at hp
  refine lv_iconst (v := 3) hx hb eX3_downSeconds_0.1 ic_3 ?_
  refine lv_aload_n hx hb eX3_downSeconds_0.2.1 rfl (lv_at hl 0 rfl) ?_
  refine va_get (D := (dC, dI)) (ci := 3) (v := .ref oQ) (C := RX3) (T := TX3) (N := 11) hx hb hts i_X3 hown hK hP 0 rfl rfl 5 (Nat.le_of_ble_eq_true rfl) (hts _ q_54) (fun _ h9 => h9) rfl eX3_downSeconds_0.2.2.1 ?_
  refine lv_iload_n hx hb eX3_downSeconds_0.2.2.2.1 rfl (lv_at hl 1 rfl) ?_
  have hin := hp.1
  have hp := hp.2
  refine va_iald hx hb hK hP 1 0 rfl rfl hin eX3_downSeconds_0.2.2.2.2.1 ?_
  refine lv_topi (fun v_1 ev_1 => ?_)
  have hp := hp v_1 ev_1
  refine lv_bipush (v := 9) hx hb eX3_downSeconds_0.2.2.2.2.2.1 bp_9 ?_
  refine lv_iadd hx hb eX3_downSeconds_0.2.2.2.2.2.2.1 ?_
  refine lv_topi (fun v_2 ev_2 => ?_)
  have hp := hp v_2 ev_2
  refine lv_bipush (v := 10) hx hb eX3_downSeconds_0.2.2.2.2.2.2.2.1 bp_10 ?_
  refine lv_idiv hx hb eX3_downSeconds_0.2.2.2.2.2.2.2.2.1 (by decide) ?_
  refine lv_iadd hx hb eX3_downSeconds_0.2.2.2.2.2.2.2.2.2.1 ?_
  exact W.iret (v := 3 + (v_2 / 10)) hx hb hr (fun t ht hW => ⟨⟨3 + (v_2 / 10), (), rfl, hp, by rw [ht]; exact hP, va_K.moved hW.alike hK, hD⟩, hS.F ht⟩) hS.2.2 eX3_downSeconds_0.2.2.2.2.2.2.2.2.2.2
noncomputable abbrev wd_X9_standing (cI cC cZ cB cJ : ClassId) (a_x xG xD wY wJ wQ xI xK xJ tW tX jE mX pD oO oQ eG : Nat) (bZ bD bI aI : Int32) (nJ nY : Nat → Int32) : va_W := [(a_x, .inr (9, [.ref xG, .ref xD, .ref wY, .ref wJ, .ref wQ, .ref xI, .ref xK, .ref xJ, .ref tW])), (wJ, .inr (3, [.ref tX, .ref jE, .ref mX, .ref pD, .ref oO, .ref oQ, .ref eG, .int bZ, .int bD, .int bI, .int aI])), (oO, .inl (cI, 8, .inl nJ)), (oQ, .inl (cI, 8, .inl nY))]
noncomputable abbrev q_X9_standing (dC : Nat → ClassId) (dI : Nat → Nat → Nat) (cI cC cZ cB cJ : ClassId) (A : Nat → Prop) (a_x xG xD wY wJ wQ xI xK xJ tW tX jE mX pD oO oQ eG : Nat) (bZ bD bI aI : Int32) (nJ nY : Nat → Int32) (post : Int32 → Prop) : Array Value → State → Outcome → State → Prop := va_Qi (fun (r : Int32) (u : Unit) => post r) (fun u t => gB (dC, dI) (tyl cI cC cZ cB cJ) A (wd_X9_standing cI cC cZ cB cJ a_x xG xD wY wJ wQ xI xK xJ tW tX jE mX pD oO oQ eG bZ bD bI aI nJ nY) t) A
noncomputable abbrev rm_X9_standing : Room := { frames := 6, cells := 1, slots := 6, locals := 100 }
noncomputable def wp_X9_standing (post : Int32 → Prop) (postx : Prop) (p0 p1 bD : Int32) (nJ nY : Nat → Int32) : Prop := wp_X3_hasStanding (fun r_1 => (¬ r_1 = 0 → (p1 = 0 → vp_in p0 8 ∧ (post (nJ p0.toNatClampNeg))) ∧ (p1 = 1 → vp_in p0 8 ∧ (post (nY p0.toNatClampNeg))) ∧ (p1 = 2 → wp_X3_downSeconds (fun r_2 => post r_2) p0 nY) ∧ (¬ p1 = 0 → ¬ p1 = 1 → ¬ p1 = 2 → postx)) ∧ (r_1 = 0 → postx)) p0 bD
set_option maxHeartbeats 4000000 in
set_option maxRecDepth 100000 in
theorem c_X9_standing (l : Launch) (hl9 : l.stackTraces = false) (dC : Nat → ClassId) (dI : Nat → Nat → Nat) (cI cC cZ cB cJ : ClassId) (a_x xG xD wY wJ wQ xI xK xJ tW tX jE mX pD oO oQ eG sz : Nat) (p0 p1 bZ bD bI aI : Int32) (nJ nY : Nat → Int32) (post : Int32 → Prop) (postx : Prop) (hw : wp_X9_standing post postx p0 p1 bD nJ nY) : vx_Met l yX9_standing (gw yX9_standing cX9_standing 3 (some .int)) rm_X9_standing (va_Pc [.ref a_x, .int p0, .int p1] (gPre (dC, dI) (tyl cI cC cZ cB cJ) (wd_X9_standing cI cC cZ cB cJ a_x xG xD wY wJ wQ xI xK xJ tW tX jE mX pD oO oQ eG bZ bD bI aI nJ nY) sz)) (q_X9_standing dC dI cI cC cZ cB cJ (va_A (wd_X9_standing cI cC cZ cB cJ a_x xG xD wY wJ wQ xI xK xJ tW tX jE mX pD oO oQ eG bZ bD bI aI nJ nY) sz) a_x xG xD wY wJ wQ xI xK xJ tW tX jE mX pD oO oQ eG bZ bD bI aI nJ nY post) (gXC (dC, dI) (tyl cI cC cZ cB cJ) (va_A (wd_X9_standing cI cC cZ cB cJ a_x xG xD wY wJ wQ xI xK xJ tW tX jE mX pD oO oQ eG bZ bD bI aI nJ nY) sz) (wd_X9_standing cI cC cZ cB cJ a_x xG xD wY wJ wQ xI xK xJ tW tX jE mX pD oO oQ eG bZ bD bI aI nJ nY) postx) 1 6 (va_A (wd_X9_standing cI cC cZ cB cJ a_x xG xD wY wJ wQ xI xK xJ tW tX jE mX pD oO oQ eG bZ bD bI aI nJ nY) sz) := by
  refine g_enterX (own := RX9) (dC, dI) (tyl cI cC cZ cB cJ) (wd_X9_standing cI cC cZ cB cJ a_x xG xD wY wJ wQ xI xK xJ tW tX jE mX pD oO oQ eG bZ bD bI aI nJ nY) sz [.ref a_x, .int p0, .int p1] (fun A => q_X9_standing dC dI cI cC cZ cB cJ A a_x xG xD wY wJ wQ xI xK xJ tW tX jE mX pD oO oQ eG bZ bD bI aI nJ nY post) (fun A => (gXC (dC, dI) (tyl cI cC cZ cB cJ) A (wd_X9_standing cI cC cZ cB cJ a_x xG xD wY wJ wQ xI xK xJ tW tX jE mX pD oO oQ eG bZ bD bI aI nJ nY) postx)) (by decide) rfl (Nat.le_of_ble_eq_true rfl) ?_
  intro p e s m args below meth c A H locs ls C0 htab hP hD hS hl
  have hl : lv_has ls 3 [(0, .ref a_x), (1, .int p0), (2, .int p1)] := hl
  obtain ⟨hx, hb, hr, hml, hown, hts, hlocks, hA, hK, hN, tL, tM, hZL, hTL, hZM, hTM, hZX⟩ := id C0
  have hp := hw
  unfold wp_X9_standing at hp
  refine lv_aload_n hx hb eX9_standing_0.1 rfl (lv_at hl 0 rfl) ?_
  refine va_get (D := (dC, dI)) (ci := 9) (v := .ref wJ) (C := RX9) (T := TX9) (N := 9) hx hb hts i_X9 hown hK hP 0 rfl rfl 3 (Nat.le_of_ble_eq_true rfl) (hts _ q_74) (fun _ h9 => h9) rfl eX9_standing_0.2.1 ?_
  refine lv_iload_n hx hb eX9_standing_0.2.2.1 rfl (lv_at hl 1 rfl) ?_
  have hm := mgk (wc := (wd_X3_hasStanding cI cC cZ cB cJ wJ tX jE mX pD oO oQ eG bZ bD bI aI)) hP mk_36 4 rfl rfl rfl
  refine g_calli hP hD hS hA (mixT mk_36) (mixF mk_36) hm.1 hm.2 (nd_F _) (dis_g _) (g_runV (As := [.int p0]) (rest := []) C0 hP hD hS (mixT mk_36) hm.1 (nd_T _) 1 3 rfl rfl (c_X3_hasStanding l dC dI cI cC cZ cB cJ wJ tX jE mX pD oO oQ eG H.size p0 bZ bD bI aI _ hp) q_195 q_198 q_196 q_197 q_48 h_X3_hasStanding rfl rfl ⟨Nat.le_of_ble_eq_true rfl, Nat.le_of_ble_eq_true rfl⟩ rfl rfl hl.1 rfl (lv_room (Nat.le_of_ble_eq_true rfl)) eX9_standing_0.2.2.2.1 ⟨Nat.zero_le _, Nat.zero_le _⟩) (fun r_1 u H locs hp hP hD hS => ?_)
  have hPD := PDm (ws' := (wd_X9_standing cI cC cZ cB cJ a_x xG xD wY wJ wQ xI xK xJ tW tX jE mX pD oO oQ eG bZ bD bI aI nJ nY)) hP hD 4 rfl rfl rfl
  have hP := hPD.1
  have hD := hPD.2
  refine lv_if_ne (tgt := 19) hx hb eX9_standing_0.2.2.2.2.1 (by decide) (fun hc => ?_) (fun hc => ?_)
  · have hp := hp.1 hc
    refine lv_iload_n hx hb eX9_standing_0.2.2.2.2.2.2.2.2.2.1 rfl (lv_at hl 2 rfl) ?_
    by_cases hc0 : p1 = 0
    · have hp := hp.1 hc0
      refine lv_tableIn (tgt := 48) hx hb eX9_standing_0.2.2.2.2.2.2.2.2.2.2.1 (by first | (rw [hc0]; done) | (rw [hc0]; decide)) (by first | (rw [hc0]; done) | (rw [hc0]; decide)) (by first | (rw [hc0]; done) | (rw [hc0]; rfl)) (by decide) ?_
      refine lv_aload_n hx hb eX9_standing_0.2.2.2.2.2.2.2.2.2.2.2.1 rfl (lv_at hl 0 rfl) ?_
      refine va_get (D := (dC, dI)) (ci := 9) (v := .ref wJ) (C := RX9) (T := TX9) (N := 9) hx hb hts i_X9 hown hK hP 0 rfl rfl 3 (Nat.le_of_ble_eq_true rfl) (hts _ q_74) (fun _ h9 => h9) rfl eX9_standing_0.2.2.2.2.2.2.2.2.2.2.2.2.1 ?_
      refine va_get (D := (dC, dI)) (ci := 3) (v := .ref oO) (C := RX3) (T := TX3) (N := 11) hx hb hts i_X3 hown hK hP 1 rfl rfl 4 (Nat.le_of_ble_eq_true rfl) (hts _ q_199) (fun _ h9 => h9) rfl eX9_standing_0.2.2.2.2.2.2.2.2.2.2.2.2.2.1 ?_
      refine lv_iload_n hx hb eX9_standing_0.2.2.2.2.2.2.2.2.2.2.2.2.2.2.1 rfl (lv_at hl 1 rfl) ?_
      have hin := hp.1
      have hp := hp.2
      refine va_iald hx hb hK hP 2 0 rfl rfl hin eX9_standing_0.2.2.2.2.2.2.2.2.2.2.2.2.2.2.2 ?_
      refine vx_ret (W.widen (k := 1) (n := 6) (Nat.zero_le _) (Nat.zero_le _) ?_)
      exact W.iret (v := nJ p0.toNatClampNeg) hx hb hr (fun t ht hW => ⟨⟨nJ p0.toNatClampNeg, (), rfl, hp, by rw [ht]; exact hP, va_K.moved hW.alike hK, hD⟩, hS.F ht⟩) hS.2.2 eX9_standing_57.1
    by_cases hc1 : p1 = 1
    · have hp := hp.2.1 hc1
      refine lv_tableIn (tgt := 58) hx hb eX9_standing_0.2.2.2.2.2.2.2.2.2.2.1 (by first | (rw [hc1]; done) | (rw [hc1]; decide)) (by first | (rw [hc1]; done) | (rw [hc1]; decide)) (by first | (rw [hc1]; done) | (rw [hc1]; rfl)) (by decide) ?_
      refine lv_aload_n hx hb eX9_standing_57.2.1 rfl (lv_at hl 0 rfl) ?_
      refine va_get (D := (dC, dI)) (ci := 9) (v := .ref wJ) (C := RX9) (T := TX9) (N := 9) hx hb hts i_X9 hown hK hP 0 rfl rfl 3 (Nat.le_of_ble_eq_true rfl) (hts _ q_74) (fun _ h9 => h9) rfl eX9_standing_57.2.2.1 ?_
      refine va_get (D := (dC, dI)) (ci := 3) (v := .ref oQ) (C := RX3) (T := TX3) (N := 11) hx hb hts i_X3 hown hK hP 1 rfl rfl 5 (Nat.le_of_ble_eq_true rfl) (hts _ q_200) (fun _ h9 => h9) rfl eX9_standing_57.2.2.2.1 ?_
      refine lv_iload_n hx hb eX9_standing_57.2.2.2.2.1 rfl (lv_at hl 1 rfl) ?_
      have hin := hp.1
      have hp := hp.2
      refine va_iald hx hb hK hP 3 0 rfl rfl hin eX9_standing_57.2.2.2.2.2.1 ?_
      refine vx_ret (W.widen (k := 1) (n := 6) (Nat.zero_le _) (Nat.zero_le _) ?_)
      exact W.iret (v := nY p0.toNatClampNeg) hx hb hr (fun t ht hW => ⟨⟨nY p0.toNatClampNeg, (), rfl, hp, by rw [ht]; exact hP, va_K.moved hW.alike hK, hD⟩, hS.F ht⟩) hS.2.2 eX9_standing_57.2.2.2.2.2.2.1
    by_cases hc2 : p1 = 2
    · have hp := hp.2.2.1 hc2
      refine lv_tableIn (tgt := 68) hx hb eX9_standing_0.2.2.2.2.2.2.2.2.2.2.1 (by first | (rw [hc2]; done) | (rw [hc2]; decide)) (by first | (rw [hc2]; done) | (rw [hc2]; decide)) (by first | (rw [hc2]; done) | (rw [hc2]; rfl)) (by decide) ?_
      refine lv_aload_n hx hb eX9_standing_57.2.2.2.2.2.2.2.1 rfl (lv_at hl 0 rfl) ?_
      refine va_get (D := (dC, dI)) (ci := 9) (v := .ref wJ) (C := RX9) (T := TX9) (N := 9) hx hb hts i_X9 hown hK hP 0 rfl rfl 3 (Nat.le_of_ble_eq_true rfl) (hts _ q_74) (fun _ h9 => h9) rfl eX9_standing_57.2.2.2.2.2.2.2.2.1 ?_
      refine lv_iload_n hx hb eX9_standing_57.2.2.2.2.2.2.2.2.2.1 rfl (lv_at hl 1 rfl) ?_
      have hm := mgk (wc := (wd_X3_downSeconds cI cC cZ cB cJ wJ tX jE mX pD oO oQ eG bZ bD bI aI nY)) hP mk_37 4 rfl rfl rfl
      refine g_calli hP hD hS hA (mixT mk_37) (mixF mk_37) hm.1 hm.2 (nd_F _) (dis_g _) (g_runV (As := [.int p0]) (rest := []) C0 hP hD hS (mixT mk_37) hm.1 (nd_T _) 1 3 rfl rfl (c_X3_downSeconds l dC dI cI cC cZ cB cJ wJ tX jE mX pD oO oQ eG H.size p0 bZ bD bI aI nY _ hp) q_201 q_204 q_202 q_203 q_48 h_X3_downSeconds rfl rfl ⟨Nat.le_of_ble_eq_true rfl, Nat.le_of_ble_eq_true rfl⟩ rfl rfl hl.1 rfl (lv_room (Nat.le_of_ble_eq_true rfl)) eX9_standing_57.2.2.2.2.2.2.2.2.2.2.1 ⟨Nat.zero_le _, Nat.zero_le _⟩) (fun r_2 u H locs hp hP hD hS => ?_)
      have hPD := PDm (ws' := (wd_X9_standing cI cC cZ cB cJ a_x xG xD wY wJ wQ xI xK xJ tW tX jE mX pD oO oQ eG bZ bD bI aI nJ nY)) hP hD 4 rfl rfl rfl
      have hP := hPD.1
      have hD := hPD.2
      refine vx_ret (W.widen (k := 1) (n := 6) (Nat.zero_le _) (Nat.zero_le _) ?_)
      exact W.iret (v := r_2) hx hb hr (fun t ht hW => ⟨⟨r_2, (), rfl, hp, by rw [ht]; exact hP, va_K.moved hW.alike hK, hD⟩, hS.F ht⟩) hS.2.2 eX9_standing_57.2.2.2.2.2.2.2.2.2.2.2.1
    have hp := hp.2.2.2 hc0 hc1 hc2
    have key : W p l e rm_X9_standing s m args below meth c H locs 0 0 (vx_MQ below (q_X9_standing dC dI cI cC cZ cB cJ A a_x xG xD wY wJ wQ xI xK xJ tW tX jE mX pD oO oQ eG bZ bD bI aI nJ nY post) (gXC (dC, dI) (tyl cI cC cZ cB cJ) A (wd_X9_standing cI cC cZ cB cJ a_x xG xD wY wJ wQ xI xK xJ tW tX jE mX pD oO oQ eG bZ bD bI aI nJ nY) postx) args s 1 6 A) (F0 m 77 ls []) := by
      exact g_throw C0 hl9 htab hP hD hS hl.1 eX9_standing_57.2.2.2.2.2.2.2.2.2.2.2.2.1 eX9_standing_57.2.2.2.2.2.2.2.2.2.2.2.2.2.1 eX9_standing_57.2.2.2.2.2.2.2.2.2.2.2.2.2.2.1 eX9_standing_57.2.2.2.2.2.2.2.2.2.2.2.2.2.2.2 (Nat.le_of_ble_eq_true rfl) (Nat.le_of_ble_eq_true rfl) (Nat.le_of_ble_eq_true rfl) (Nat.le_of_ble_eq_true rfl) hp
    exact lv_tableOut (tgt := 77) hx hb eX9_standing_0.2.2.2.2.2.2.2.2.2.2.1 (by have g0 := lv_neT (a := 0) hc0 rfl; have g1 := lv_neT (a := 1) hc1 rfl; have g2 := lv_neT (a := 2) hc2 rfl; omega) (by decide) key
  · have hp := hp.2 hc
    exact g_throw C0 hl9 htab hP hD hS hl.1 eX9_standing_0.2.2.2.2.2.1 eX9_standing_0.2.2.2.2.2.2.1 eX9_standing_0.2.2.2.2.2.2.2.1 eX9_standing_0.2.2.2.2.2.2.2.2.1 (Nat.le_of_ble_eq_true rfl) (Nat.le_of_ble_eq_true rfl) (Nat.le_of_ble_eq_true rfl) (Nat.le_of_ble_eq_true rfl) hp
