abbrev wd_X7_emit (cI cC cZ cB cJ : ClassId) (a_ru : Nat) (a_ru_given : Nat) (a_ru_waiting : Nat) (a_ru_stack : Nat) (a_ru_program : Nat) (a_ru_draft : Nat) (ru_length : Int32) (ru_drafted : Int32) (ru_waits : Int32) (ru_open : Int32) (ru_compared : Int32) (ru_wantsThing : Int32) (ru_draft : Nat → Int32) : va_W := [(a_ru, .inr (7, [.ref a_ru_given, .ref a_ru_waiting, .ref a_ru_stack, .ref a_ru_program, .ref a_ru_draft, .int ru_length, .int ru_drafted, .int ru_waits, .int ru_open, .int ru_compared, .int ru_wantsThing])), (a_ru_draft, .inl (cI, 40, .inl ru_draft))]
abbrev q_X7_emit (dC : Nat → ClassId) (dI : Nat → Nat → Nat) (cI cC cZ cB cJ : ClassId) (A : Nat → Prop) (a_ru : Nat) (a_ru_given : Nat) (a_ru_waiting : Nat) (a_ru_stack : Nat) (a_ru_program : Nat) (a_ru_draft : Nat) (ru_length : Int32) (ru_waits : Int32) (ru_open : Int32) (ru_compared : Int32) (ru_wantsThing : Int32) (post : Int32 → (Nat → Int32) → Prop) : Array Value → State → Outcome → State → Prop := va_Qv (fun (u : Int32 × (Nat → Int32)) => post u.1 u.2) (fun u t => gB (dC, dI) (tyl cI cC cZ cB cJ) A (wd_X7_emit cI cC cZ cB cJ a_ru a_ru_given a_ru_waiting a_ru_stack a_ru_program a_ru_draft ru_length u.1 ru_waits ru_open ru_compared ru_wantsThing u.2) t) A
abbrev rm_X7_emit : Room := { frames := 0, cells := 0, slots := 0, locals := 0 }
def wp_X7_emit (post : Int32 → (Nat → Int32) → Prop) (p0 : Int32) (ru_drafted : Int32) (ru_draft : Nat → Int32) : Prop := (40 ≤ ru_drafted → post ru_drafted ru_draft) ∧ (¬ 40 ≤ ru_drafted → vp_in ru_drafted 40 ∧ (∀ v_1 : Int32, v_1 = ru_drafted + 1 → post v_1 (upd ru_draft ru_drafted.toNatClampNeg p0)))
set_option maxHeartbeats 4000000 in
set_option maxRecDepth 100000 in
theorem c_X7_emit (l : Launch) (dC : Nat → ClassId) (dI : Nat → Nat → Nat) (cI cC cZ cB cJ : ClassId) (a_ru : Nat) (a_ru_given : Nat) (a_ru_waiting : Nat) (a_ru_stack : Nat) (a_ru_program : Nat) (a_ru_draft : Nat) (sz : Nat) (p0 : Int32) (ru_length : Int32) (ru_drafted : Int32) (ru_waits : Int32) (ru_open : Int32) (ru_compared : Int32) (ru_wantsThing : Int32) (ru_draft : Nat → Int32) (post : Int32 → (Nat → Int32) → Prop) (hw : wp_X7_emit post p0 ru_drafted ru_draft) : Met l yX7_emit (gw yX7_emit cX7_emit 2 none) rm_X7_emit (va_Pc [.ref a_ru, .int p0] (gPre (dC, dI) (tyl cI cC cZ cB cJ) (wd_X7_emit cI cC cZ cB cJ a_ru a_ru_given a_ru_waiting a_ru_stack a_ru_program a_ru_draft ru_length ru_drafted ru_waits ru_open ru_compared ru_wantsThing ru_draft) sz)) (q_X7_emit dC dI cI cC cZ cB cJ (va_A (wd_X7_emit cI cC cZ cB cJ a_ru a_ru_given a_ru_waiting a_ru_stack a_ru_program a_ru_draft ru_length ru_drafted ru_waits ru_open ru_compared ru_wantsThing ru_draft) sz) a_ru a_ru_given a_ru_waiting a_ru_stack a_ru_program a_ru_draft ru_length ru_waits ru_open ru_compared ru_wantsThing post) 0 0 (va_A (wd_X7_emit cI cC cZ cB cJ a_ru a_ru_given a_ru_waiting a_ru_stack a_ru_program a_ru_draft ru_length ru_drafted ru_waits ru_open ru_compared ru_wantsThing ru_draft) sz) := by
  refine g_enter (own := RX7) (dC, dI) (tyl cI cC cZ cB cJ) (wd_X7_emit cI cC cZ cB cJ a_ru a_ru_given a_ru_waiting a_ru_stack a_ru_program a_ru_draft ru_length ru_drafted ru_waits ru_open ru_compared ru_wantsThing ru_draft) sz [.ref a_ru, .int p0] (fun A => q_X7_emit dC dI cI cC cZ cB cJ A a_ru a_ru_given a_ru_waiting a_ru_stack a_ru_program a_ru_draft ru_length ru_waits ru_open ru_compared ru_wantsThing post) (by decide) rfl (Nat.le_of_ble_eq_true rfl) ?_
  intro p e s m args below meth c A H locs ls C0 hP hD hS hl
  have hl : lv_has ls 2 [(0, .ref a_ru), (1, .int p0)] := hl
  obtain ⟨hx, hb, hr, hml, hown, hts, hlocks, hA, hK, hN, tL, tM, hZL, hTL, hZM, hTM, hZX⟩ := id C0
  have hp := hw
  unfold wp_X7_emit at hp
  refine lv_aload_n hx hb eX7_emit_0.1 rfl (lv_at hl 0 rfl) ?_
  refine va_get (D := (dC, dI)) (ci := 7) (v := .int ru_drafted) (C := RX7) (T := TX7) (N := 11) hx hb hts i_X7 hown hK hP 0 rfl rfl 6 (Nat.le_of_ble_eq_true rfl) (hts _ q_104) (fun _ h9 => h9) rfl eX7_emit_0.2.1 ?_
  refine lv_aload_n hx hb eX7_emit_0.2.2.1 rfl (lv_at hl 0 rfl) ?_
  refine va_get (D := (dC, dI)) (ci := 7) (v := .ref a_ru_draft) (C := RX7) (T := TX7) (N := 11) hx hb hts i_X7 hown hK hP 0 rfl rfl 4 (Nat.le_of_ble_eq_true rfl) (hts _ q_105) (fun _ h9 => h9) rfl eX7_emit_0.2.2.2.1 ?_
  refine va_alen (v := 40) hx hb hK hP 1 0 rfl rfl rfl eX7_emit_0.2.2.2.2.1 ?_
  refine lv_icmp_ge (tgt := 32) hx hb eX7_emit_0.2.2.2.2.2.1 (by decide) (fun hc => ?_) (fun hc => ?_)
  · have hp := hp.1 hc
    exact W.vret hx hb hr (fun t ht hW => ⟨⟨(ru_drafted, ru_draft), rfl, hp, by rw [ht]; exact hP, va_K.moved hW.alike hK, hD⟩, hS.F ht⟩) hS.2.2 eX7_emit_28.2.2
  · have hp := hp.2 hc
    refine lv_aload_n hx hb eX7_emit_0.2.2.2.2.2.2.1 rfl (lv_at hl 0 rfl) ?_
    refine va_get (D := (dC, dI)) (ci := 7) (v := .ref a_ru_draft) (C := RX7) (T := TX7) (N := 11) hx hb hts i_X7 hown hK hP 0 rfl rfl 4 (Nat.le_of_ble_eq_true rfl) (hts _ q_105) (fun _ h9 => h9) rfl eX7_emit_0.2.2.2.2.2.2.2.1 ?_
    refine lv_aload_n hx hb eX7_emit_0.2.2.2.2.2.2.2.2.1 rfl (lv_at hl 0 rfl) ?_
    refine va_get (D := (dC, dI)) (ci := 7) (v := .int ru_drafted) (C := RX7) (T := TX7) (N := 11) hx hb hts i_X7 hown hK hP 0 rfl rfl 6 (Nat.le_of_ble_eq_true rfl) (hts _ q_104) (fun _ h9 => h9) rfl eX7_emit_0.2.2.2.2.2.2.2.2.2.1 ?_
    refine lv_iload_n hx hb eX7_emit_0.2.2.2.2.2.2.2.2.2.2.1 rfl (lv_at hl 1 rfl) ?_
    have hin := hp.1
    have hp := hp.2
    refine va_iast hx hb hK hP hD hS 1 0 rfl rfl hin eX7_emit_0.2.2.2.2.2.2.2.2.2.2.2.1 (fun H locs hP hD hS => ?_)
    have hP : va_P (dC, dI) classes (wd_X7_emit cI cC cZ cB cJ a_ru a_ru_given a_ru_waiting a_ru_stack a_ru_program a_ru_draft ru_length ru_drafted ru_waits ru_open ru_compared ru_wantsThing (upd ru_draft ru_drafted.toNatClampNeg p0)) H := hP
    have hD : va_D A (wd_X7_emit cI cC cZ cB cJ a_ru a_ru_given a_ru_waiting a_ru_stack a_ru_program a_ru_draft ru_length ru_drafted ru_waits ru_open ru_compared ru_wantsThing (upd ru_draft ru_drafted.toNatClampNeg p0)) := hD
    refine lv_aload_n hx hb eX7_emit_0.2.2.2.2.2.2.2.2.2.2.2.2.1 rfl (lv_at hl 0 rfl) ?_
    refine lv_dup hx hb eX7_emit_0.2.2.2.2.2.2.2.2.2.2.2.2.2.1 rfl ?_
    refine va_get (D := (dC, dI)) (ci := 7) (v := .int ru_drafted) (C := RX7) (T := TX7) (N := 11) hx hb hts i_X7 hown hK hP 0 rfl rfl 6 (Nat.le_of_ble_eq_true rfl) (hts _ q_104) (fun _ h9 => h9) rfl eX7_emit_0.2.2.2.2.2.2.2.2.2.2.2.2.2.2.1 ?_
    refine lv_iconst (v := 1) hx hb eX7_emit_0.2.2.2.2.2.2.2.2.2.2.2.2.2.2.2 (by decide) ?_
    refine lv_iadd hx hb eX7_emit_28.1 ?_
    refine lv_topi (fun v_1 ev_1 => ?_)
    have hp := hp v_1 ev_1
    refine va_put (D := (dC, dI)) (ci := 7) (v := .int v_1) (ty := .int) (C := RX7) (T := TX7) (N := 11) hx hb hts i_X7 tyX7 tyX7_ok nmX7 hown hK hP hD hS 0 rfl rfl 6 (Nat.le_of_ble_eq_true rfl) (hts _ q_104) (fun _ h9 => h9) rfl (tyX7_ok 6 (Nat.le_of_ble_eq_true rfl)) rfl rfl (Nat.le_of_ble_eq_true rfl) eX7_emit_28.2.1 (fun H locs hP hD hS => ?_)
    have hP : va_P (dC, dI) classes (wd_X7_emit cI cC cZ cB cJ a_ru a_ru_given a_ru_waiting a_ru_stack a_ru_program a_ru_draft ru_length v_1 ru_waits ru_open ru_compared ru_wantsThing (upd ru_draft ru_drafted.toNatClampNeg p0)) H := hP
    have hD : va_D A (wd_X7_emit cI cC cZ cB cJ a_ru a_ru_given a_ru_waiting a_ru_stack a_ru_program a_ru_draft ru_length v_1 ru_waits ru_open ru_compared ru_wantsThing (upd ru_draft ru_drafted.toNatClampNeg p0)) := hD
    exact W.vret hx hb hr (fun t ht hW => ⟨⟨(v_1, (upd ru_draft ru_drafted.toNatClampNeg p0)), rfl, hp, by rw [ht]; exact hP, va_K.moved hW.alike hK, hD⟩, hS.F ht⟩) hS.2.2 eX7_emit_28.2.2
abbrev wd_X7_readPlainThing (cI cC cZ cB cJ : ClassId) (a_tx : Nat) (a_tx_signs : Nat) (a_ru : Nat) (a_ru_given : Nat) (a_ru_waiting : Nat) (a_ru_stack : Nat) (a_ru_program : Nat) (a_ru_draft : Nat) (tx_length : Int32) (tx_place : Int32) (tx_stop : Int32) (tx_signs : Nat → Int32) (ru_length : Int32) (ru_drafted : Int32) (ru_waits : Int32) (ru_open : Int32) (ru_compared : Int32) (ru_wantsThing : Int32) (ru_draft : Nat → Int32) : va_W := [(a_tx, .inr (8, [.ref a_tx_signs, .int tx_length, .int tx_place, .int tx_stop])), (a_tx_signs, .inl (cC, 80, .inl tx_signs)), (a_ru, .inr (7, [.ref a_ru_given, .ref a_ru_waiting, .ref a_ru_stack, .ref a_ru_program, .ref a_ru_draft, .int ru_length, .int ru_drafted, .int ru_waits, .int ru_open, .int ru_compared, .int ru_wantsThing])), (a_ru_draft, .inl (cI, 40, .inl ru_draft))]
abbrev q_X7_readPlainThing (dC : Nat → ClassId) (dI : Nat → Nat → Nat) (cI cC cZ cB cJ : ClassId) (A : Nat → Prop) (a_tx : Nat) (a_tx_signs : Nat) (a_ru : Nat) (a_ru_given : Nat) (a_ru_waiting : Nat) (a_ru_stack : Nat) (a_ru_program : Nat) (a_ru_draft : Nat) (tx_length : Int32) (tx_stop : Int32) (tx_signs : Nat → Int32) (ru_length : Int32) (ru_waits : Int32) (ru_open : Int32) (ru_compared : Int32) (post : Int32 → Int32 → Int32 → Int32 → (Nat → Int32) → Prop) : Array Value → State → Outcome → State → Prop := va_Qi (fun (r : Int32) (u : Int32 × Int32 × Int32 × (Nat → Int32)) => post r u.1 u.2.1 u.2.2.1 u.2.2.2) (fun u t => gB (dC, dI) (tyl cI cC cZ cB cJ) A (wd_X7_readPlainThing cI cC cZ cB cJ a_tx a_tx_signs a_ru a_ru_given a_ru_waiting a_ru_stack a_ru_program a_ru_draft tx_length u.1 tx_stop tx_signs ru_length u.2.1 ru_waits ru_open ru_compared u.2.2.1 u.2.2.2) t) A
abbrev rm_X7_readPlainThing : Room := { frames := 4, cells := 0, slots := 0, locals := 111 }
section S_X7_readPlainThing
variable {p : Program} {l : Launch} {e : Env} {s : State} {m : MethodId} {args : Array Value} {below : List Frame} {meth : Method} {c : Code} {dC : Nat → ClassId} {dI : Nat → Nat → Nat} {cI cC cZ cB cJ : ClassId} {A : Nat → Prop} {a_tx : Nat} {a_tx_signs : Nat} {a_ru : Nat} {a_ru_given : Nat} {a_ru_waiting : Nat} {a_ru_stack : Nat} {a_ru_program : Nat} {a_ru_draft : Nat} {tx_length : Int32} {tx_stop : Int32} {tx_signs : Nat → Int32} {ru_length : Int32} {ru_waits : Int32} {ru_open : Int32} {ru_compared : Int32} {post : Int32 → Int32 → Int32 → Int32 → (Nat → Int32) → Prop}
def ws_X7_readPlainThing_38 (post : Int32 → Int32 → Int32 → Int32 → (Nat → Int32) → Prop) (tx_stop : Int32) (tx_signs : Nat → Int32) (x2 : Int32) (tx_place : Int32) (ru_drafted : Int32) (ru_wantsThing : Int32) (ru_draft : Nat → Int32) : Prop := wp_X7_emit (fun ru_drafted_3 ru_draft_4 => post 1 tx_place ru_drafted_3 0 ru_draft_4) x2 ru_drafted ru_draft
set_option maxHeartbeats 4000000 in
set_option maxRecDepth 100000 in
theorem ks_X7_readPlainThing_38 (C0 : gc cX7_readPlainThing (some .boolean) 4 RX7 (dC, dI) (tyl cI cC cZ cB cJ) A p s m args meth c) : ∀ (x2 : Int32) (tx_place : Int32) (ru_drafted : Int32) (ru_wantsThing : Int32) (ru_draft : Nat → Int32) (H : Heap) (locs : List Loc) (ls : Array Slot), (ws_X7_readPlainThing_38 post tx_stop tx_signs) x2 tx_place ru_drafted ru_wantsThing ru_draft → va_P (dC, dI) classes (wd_X7_readPlainThing cI cC cZ cB cJ a_tx a_tx_signs a_ru a_ru_given a_ru_waiting a_ru_stack a_ru_program a_ru_draft tx_length tx_place tx_stop tx_signs ru_length ru_drafted ru_waits ru_open ru_compared ru_wantsThing ru_draft) H → va_D A (wd_X7_readPlainThing cI cC cZ cB cJ a_tx a_tx_signs a_ru a_ru_given a_ru_waiting a_ru_stack a_ru_program a_ru_draft tx_length tx_place tx_stop tx_signs ru_length ru_drafted ru_waits ru_open ru_compared ru_wantsThing ru_draft) → va_S A s.heap H locs → lv_has ls 4 [(0, .ref a_ru), (2, .int x2)] → W p l e rm_X7_readPlainThing s m args below meth c H locs 0 0 (MQ below (q_X7_readPlainThing dC dI cI cC cZ cB cJ A a_tx a_tx_signs a_ru a_ru_given a_ru_waiting a_ru_stack a_ru_program a_ru_draft tx_length tx_stop tx_signs ru_length ru_waits ru_open ru_compared post) args s 0 0 A) (F0 m 38 ls []) := by
  obtain ⟨hx, hb, hr, hml, hown, hts, hlocks, hA, hK, hN, tL, tM, hZL, hTL, hZM, hTM, hZX⟩ := id C0
  intro x2 tx_place ru_drafted ru_wantsThing ru_draft H locs ls hp hP hD hS hl
  unfold ws_X7_readPlainThing_38 at hp
  refine lv_aload_n hx hb eX7_readPlainThing_27.2.2.2.2.2.2.2.1 rfl (lv_at hl 0 rfl) ?_
  refine lv_iload_n hx hb eX7_readPlainThing_27.2.2.2.2.2.2.2.2.1 rfl (lv_at hl 1 rfl) ?_
  refine g_callv (wc := (wd_X7_emit cI cC cZ cB cJ a_ru a_ru_given a_ru_waiting a_ru_stack a_ru_program a_ru_draft ru_length ru_drafted ru_waits ru_open ru_compared ru_wantsThing ru_draft)) hP hD hS hA [2, 3] [0, 1] rfl rfl rfl rfl (g_runV (As := [.int x2]) (rest := []) C0 hP hD hS [2, 3] rfl rfl 2 7 rfl rfl (c_X7_emit l dC dI cI cC cZ cB cJ a_ru a_ru_given a_ru_waiting a_ru_stack a_ru_program a_ru_draft H.size x2 ru_length ru_drafted ru_waits ru_open ru_compared ru_wantsThing ru_draft _ hp) q_107 q_111 q_109 q_110 q_108 h_X7_emit rfl rfl ⟨Nat.le_of_ble_eq_true rfl, Nat.le_of_ble_eq_true rfl⟩ rfl rfl hl.1 rfl (lv_room (Nat.le_of_ble_eq_true rfl)) eX7_readPlainThing_27.2.2.2.2.2.2.2.2.2.1 ⟨Nat.zero_le _, Nat.zero_le _⟩) (fun u H locs hp hP hD hS => ?_)
  obtain ⟨ru_drafted_3, ru_draft_4⟩ := u
  have hPD := PDs (ws' := (wd_X7_readPlainThing cI cC cZ cB cJ a_tx a_tx_signs a_ru a_ru_given a_ru_waiting a_ru_stack a_ru_program a_ru_draft tx_length tx_place tx_stop tx_signs ru_length ru_drafted_3 ru_waits ru_open ru_compared ru_wantsThing ru_draft_4)) hP hD [0, 1, 2, 3] (by decide) rfl
  have hP := hPD.1
  have hD := hPD.2
  refine lv_aload_n hx hb eX7_readPlainThing_27.2.2.2.2.2.2.2.2.2.2.1 rfl (lv_at hl 0 rfl) ?_
  refine lv_iconst (v := 0) hx hb eX7_readPlainThing_27.2.2.2.2.2.2.2.2.2.2.2.1 (by decide) ?_
  refine va_put (D := (dC, dI)) (ci := 7) (v := .int 0) (ty := .boolean) (C := RX7) (T := TX7) (N := 11) hx hb hts i_X7 tyX7 tyX7_ok nmX7 hown hK hP hD hS 2 rfl rfl 10 (Nat.le_of_ble_eq_true rfl) (hts _ q_112) (fun _ h9 => h9) rfl (tyX7_ok 10 (Nat.le_of_ble_eq_true rfl)) rfl rfl (Nat.le_of_ble_eq_true rfl) eX7_readPlainThing_27.2.2.2.2.2.2.2.2.2.2.2.2.1 (fun H locs hP hD hS => ?_)
  have hP : va_P (dC, dI) classes (wd_X7_readPlainThing cI cC cZ cB cJ a_tx a_tx_signs a_ru a_ru_given a_ru_waiting a_ru_stack a_ru_program a_ru_draft tx_length tx_place tx_stop tx_signs ru_length ru_drafted_3 ru_waits ru_open ru_compared 0 ru_draft_4) H := hP
  have hD : va_D A (wd_X7_readPlainThing cI cC cZ cB cJ a_tx a_tx_signs a_ru a_ru_given a_ru_waiting a_ru_stack a_ru_program a_ru_draft tx_length tx_place tx_stop tx_signs ru_length ru_drafted_3 ru_waits ru_open ru_compared 0 ru_draft_4) := hD
  refine lv_iconst (v := 1) hx hb eX7_readPlainThing_27.2.2.2.2.2.2.2.2.2.2.2.2.2.1 (by decide) ?_
  exact W.zret (v := 1) hx hb hr rfl (fun t ht hW => ⟨⟨1, (tx_place, ru_drafted_3, 0, ru_draft_4), rfl, hp, by rw [ht]; exact hP, va_K.moved hW.alike hK, hD⟩, hS.F ht⟩) hS.2.2 eX7_readPlainThing_27.2.2.2.2.2.2.2.2.2.2.2.2.2.2
end S_X7_readPlainThing
def wp_X7_readPlainThing (post : Int32 → Int32 → Int32 → Int32 → (Nat → Int32) → Prop) (tx_place : Int32) (tx_stop : Int32) (tx_signs : Nat → Int32) (ru_drafted : Int32) (ru_wantsThing : Int32) (ru_draft : Nat → Int32) : Prop := wp_X8_readNumber (fun r_1 tx_place_2 => (¬ r_1 = (-1) → ws_X7_readPlainThing_38 post tx_stop tx_signs r_1 tx_place_2 ru_drafted ru_wantsThing ru_draft) ∧ (r_1 = (-1) → wp_X8_here (fun r_5 => ∀ v_6 : Int32, v_6 = (r_5.toUInt32 % 65536).toInt32 → ∀ v_7 : Int32, v_7 = lix v_6 → (0 ≤ v_7 → ∀ v_8 : Int32, v_8 = 1000 + v_7 → wp_X8_skip (fun tx_place_9 => ws_X7_readPlainThing_38 post tx_stop tx_signs v_8 tx_place_9 ru_drafted ru_wantsThing ru_draft) tx_place_2 tx_stop) ∧ (¬ 0 ≤ v_7 → post 0 tx_place_2 ru_drafted ru_wantsThing ru_draft)) tx_place_2 tx_stop tx_signs)) 3 tx_place tx_stop tx_signs
set_option maxHeartbeats 4000000 in
set_option maxRecDepth 100000 in
theorem c_X7_readPlainThing (l : Launch) (dC : Nat → ClassId) (dI : Nat → Nat → Nat) (cI cC cZ cB cJ : ClassId) (a_tx : Nat) (a_tx_signs : Nat) (a_ru : Nat) (a_ru_given : Nat) (a_ru_waiting : Nat) (a_ru_stack : Nat) (a_ru_program : Nat) (a_ru_draft : Nat) (sz : Nat) (tx_length : Int32) (tx_place : Int32) (tx_stop : Int32) (tx_signs : Nat → Int32) (ru_length : Int32) (ru_drafted : Int32) (ru_waits : Int32) (ru_open : Int32) (ru_compared : Int32) (ru_wantsThing : Int32) (ru_draft : Nat → Int32) (post : Int32 → Int32 → Int32 → Int32 → (Nat → Int32) → Prop) (hw : wp_X7_readPlainThing post tx_place tx_stop tx_signs ru_drafted ru_wantsThing ru_draft) : Met l yX7_readPlainThing (gw yX7_readPlainThing cX7_readPlainThing 4 (some .boolean)) rm_X7_readPlainThing (va_Pc [.ref a_ru, .ref a_tx] (gPre (dC, dI) (tyl cI cC cZ cB cJ) (wd_X7_readPlainThing cI cC cZ cB cJ a_tx a_tx_signs a_ru a_ru_given a_ru_waiting a_ru_stack a_ru_program a_ru_draft tx_length tx_place tx_stop tx_signs ru_length ru_drafted ru_waits ru_open ru_compared ru_wantsThing ru_draft) sz)) (q_X7_readPlainThing dC dI cI cC cZ cB cJ (va_A (wd_X7_readPlainThing cI cC cZ cB cJ a_tx a_tx_signs a_ru a_ru_given a_ru_waiting a_ru_stack a_ru_program a_ru_draft tx_length tx_place tx_stop tx_signs ru_length ru_drafted ru_waits ru_open ru_compared ru_wantsThing ru_draft) sz) a_tx a_tx_signs a_ru a_ru_given a_ru_waiting a_ru_stack a_ru_program a_ru_draft tx_length tx_stop tx_signs ru_length ru_waits ru_open ru_compared post) 0 0 (va_A (wd_X7_readPlainThing cI cC cZ cB cJ a_tx a_tx_signs a_ru a_ru_given a_ru_waiting a_ru_stack a_ru_program a_ru_draft tx_length tx_place tx_stop tx_signs ru_length ru_drafted ru_waits ru_open ru_compared ru_wantsThing ru_draft) sz) := by
  refine g_enter (own := RX7) (dC, dI) (tyl cI cC cZ cB cJ) (wd_X7_readPlainThing cI cC cZ cB cJ a_tx a_tx_signs a_ru a_ru_given a_ru_waiting a_ru_stack a_ru_program a_ru_draft tx_length tx_place tx_stop tx_signs ru_length ru_drafted ru_waits ru_open ru_compared ru_wantsThing ru_draft) sz [.ref a_ru, .ref a_tx] (fun A => q_X7_readPlainThing dC dI cI cC cZ cB cJ A a_tx a_tx_signs a_ru a_ru_given a_ru_waiting a_ru_stack a_ru_program a_ru_draft tx_length tx_stop tx_signs ru_length ru_waits ru_open ru_compared post) (by decide) rfl (Nat.le_of_ble_eq_true rfl) ?_
  intro p e s m args below meth c A H locs ls C0 hP hD hS hl
  have hl : lv_has ls 4 [(0, .ref a_ru), (1, .ref a_tx)] := hl
  obtain ⟨hx, hb, hr, hml, hown, hts, hlocks, hA, hK, hN, tL, tM, hZL, hTL, hZM, hTM, hZX⟩ := id C0
  have hp := hw
  unfold wp_X7_readPlainThing at hp
  refine lv_aload_n hx hb eX7_readPlainThing_0.1 rfl (lv_at hl 1 rfl) ?_
  refine lv_iconst (v := 3) hx hb eX7_readPlainThing_0.2.1 (by decide) ?_
  refine g_calli (wc := (wd_X8_readNumber cI cC cZ cB cJ a_tx a_tx_signs tx_length tx_place tx_stop tx_signs)) hP hD hS hA [0, 1] [2, 3] rfl rfl rfl rfl (g_runV (As := [.int 3]) (rest := []) C0 hP hD hS [0, 1] rfl rfl 0 8 rfl rfl (c_X8_readNumber l dC dI cI cC cZ cB cJ a_tx a_tx_signs H.size 3 tx_length tx_place tx_stop tx_signs _ hp) q_37 q_106 q_38 q_39 q_5 h_X8_readNumber rfl rfl ⟨Nat.le_of_ble_eq_true rfl, Nat.le_of_ble_eq_true rfl⟩ rfl rfl hl.1 rfl (lv_room (Nat.le_of_ble_eq_true rfl)) eX7_readPlainThing_0.2.2.1 ⟨Nat.zero_le _, Nat.zero_le _⟩) (fun r_1 u H locs hp hP hD hS => ?_)
  obtain ⟨tx_place_2, rfl⟩ : ∃ z, z = u := ⟨_, rfl⟩
  have hPD := PDs (ws' := (wd_X7_readPlainThing cI cC cZ cB cJ a_tx a_tx_signs a_ru a_ru_given a_ru_waiting a_ru_stack a_ru_program a_ru_draft tx_length tx_place_2 tx_stop tx_signs ru_length ru_drafted ru_waits ru_open ru_compared ru_wantsThing ru_draft)) hP hD [2, 3, 0, 1] (by decide) rfl
  have hP := hPD.1
  have hD := hPD.2
  refine lv_istore_n (lv' := [(2, .int r_1), (0, .ref a_ru), (1, .ref a_tx)]) hx hb eX7_readPlainThing_0.2.2.2.1 rfl hl (by decide) rfl (fun ls hl => ?_)
  refine lv_iload_n hx hb eX7_readPlainThing_0.2.2.2.2.1 rfl (lv_at hl 0 rfl) ?_
  refine lv_iconst (v := (-1)) hx hb eX7_readPlainThing_0.2.2.2.2.2.1 (by decide) ?_
  refine lv_icmp_ne (tgt := 38) hx hb eX7_readPlainThing_0.2.2.2.2.2.2.1 (by decide) (fun hc => ?_) (fun hc => ?_)
  · have hp := hp.1 hc
    exact ks_X7_readPlainThing_38 C0 r_1 tx_place_2 ru_drafted ru_wantsThing ru_draft H locs ls hp hP hD hS (lv_sub hl [1, 0] rfl)
  · have hp := hp.2 hc
    obtain ⟨-, -, -, tS, tV, gS1, gS2, -⟩ := id hZX
    refine va_ldcS hx hb hown gS1 eX7_readPlainThing_0.2.2.2.2.2.2.2.1 ?_
    refine lv_aload_n hx hb eX7_readPlainThing_0.2.2.2.2.2.2.2.2.1 rfl (lv_at hl 2 rfl) ?_
    refine g_calli (wc := (wd_X8_here cI cC cZ cB cJ a_tx a_tx_signs tx_length tx_place_2 tx_stop tx_signs)) hP hD hS hA [0, 1] [2, 3] rfl rfl rfl rfl (g_runV (As := []) (rest := [.ref tS]) C0 hP hD hS [0, 1] rfl rfl 0 8 rfl rfl (c_X8_here l dC dI cI cC cZ cB cJ a_tx a_tx_signs H.size tx_length tx_place_2 tx_stop tx_signs _ hp) q_33 q_113 q_34 q_35 q_5 h_X8_here rfl rfl ⟨Nat.le_of_ble_eq_true rfl, Nat.le_of_ble_eq_true rfl⟩ rfl rfl hl.1 rfl (lv_room (Nat.le_of_ble_eq_true rfl)) eX7_readPlainThing_0.2.2.2.2.2.2.2.2.2.1 ⟨Nat.zero_le _, Nat.zero_le _⟩) (fun r_5 u H locs hp hP hD hS => ?_)
    have hPD := PDs (ws' := (wd_X7_readPlainThing cI cC cZ cB cJ a_tx a_tx_signs a_ru a_ru_given a_ru_waiting a_ru_stack a_ru_program a_ru_draft tx_length tx_place_2 tx_stop tx_signs ru_length ru_drafted ru_waits ru_open ru_compared ru_wantsThing ru_draft)) hP hD [2, 3, 0, 1] (by decide) rfl
    have hP := hPD.1
    have hD := hPD.2
    refine lv_i2c hx hb eX7_readPlainThing_0.2.2.2.2.2.2.2.2.2.2.1 rfl ?_
    refine lv_topi (fun v_6 ev_6 => ?_)
    have hp := hp v_6 ev_6
    refine g_stridx (rest := []) (x := v_6) C0 hP hD hS gS1 gS2 q_114 hl.1 (lv_room (Nat.le_of_ble_eq_true rfl)) eX7_readPlainThing_0.2.2.2.2.2.2.2.2.2.2.2.1 (Nat.le_of_ble_eq_true rfl) (Nat.le_of_ble_eq_true rfl) (Nat.zero_le _) (Nat.zero_le _) (fun H locs hP hD hS => ?_)
    refine lv_topi (fun v_7 ev_7 => ?_)
    have hp := hp v_7 ev_7
    refine lv_istore_n (lv' := [(3, .int v_7), (2, .int r_1), (0, .ref a_ru), (1, .ref a_tx)]) hx hb eX7_readPlainThing_0.2.2.2.2.2.2.2.2.2.2.2.2.1 rfl hl (by decide) rfl (fun ls hl => ?_)
    refine lv_iload_n hx hb eX7_readPlainThing_0.2.2.2.2.2.2.2.2.2.2.2.2.2.1 rfl (lv_at hl 0 rfl) ?_
    refine lv_if_ge (tgt := 28) hx hb eX7_readPlainThing_0.2.2.2.2.2.2.2.2.2.2.2.2.2.2.1 (by decide) (fun hc => ?_) (fun hc => ?_)
    · have hp := hp.1 hc
      refine lv_sipush (v := 1000) hx hb eX7_readPlainThing_27.2.1 (by decide) ?_
      refine lv_iload_n hx hb eX7_readPlainThing_27.2.2.1 rfl (lv_at hl 0 rfl) ?_
      refine lv_iadd hx hb eX7_readPlainThing_27.2.2.2.1 ?_
      refine lv_topi (fun v_8 ev_8 => ?_)
      have hp := hp v_8 ev_8
      refine lv_istore_n (lv' := [(2, .int v_8), (3, .int v_7), (0, .ref a_ru), (1, .ref a_tx)]) hx hb eX7_readPlainThing_27.2.2.2.2.1 rfl hl (by decide) rfl (fun ls hl => ?_)
      refine lv_aload_n hx hb eX7_readPlainThing_27.2.2.2.2.2.1 rfl (lv_at hl 3 rfl) ?_
      refine g_callv (wc := (wd_X8_skip cI cC cZ cB cJ a_tx a_tx_signs tx_length tx_place_2 tx_stop)) hP hD hS hA [0] [1, 2, 3] rfl rfl rfl rfl (g_runV (As := []) (rest := []) C0 hP hD hS [0] rfl rfl 0 8 rfl rfl (c_X8_skip l dC dI cI cC cZ cB cJ a_tx a_tx_signs H.size tx_length tx_place_2 tx_stop _ hp) q_29 q_115 q_30 q_31 q_5 h_X8_skip rfl rfl ⟨Nat.le_of_ble_eq_true rfl, Nat.le_of_ble_eq_true rfl⟩ rfl rfl hl.1 rfl (lv_room (Nat.le_of_ble_eq_true rfl)) eX7_readPlainThing_27.2.2.2.2.2.2.1 ⟨Nat.zero_le _, Nat.zero_le _⟩) (fun u H locs hp hP hD hS => ?_)
      obtain ⟨tx_place_9, rfl⟩ : ∃ z, z = u := ⟨_, rfl⟩
      have hPD := PDs (ws' := (wd_X7_readPlainThing cI cC cZ cB cJ a_tx a_tx_signs a_ru a_ru_given a_ru_waiting a_ru_stack a_ru_program a_ru_draft tx_length tx_place_9 tx_stop tx_signs ru_length ru_drafted ru_waits ru_open ru_compared ru_wantsThing ru_draft)) hP hD [3, 0, 1, 2] (by decide) rfl
      have hP := hPD.1
      have hD := hPD.2
      exact ks_X7_readPlainThing_38 C0 v_8 tx_place_9 ru_drafted ru_wantsThing ru_draft H locs ls hp hP hD hS (lv_sub hl [2, 0] rfl)
    · have hp := hp.2 hc
      refine lv_iconst (v := 0) hx hb eX7_readPlainThing_0.2.2.2.2.2.2.2.2.2.2.2.2.2.2.2 (by decide) ?_
      exact W.zret (v := 0) hx hb hr rfl (fun t ht hW => ⟨⟨0, (tx_place_2, ru_drafted, ru_wantsThing, ru_draft), rfl, hp, by rw [ht]; exact hP, va_K.moved hW.alike hK, hD⟩, hS.F ht⟩) hS.2.2 eX7_readPlainThing_27.1
abbrev wd_X7_readThing (cI cC cZ cB cJ : ClassId) (a_tx : Nat) (a_tx_signs : Nat) (a_ru : Nat) (a_ru_given : Nat) (a_ru_waiting : Nat) (a_ru_stack : Nat) (a_ru_program : Nat) (a_ru_draft : Nat) (tx_length : Int32) (tx_place : Int32) (tx_stop : Int32) (tx_signs : Nat → Int32) (ru_length : Int32) (ru_drafted : Int32) (ru_waits : Int32) (ru_open : Int32) (ru_compared : Int32) (ru_wantsThing : Int32) (ru_waiting : Nat → Int32) (ru_draft : Nat → Int32) : va_W := [(a_tx, .inr (8, [.ref a_tx_signs, .int tx_length, .int tx_place, .int tx_stop])), (a_tx_signs, .inl (cC, 80, .inl tx_signs)), (a_ru, .inr (7, [.ref a_ru_given, .ref a_ru_waiting, .ref a_ru_stack, .ref a_ru_program, .ref a_ru_draft, .int ru_length, .int ru_drafted, .int ru_waits, .int ru_open, .int ru_compared, .int ru_wantsThing])), (a_ru_waiting, .inl (cI, 40, .inl ru_waiting)), (a_ru_draft, .inl (cI, 40, .inl ru_draft))]
abbrev q_X7_readThing (dC : Nat → ClassId) (dI : Nat → Nat → Nat) (cI cC cZ cB cJ : ClassId) (A : Nat → Prop) (a_tx : Nat) (a_tx_signs : Nat) (a_ru : Nat) (a_ru_given : Nat) (a_ru_waiting : Nat) (a_ru_stack : Nat) (a_ru_program : Nat) (a_ru_draft : Nat) (tx_length : Int32) (tx_stop : Int32) (tx_signs : Nat → Int32) (ru_length : Int32) (post : Int32 → Int32 → Int32 → Int32 → Int32 → Int32 → Int32 → (Nat → Int32) → (Nat → Int32) → Prop) : Array Value → State → Outcome → State → Prop := va_Qi (fun (r : Int32) (u : Int32 × Int32 × Int32 × Int32 × Int32 × Int32 × (Nat → Int32) × (Nat → Int32)) => post r u.1 u.2.1 u.2.2.1 u.2.2.2.1 u.2.2.2.2.1 u.2.2.2.2.2.1 u.2.2.2.2.2.2.1 u.2.2.2.2.2.2.2) (fun u t => gB (dC, dI) (tyl cI cC cZ cB cJ) A (wd_X7_readThing cI cC cZ cB cJ a_tx a_tx_signs a_ru a_ru_given a_ru_waiting a_ru_stack a_ru_program a_ru_draft tx_length u.1 tx_stop tx_signs ru_length u.2.1 u.2.2.1 u.2.2.2.1 u.2.2.2.2.1 u.2.2.2.2.2.1 u.2.2.2.2.2.2.1 u.2.2.2.2.2.2.2) t) A
abbrev rm_X7_readThing : Room := { frames := 5, cells := 0, slots := 0, locals := 134 }
section S_X7_readThing
variable {p : Program} {l : Launch} {e : Env} {s : State} {m : MethodId} {args : Array Value} {below : List Frame} {meth : Method} {c : Code} {dC : Nat → ClassId} {dI : Nat → Nat → Nat} {cI cC cZ cB cJ : ClassId} {A : Nat → Prop} {a_tx : Nat} {a_tx_signs : Nat} {a_ru : Nat} {a_ru_given : Nat} {a_ru_waiting : Nat} {a_ru_stack : Nat} {a_ru_program : Nat} {a_ru_draft : Nat} {tx_length : Int32} {tx_stop : Int32} {tx_signs : Nat → Int32} {ru_length : Int32} {post : Int32 → Int32 → Int32 → Int32 → Int32 → Int32 → Int32 → (Nat → Int32) → (Nat → Int32) → Prop}
def ws_X7_readThing_78 (post : Int32 → Int32 → Int32 → Int32 → Int32 → Int32 → Int32 → (Nat → Int32) → (Nat → Int32) → Prop) (tx_stop : Int32) (tx_signs : Nat → Int32) (tx_place : Int32) (ru_drafted : Int32) (ru_waits : Int32) (ru_open : Int32) (ru_compared : Int32) (ru_wantsThing : Int32) (ru_waiting : Nat → Int32) (ru_draft : Nat → Int32) : Prop := wp_X8_skip (fun tx_place_12 => post 1 tx_place_12 ru_drafted ru_waits ru_open ru_compared ru_wantsThing ru_waiting ru_draft) tx_place tx_stop
set_option maxHeartbeats 4000000 in
set_option maxRecDepth 100000 in
theorem ks_X7_readThing_78 (C0 : gc cX7_readThing (some .boolean) 3 RX7 (dC, dI) (tyl cI cC cZ cB cJ) A p s m args meth c) : ∀ (tx_place : Int32) (ru_drafted : Int32) (ru_waits : Int32) (ru_open : Int32) (ru_compared : Int32) (ru_wantsThing : Int32) (ru_waiting : Nat → Int32) (ru_draft : Nat → Int32) (H : Heap) (locs : List Loc) (ls : Array Slot), (ws_X7_readThing_78 post tx_stop tx_signs) tx_place ru_drafted ru_waits ru_open ru_compared ru_wantsThing ru_waiting ru_draft → va_P (dC, dI) classes (wd_X7_readThing cI cC cZ cB cJ a_tx a_tx_signs a_ru a_ru_given a_ru_waiting a_ru_stack a_ru_program a_ru_draft tx_length tx_place tx_stop tx_signs ru_length ru_drafted ru_waits ru_open ru_compared ru_wantsThing ru_waiting ru_draft) H → va_D A (wd_X7_readThing cI cC cZ cB cJ a_tx a_tx_signs a_ru a_ru_given a_ru_waiting a_ru_stack a_ru_program a_ru_draft tx_length tx_place tx_stop tx_signs ru_length ru_drafted ru_waits ru_open ru_compared ru_wantsThing ru_waiting ru_draft) → va_S A s.heap H locs → lv_has ls 3 [(1, .ref a_tx)] → W p l e rm_X7_readThing s m args below meth c H locs 0 0 (MQ below (q_X7_readThing dC dI cI cC cZ cB cJ A a_tx a_tx_signs a_ru a_ru_given a_ru_waiting a_ru_stack a_ru_program a_ru_draft tx_length tx_stop tx_signs ru_length post) args s 0 0 A) (F0 m 78 ls []) := by
  obtain ⟨hx, hb, hr, hml, hown, hts, hlocks, hA, hK, hN, tL, tM, hZL, hTL, hZM, hTM, hZX⟩ := id C0
  intro tx_place ru_drafted ru_waits ru_open ru_compared ru_wantsThing ru_waiting ru_draft H locs ls hp hP hD hS hl
  unfold ws_X7_readThing_78 at hp
  refine lv_aload_n hx hb eX7_readThing_58.2.2.2.2.2.2.2.2.2.2.2.2.1 rfl (lv_at hl 0 rfl) ?_
  refine g_callv (wc := (wd_X8_skip cI cC cZ cB cJ a_tx a_tx_signs tx_length tx_place tx_stop)) hP hD hS hA [0] [1, 2, 3, 4] rfl rfl rfl rfl (g_runV (As := []) (rest := []) C0 hP hD hS [0] rfl rfl 0 8 rfl rfl (c_X8_skip l dC dI cI cC cZ cB cJ a_tx a_tx_signs H.size tx_length tx_place tx_stop _ hp) q_29 q_115 q_30 q_31 q_5 h_X8_skip rfl rfl ⟨Nat.le_of_ble_eq_true rfl, Nat.le_of_ble_eq_true rfl⟩ rfl rfl hl.1 rfl (lv_room (Nat.le_of_ble_eq_true rfl)) eX7_readThing_58.2.2.2.2.2.2.2.2.2.2.2.2.2.1 ⟨Nat.zero_le _, Nat.zero_le _⟩) (fun u H locs hp hP hD hS => ?_)
  obtain ⟨tx_place_12, rfl⟩ : ∃ z, z = u := ⟨_, rfl⟩
  have hPD := PDs (ws' := (wd_X7_readThing cI cC cZ cB cJ a_tx a_tx_signs a_ru a_ru_given a_ru_waiting a_ru_stack a_ru_program a_ru_draft tx_length tx_place_12 tx_stop tx_signs ru_length ru_drafted ru_waits ru_open ru_compared ru_wantsThing ru_waiting ru_draft)) hP hD [4, 0, 1, 2, 3] (by decide) rfl
  have hP := hPD.1
  have hD := hPD.2
  refine lv_iconst (v := 1) hx hb eX7_readThing_58.2.2.2.2.2.2.2.2.2.2.2.2.2.2.1 (by decide) ?_
  exact W.zret (v := 1) hx hb hr rfl (fun t ht hW => ⟨⟨1, (tx_place_12, ru_drafted, ru_waits, ru_open, ru_compared, ru_wantsThing, ru_waiting, ru_draft), rfl, hp, by rw [ht]; exact hP, va_K.moved hW.alike hK, hD⟩, hS.F ht⟩) hS.2.2 eX7_readThing_58.2.2.2.2.2.2.2.2.2.2.2.2.2.2.2
end S_X7_readThing
def wp_X7_readThing (post : Int32 → Int32 → Int32 → Int32 → Int32 → Int32 → Int32 → (Nat → Int32) → (Nat → Int32) → Prop) (tx_place : Int32) (tx_stop : Int32) (tx_signs : Nat → Int32) (ru_drafted : Int32) (ru_waits : Int32) (ru_open : Int32) (ru_compared : Int32) (ru_wantsThing : Int32) (ru_waiting : Nat → Int32) (ru_draft : Nat → Int32) : Prop := wp_X8_here (fun r_1 => (¬ r_1 = 45 → (¬ r_1 = 40 → wp_X7_readPlainThing (fun r_2 tx_place_3 ru_drafted_4 ru_wantsThing_5 ru_draft_6 => narrow .boolean (.int r_2) = .int r_2 ∧ post r_2 tx_place_3 ru_drafted_4 ru_waits ru_open ru_compared ru_wantsThing_5 ru_waiting ru_draft_6) tx_place tx_stop tx_signs ru_drafted ru_wantsThing ru_draft) ∧ (r_1 = 40 → (ru_open < 4 → ∀ v_7 : Int32, v_7 = ru_open + 1 → ∀ v_8 : Int32, v_8 = 1 <<< (v_7 &&& 31) → ∀ v_9 : Int32, v_9 = ru_compared &&& (v_8 ^^^ (-1)) → wp_X7_hold (fun ru_waits_10 ru_waiting_11 => ws_X7_readThing_78 post tx_stop tx_signs tx_place ru_drafted ru_waits_10 v_7 v_9 ru_wantsThing ru_waiting_11 ru_draft) r_1 ru_waits ru_waiting) ∧ (¬ ru_open < 4 → post 0 tx_place ru_drafted ru_waits ru_open ru_compared ru_wantsThing ru_waiting ru_draft))) ∧ (r_1 = 45 → wp_X7_hold (fun ru_waits_13 ru_waiting_14 => ws_X7_readThing_78 post tx_stop tx_signs tx_place ru_drafted ru_waits_13 ru_open ru_compared ru_wantsThing ru_waiting_14 ru_draft) 256 ru_waits ru_waiting)) tx_place tx_stop tx_signs
set_option maxHeartbeats 4000000 in
set_option maxRecDepth 100000 in
theorem c_X7_readThing (l : Launch) (dC : Nat → ClassId) (dI : Nat → Nat → Nat) (cI cC cZ cB cJ : ClassId) (a_tx : Nat) (a_tx_signs : Nat) (a_ru : Nat) (a_ru_given : Nat) (a_ru_waiting : Nat) (a_ru_stack : Nat) (a_ru_program : Nat) (a_ru_draft : Nat) (sz : Nat) (tx_length : Int32) (tx_place : Int32) (tx_stop : Int32) (tx_signs : Nat → Int32) (ru_length : Int32) (ru_drafted : Int32) (ru_waits : Int32) (ru_open : Int32) (ru_compared : Int32) (ru_wantsThing : Int32) (ru_waiting : Nat → Int32) (ru_draft : Nat → Int32) (post : Int32 → Int32 → Int32 → Int32 → Int32 → Int32 → Int32 → (Nat → Int32) → (Nat → Int32) → Prop) (hw : wp_X7_readThing post tx_place tx_stop tx_signs ru_drafted ru_waits ru_open ru_compared ru_wantsThing ru_waiting ru_draft) : Met l yX7_readThing (gw yX7_readThing cX7_readThing 3 (some .boolean)) rm_X7_readThing (va_Pc [.ref a_ru, .ref a_tx] (gPre (dC, dI) (tyl cI cC cZ cB cJ) (wd_X7_readThing cI cC cZ cB cJ a_tx a_tx_signs a_ru a_ru_given a_ru_waiting a_ru_stack a_ru_program a_ru_draft tx_length tx_place tx_stop tx_signs ru_length ru_drafted ru_waits ru_open ru_compared ru_wantsThing ru_waiting ru_draft) sz)) (q_X7_readThing dC dI cI cC cZ cB cJ (va_A (wd_X7_readThing cI cC cZ cB cJ a_tx a_tx_signs a_ru a_ru_given a_ru_waiting a_ru_stack a_ru_program a_ru_draft tx_length tx_place tx_stop tx_signs ru_length ru_drafted ru_waits ru_open ru_compared ru_wantsThing ru_waiting ru_draft) sz) a_tx a_tx_signs a_ru a_ru_given a_ru_waiting a_ru_stack a_ru_program a_ru_draft tx_length tx_stop tx_signs ru_length post) 0 0 (va_A (wd_X7_readThing cI cC cZ cB cJ a_tx a_tx_signs a_ru a_ru_given a_ru_waiting a_ru_stack a_ru_program a_ru_draft tx_length tx_place tx_stop tx_signs ru_length ru_drafted ru_waits ru_open ru_compared ru_wantsThing ru_waiting ru_draft) sz) := by
  refine g_enter (own := RX7) (dC, dI) (tyl cI cC cZ cB cJ) (wd_X7_readThing cI cC cZ cB cJ a_tx a_tx_signs a_ru a_ru_given a_ru_waiting a_ru_stack a_ru_program a_ru_draft tx_length tx_place tx_stop tx_signs ru_length ru_drafted ru_waits ru_open ru_compared ru_wantsThing ru_waiting ru_draft) sz [.ref a_ru, .ref a_tx] (fun A => q_X7_readThing dC dI cI cC cZ cB cJ A a_tx a_tx_signs a_ru a_ru_given a_ru_waiting a_ru_stack a_ru_program a_ru_draft tx_length tx_stop tx_signs ru_length post) (by decide) rfl (Nat.le_of_ble_eq_true rfl) ?_
  intro p e s m args below meth c A H locs ls C0 hP hD hS hl
  have hl : lv_has ls 3 [(0, .ref a_ru), (1, .ref a_tx)] := hl
  obtain ⟨hx, hb, hr, hml, hown, hts, hlocks, hA, hK, hN, tL, tM, hZL, hTL, hZM, hTM, hZX⟩ := id C0
  have hp := hw
  unfold wp_X7_readThing at hp
  refine lv_aload_n hx hb eX7_readThing_0.1 rfl (lv_at hl 1 rfl) ?_
  refine g_calli (wc := (wd_X8_here cI cC cZ cB cJ a_tx a_tx_signs tx_length tx_place tx_stop tx_signs)) hP hD hS hA [0, 1] [2, 3, 4] rfl rfl rfl rfl (g_runV (As := []) (rest := []) C0 hP hD hS [0, 1] rfl rfl 0 8 rfl rfl (c_X8_here l dC dI cI cC cZ cB cJ a_tx a_tx_signs H.size tx_length tx_place tx_stop tx_signs _ hp) q_33 q_113 q_34 q_35 q_5 h_X8_here rfl rfl ⟨Nat.le_of_ble_eq_true rfl, Nat.le_of_ble_eq_true rfl⟩ rfl rfl hl.1 rfl (lv_room (Nat.le_of_ble_eq_true rfl)) eX7_readThing_0.2.1 ⟨Nat.zero_le _, Nat.zero_le _⟩) (fun r_1 u H locs hp hP hD hS => ?_)
  have hPD := PDs (ws' := (wd_X7_readThing cI cC cZ cB cJ a_tx a_tx_signs a_ru a_ru_given a_ru_waiting a_ru_stack a_ru_program a_ru_draft tx_length tx_place tx_stop tx_signs ru_length ru_drafted ru_waits ru_open ru_compared ru_wantsThing ru_waiting ru_draft)) hP hD [3, 4, 0, 1, 2] (by decide) rfl
  have hP := hPD.1
  have hD := hPD.2
  refine lv_istore_n (lv' := [(2, .int r_1), (0, .ref a_ru), (1, .ref a_tx)]) hx hb eX7_readThing_0.2.2.1 rfl hl (by decide) rfl (fun ls hl => ?_)
  refine lv_iload_n hx hb eX7_readThing_0.2.2.2.1 rfl (lv_at hl 0 rfl) ?_
  refine lv_bipush (v := 45) hx hb eX7_readThing_0.2.2.2.2.1 (by decide) ?_
  refine lv_icmp_ne (tgt := 21) hx hb eX7_readThing_0.2.2.2.2.2.1 (by decide) (fun hc => ?_) (fun hc => ?_)
  · have hp := hp.1 hc
    refine lv_iload_n hx hb eX7_readThing_0.2.2.2.2.2.2.2.2.2.2.1 rfl (lv_at hl 0 rfl) ?_
    refine lv_bipush (v := 40) hx hb eX7_readThing_0.2.2.2.2.2.2.2.2.2.2.2.1 (by decide) ?_
    refine lv_icmp_ne (tgt := 72) hx hb eX7_readThing_0.2.2.2.2.2.2.2.2.2.2.2.2.1 (by decide) (fun hc => ?_) (fun hc => ?_)
    · have hp := hp.1 hc
      refine lv_aload_n hx hb eX7_readThing_58.2.2.2.2.2.2.2.2.1 rfl (lv_at hl 1 rfl) ?_
      refine lv_aload_n hx hb eX7_readThing_58.2.2.2.2.2.2.2.2.2.1 rfl (lv_at hl 2 rfl) ?_
      refine g_calli (wc := (wd_X7_readPlainThing cI cC cZ cB cJ a_tx a_tx_signs a_ru a_ru_given a_ru_waiting a_ru_stack a_ru_program a_ru_draft tx_length tx_place tx_stop tx_signs ru_length ru_drafted ru_waits ru_open ru_compared ru_wantsThing ru_draft)) hP hD hS hA [0, 1, 2, 4] [3] rfl rfl rfl rfl (g_runV (As := [.ref a_tx]) (rest := []) C0 hP hD hS [0, 1, 2, 4] rfl rfl 2 7 rfl rfl (c_X7_readPlainThing l dC dI cI cC cZ cB cJ a_tx a_tx_signs a_ru a_ru_given a_ru_waiting a_ru_stack a_ru_program a_ru_draft H.size tx_length tx_place tx_stop tx_signs ru_length ru_drafted ru_waits ru_open ru_compared ru_wantsThing ru_draft _ hp) q_116 q_119 q_117 q_118 q_108 h_X7_readPlainThing rfl rfl ⟨Nat.le_of_ble_eq_true rfl, Nat.le_of_ble_eq_true rfl⟩ rfl rfl hl.1 rfl (lv_room (Nat.le_of_ble_eq_true rfl)) eX7_readThing_58.2.2.2.2.2.2.2.2.2.2.1 ⟨Nat.zero_le _, Nat.zero_le _⟩) (fun r_2 u H locs hp hP hD hS => ?_)
      obtain ⟨tx_place_3, ru_drafted_4, ru_wantsThing_5, ru_draft_6⟩ := u
      have hPD := PDs (ws' := (wd_X7_readThing cI cC cZ cB cJ a_tx a_tx_signs a_ru a_ru_given a_ru_waiting a_ru_stack a_ru_program a_ru_draft tx_length tx_place_3 tx_stop tx_signs ru_length ru_drafted_4 ru_waits ru_open ru_compared ru_wantsThing_5 ru_waiting ru_draft_6)) hP hD [1, 2, 3, 0, 4] (by decide) rfl
      have hP := hPD.1
      have hD := hPD.2
      have hnz := hp.1
      have hp := hp.2
      exact W.zret (v := r_2) hx hb hr hnz (fun t ht hW => ⟨⟨r_2, (tx_place_3, ru_drafted_4, ru_waits, ru_open, ru_compared, ru_wantsThing_5, ru_waiting, ru_draft_6), rfl, hp, by rw [ht]; exact hP, va_K.moved hW.alike hK, hD⟩, hS.F ht⟩) hS.2.2 eX7_readThing_58.2.2.2.2.2.2.2.2.2.2.2.1
    · have hp := hp.2 hc
      refine lv_aload_n hx hb eX7_readThing_0.2.2.2.2.2.2.2.2.2.2.2.2.2.1 rfl (lv_at hl 1 rfl) ?_
      refine va_get (D := (dC, dI)) (ci := 7) (v := .int ru_open) (C := RX7) (T := TX7) (N := 11) hx hb hts i_X7 hown hK hP 2 rfl rfl 8 (Nat.le_of_ble_eq_true rfl) (hts _ q_120) (fun _ h9 => h9) rfl eX7_readThing_0.2.2.2.2.2.2.2.2.2.2.2.2.2.2.1 ?_
      refine lv_iconst (v := 4) hx hb eX7_readThing_0.2.2.2.2.2.2.2.2.2.2.2.2.2.2.2 (by decide) ?_
      refine lv_icmp_lt (tgt := 37) hx hb eX7_readThing_32.1 (by decide) (fun hc => ?_) (fun hc => ?_)
      · have hp := hp.1 hc
        refine lv_aload_n hx hb eX7_readThing_32.2.2.2.1 rfl (lv_at hl 1 rfl) ?_
        refine lv_dup hx hb eX7_readThing_32.2.2.2.2.1 rfl ?_
        refine va_get (D := (dC, dI)) (ci := 7) (v := .int ru_open) (C := RX7) (T := TX7) (N := 11) hx hb hts i_X7 hown hK hP 2 rfl rfl 8 (Nat.le_of_ble_eq_true rfl) (hts _ q_120) (fun _ h9 => h9) rfl eX7_readThing_32.2.2.2.2.2.1 ?_
        refine lv_iconst (v := 1) hx hb eX7_readThing_32.2.2.2.2.2.2.1 (by decide) ?_
        refine lv_iadd hx hb eX7_readThing_32.2.2.2.2.2.2.2.1 ?_
        refine lv_topi (fun v_7 ev_7 => ?_)
        have hp := hp v_7 ev_7
        refine va_put (D := (dC, dI)) (ci := 7) (v := .int v_7) (ty := .int) (C := RX7) (T := TX7) (N := 11) hx hb hts i_X7 tyX7 tyX7_ok nmX7 hown hK hP hD hS 2 rfl rfl 8 (Nat.le_of_ble_eq_true rfl) (hts _ q_120) (fun _ h9 => h9) rfl (tyX7_ok 8 (Nat.le_of_ble_eq_true rfl)) rfl rfl (Nat.le_of_ble_eq_true rfl) eX7_readThing_32.2.2.2.2.2.2.2.2.1 (fun H locs hP hD hS => ?_)
        have hP : va_P (dC, dI) classes (wd_X7_readThing cI cC cZ cB cJ a_tx a_tx_signs a_ru a_ru_given a_ru_waiting a_ru_stack a_ru_program a_ru_draft tx_length tx_place tx_stop tx_signs ru_length ru_drafted ru_waits v_7 ru_compared ru_wantsThing ru_waiting ru_draft) H := hP
        have hD : va_D A (wd_X7_readThing cI cC cZ cB cJ a_tx a_tx_signs a_ru a_ru_given a_ru_waiting a_ru_stack a_ru_program a_ru_draft tx_length tx_place tx_stop tx_signs ru_length ru_drafted ru_waits v_7 ru_compared ru_wantsThing ru_waiting ru_draft) := hD
        refine lv_aload_n hx hb eX7_readThing_32.2.2.2.2.2.2.2.2.2.1 rfl (lv_at hl 1 rfl) ?_
        refine lv_dup hx hb eX7_readThing_32.2.2.2.2.2.2.2.2.2.2.1 rfl ?_
        refine va_get (D := (dC, dI)) (ci := 7) (v := .int ru_compared) (C := RX7) (T := TX7) (N := 11) hx hb hts i_X7 hown hK hP 2 rfl rfl 9 (Nat.le_of_ble_eq_true rfl) (hts _ q_121) (fun _ h9 => h9) rfl eX7_readThing_32.2.2.2.2.2.2.2.2.2.2.2.1 ?_
        refine lv_iconst (v := 1) hx hb eX7_readThing_32.2.2.2.2.2.2.2.2.2.2.2.2.1 (by decide) ?_
        refine lv_aload_n hx hb eX7_readThing_32.2.2.2.2.2.2.2.2.2.2.2.2.2.1 rfl (lv_at hl 1 rfl) ?_
        refine va_get (D := (dC, dI)) (ci := 7) (v := .int v_7) (C := RX7) (T := TX7) (N := 11) hx hb hts i_X7 hown hK hP 2 rfl rfl 8 (Nat.le_of_ble_eq_true rfl) (hts _ q_120) (fun _ h9 => h9) rfl eX7_readThing_32.2.2.2.2.2.2.2.2.2.2.2.2.2.2.1 ?_
        refine lv_ishl hx hb eX7_readThing_32.2.2.2.2.2.2.2.2.2.2.2.2.2.2.2 ?_
        refine lv_topi (fun v_8 ev_8 => ?_)
        have hp := hp v_8 ev_8
        refine lv_iconst (v := (-1)) hx hb eX7_readThing_58.1 (by decide) ?_
        refine lv_ixor hx hb eX7_readThing_58.2.1 ?_
        refine lv_iand hx hb eX7_readThing_58.2.2.1 ?_
        refine lv_topi (fun v_9 ev_9 => ?_)
        have hp := hp v_9 ev_9
        refine va_put (D := (dC, dI)) (ci := 7) (v := .int v_9) (ty := .int) (C := RX7) (T := TX7) (N := 11) hx hb hts i_X7 tyX7 tyX7_ok nmX7 hown hK hP hD hS 2 rfl rfl 9 (Nat.le_of_ble_eq_true rfl) (hts _ q_121) (fun _ h9 => h9) rfl (tyX7_ok 9 (Nat.le_of_ble_eq_true rfl)) rfl rfl (Nat.le_of_ble_eq_true rfl) eX7_readThing_58.2.2.2.1 (fun H locs hP hD hS => ?_)
        have hP : va_P (dC, dI) classes (wd_X7_readThing cI cC cZ cB cJ a_tx a_tx_signs a_ru a_ru_given a_ru_waiting a_ru_stack a_ru_program a_ru_draft tx_length tx_place tx_stop tx_signs ru_length ru_drafted ru_waits v_7 v_9 ru_wantsThing ru_waiting ru_draft) H := hP
        have hD : va_D A (wd_X7_readThing cI cC cZ cB cJ a_tx a_tx_signs a_ru a_ru_given a_ru_waiting a_ru_stack a_ru_program a_ru_draft tx_length tx_place tx_stop tx_signs ru_length ru_drafted ru_waits v_7 v_9 ru_wantsThing ru_waiting ru_draft) := hD
        refine lv_aload_n hx hb eX7_readThing_58.2.2.2.2.1 rfl (lv_at hl 1 rfl) ?_
        refine lv_iload_n hx hb eX7_readThing_58.2.2.2.2.2.1 rfl (lv_at hl 0 rfl) ?_
        refine g_callv (wc := (wd_X7_hold cI cC cZ cB cJ a_ru a_ru_given a_ru_waiting a_ru_stack a_ru_program a_ru_draft ru_length ru_drafted ru_waits v_7 v_9 ru_wantsThing ru_waiting)) hP hD hS hA [2, 3] [0, 1, 4] rfl rfl rfl rfl (g_runV (As := [.int r_1]) (rest := []) C0 hP hD hS [2, 3] rfl rfl 2 7 rfl rfl (c_X7_hold l dC dI cI cC cZ cB cJ a_ru a_ru_given a_ru_waiting a_ru_stack a_ru_program a_ru_draft H.size r_1 ru_length ru_drafted ru_waits v_7 v_9 ru_wantsThing ru_waiting _ hp) q_122 q_125 q_123 q_124 q_108 h_X7_hold rfl rfl ⟨Nat.le_of_ble_eq_true rfl, Nat.le_of_ble_eq_true rfl⟩ rfl rfl hl.1 rfl (lv_room (Nat.le_of_ble_eq_true rfl)) eX7_readThing_58.2.2.2.2.2.2.1 ⟨Nat.zero_le _, Nat.zero_le _⟩) (fun u H locs hp hP hD hS => ?_)
        obtain ⟨ru_waits_10, ru_waiting_11⟩ := u
        have hPD := PDs (ws' := (wd_X7_readThing cI cC cZ cB cJ a_tx a_tx_signs a_ru a_ru_given a_ru_waiting a_ru_stack a_ru_program a_ru_draft tx_length tx_place tx_stop tx_signs ru_length ru_drafted ru_waits_10 v_7 v_9 ru_wantsThing ru_waiting_11 ru_draft)) hP hD [0, 1, 3, 4, 2] (by decide) rfl
        have hP := hPD.1
        have hD := hPD.2
        refine lv_goto (tgt := 78) hx hb eX7_readThing_58.2.2.2.2.2.2.2.1 (by decide) ?_
        exact ks_X7_readThing_78 C0 tx_place ru_drafted ru_waits_10 v_7 v_9 ru_wantsThing ru_waiting_11 ru_draft H locs ls hp hP hD hS (lv_sub hl [2] rfl)
      · have hp := hp.2 hc
        refine lv_iconst (v := 0) hx hb eX7_readThing_32.2.1 (by decide) ?_
        exact W.zret (v := 0) hx hb hr rfl (fun t ht hW => ⟨⟨0, (tx_place, ru_drafted, ru_waits, ru_open, ru_compared, ru_wantsThing, ru_waiting, ru_draft), rfl, hp, by rw [ht]; exact hP, va_K.moved hW.alike hK, hD⟩, hS.F ht⟩) hS.2.2 eX7_readThing_32.2.2.1
  · have hp := hp.2 hc
    refine lv_aload_n hx hb eX7_readThing_0.2.2.2.2.2.2.1 rfl (lv_at hl 1 rfl) ?_
    refine lv_sipush (v := 256) hx hb eX7_readThing_0.2.2.2.2.2.2.2.1 (by decide) ?_
    refine g_callv (wc := (wd_X7_hold cI cC cZ cB cJ a_ru a_ru_given a_ru_waiting a_ru_stack a_ru_program a_ru_draft ru_length ru_drafted ru_waits ru_open ru_compared ru_wantsThing ru_waiting)) hP hD hS hA [2, 3] [0, 1, 4] rfl rfl rfl rfl (g_runV (As := [.int 256]) (rest := []) C0 hP hD hS [2, 3] rfl rfl 2 7 rfl rfl (c_X7_hold l dC dI cI cC cZ cB cJ a_ru a_ru_given a_ru_waiting a_ru_stack a_ru_program a_ru_draft H.size 256 ru_length ru_drafted ru_waits ru_open ru_compared ru_wantsThing ru_waiting _ hp) q_122 q_125 q_123 q_124 q_108 h_X7_hold rfl rfl ⟨Nat.le_of_ble_eq_true rfl, Nat.le_of_ble_eq_true rfl⟩ rfl rfl hl.1 rfl (lv_room (Nat.le_of_ble_eq_true rfl)) eX7_readThing_0.2.2.2.2.2.2.2.2.1 ⟨Nat.zero_le _, Nat.zero_le _⟩) (fun u H locs hp hP hD hS => ?_)
    obtain ⟨ru_waits_13, ru_waiting_14⟩ := u
    have hPD := PDs (ws' := (wd_X7_readThing cI cC cZ cB cJ a_tx a_tx_signs a_ru a_ru_given a_ru_waiting a_ru_stack a_ru_program a_ru_draft tx_length tx_place tx_stop tx_signs ru_length ru_drafted ru_waits_13 ru_open ru_compared ru_wantsThing ru_waiting_14 ru_draft)) hP hD [0, 1, 3, 4, 2] (by decide) rfl
    have hP := hPD.1
    have hD := hPD.2
    refine lv_goto (tgt := 78) hx hb eX7_readThing_0.2.2.2.2.2.2.2.2.2.1 (by decide) ?_
    exact ks_X7_readThing_78 C0 tx_place ru_drafted ru_waits_13 ru_open ru_compared ru_wantsThing ru_waiting_14 ru_draft H locs ls hp hP hD hS (lv_sub hl [2] rfl)
abbrev wd_X7_strength (cI cC cZ cB cJ : ClassId) : va_W := []
abbrev q_X7_strength (dC : Nat → ClassId) (dI : Nat → Nat → Nat) (cI cC cZ cB cJ : ClassId) (A : Nat → Prop) (post : Int32 → Prop) : Array Value → State → Outcome → State → Prop := va_Qi (fun (r : Int32) (u : Unit) => post r) (fun u t => gB (dC, dI) (tyl cI cC cZ cB cJ) A (wd_X7_strength cI cC cZ cB cJ) t) A
abbrev rm_X7_strength : Room := { frames := 0, cells := 0, slots := 0, locals := 0 }
def wp_X7_strength (post : Int32 → Prop) (p0 : Int32) : Prop := (p0 = 42 → post 3) ∧ (p0 = 43 → post 2) ∧ (p0 = 45 → post 2) ∧ (p0 = 47 → post 3) ∧ (p0 = 60 → post 1) ∧ (p0 = 61 → post 1) ∧ (p0 = 62 → post 1) ∧ (p0 = 256 → post 4) ∧ (¬ p0 = 42 → ¬ p0 = 43 → ¬ p0 = 45 → ¬ p0 = 47 → ¬ p0 = 60 → ¬ p0 = 61 → ¬ p0 = 62 → ¬ p0 = 256 → post 0)
set_option maxHeartbeats 4000000 in
set_option maxRecDepth 100000 in
theorem c_X7_strength (l : Launch) (dC : Nat → ClassId) (dI : Nat → Nat → Nat) (cI cC cZ cB cJ : ClassId) (sz : Nat) (p0 : Int32) (post : Int32 → Prop) (hw : wp_X7_strength post p0) : Met l yX7_strength (gw yX7_strength cX7_strength 1 (some .int)) rm_X7_strength (va_Pc [.int p0] (gPre (dC, dI) (tyl cI cC cZ cB cJ) (wd_X7_strength cI cC cZ cB cJ) sz)) (q_X7_strength dC dI cI cC cZ cB cJ (va_A (wd_X7_strength cI cC cZ cB cJ) sz) post) 0 0 (va_A (wd_X7_strength cI cC cZ cB cJ) sz) := by
  refine g_enter (own := RX7) (dC, dI) (tyl cI cC cZ cB cJ) (wd_X7_strength cI cC cZ cB cJ) sz [.int p0] (fun A => q_X7_strength dC dI cI cC cZ cB cJ A post) (by decide) rfl (Nat.le_of_ble_eq_true rfl) ?_
  intro p e s m args below meth c A H locs ls C0 hP hD hS hl
  have hl : lv_has ls 1 [(0, .int p0)] := hl
  obtain ⟨hx, hb, hr, hml, hown, hts, hlocks, hA, hK, hN, tL, tM, hZL, hTL, hZM, hTM, hZX⟩ := id C0
  have hp := hw
  unfold wp_X7_strength at hp
  refine lv_iload_n hx hb eX7_strength_0.1 rfl (lv_at hl 0 rfl) ?_
  by_cases hc0 : p0 = 42
  · have hp := hp.1 hc0
    refine lv_lookup (tgt := 80) hx hb eX7_strength_0.2.1 (by decide) (by first | (rw [hc0]; done) | (rw [hc0]; rfl)) (by decide) ?_
    refine lv_iconst (v := 3) hx hb eX7_strength_0.2.2.2.2.2.2.1 (by decide) ?_
    exact W.iret (v := 3) hx hb hr (fun t ht hW => ⟨⟨3, (), rfl, hp, by rw [ht]; exact hP, va_K.moved hW.alike hK, hD⟩, hS.F ht⟩) hS.2.2 eX7_strength_0.2.2.2.2.2.2.2.1
  by_cases hc1 : p0 = 43
  · have hp := hp.2.1 hc1
    refine lv_lookup (tgt := 78) hx hb eX7_strength_0.2.1 (by decide) (by first | (rw [hc1]; done) | (rw [hc1]; rfl)) (by decide) ?_
    refine lv_iconst (v := 2) hx hb eX7_strength_0.2.2.2.2.1 (by decide) ?_
    exact W.iret (v := 2) hx hb hr (fun t ht hW => ⟨⟨2, (), rfl, hp, by rw [ht]; exact hP, va_K.moved hW.alike hK, hD⟩, hS.F ht⟩) hS.2.2 eX7_strength_0.2.2.2.2.2.1
  by_cases hc2 : p0 = 45
  · have hp := hp.2.2.1 hc2
    refine lv_lookup (tgt := 78) hx hb eX7_strength_0.2.1 (by decide) (by first | (rw [hc2]; done) | (rw [hc2]; rfl)) (by decide) ?_
    refine lv_iconst (v := 2) hx hb eX7_strength_0.2.2.2.2.1 (by decide) ?_
    exact W.iret (v := 2) hx hb hr (fun t ht hW => ⟨⟨2, (), rfl, hp, by rw [ht]; exact hP, va_K.moved hW.alike hK, hD⟩, hS.F ht⟩) hS.2.2 eX7_strength_0.2.2.2.2.2.1
  by_cases hc3 : p0 = 47
  · have hp := hp.2.2.2.1 hc3
    refine lv_lookup (tgt := 80) hx hb eX7_strength_0.2.1 (by decide) (by first | (rw [hc3]; done) | (rw [hc3]; rfl)) (by decide) ?_
    refine lv_iconst (v := 3) hx hb eX7_strength_0.2.2.2.2.2.2.1 (by decide) ?_
    exact W.iret (v := 3) hx hb hr (fun t ht hW => ⟨⟨3, (), rfl, hp, by rw [ht]; exact hP, va_K.moved hW.alike hK, hD⟩, hS.F ht⟩) hS.2.2 eX7_strength_0.2.2.2.2.2.2.2.1
  by_cases hc4 : p0 = 60
  · have hp := hp.2.2.2.2.1 hc4
    refine lv_lookup (tgt := 76) hx hb eX7_strength_0.2.1 (by decide) (by first | (rw [hc4]; done) | (rw [hc4]; rfl)) (by decide) ?_
    refine lv_iconst (v := 1) hx hb eX7_strength_0.2.2.1 (by decide) ?_
    exact W.iret (v := 1) hx hb hr (fun t ht hW => ⟨⟨1, (), rfl, hp, by rw [ht]; exact hP, va_K.moved hW.alike hK, hD⟩, hS.F ht⟩) hS.2.2 eX7_strength_0.2.2.2.1
  by_cases hc5 : p0 = 61
  · have hp := hp.2.2.2.2.2.1 hc5
    refine lv_lookup (tgt := 76) hx hb eX7_strength_0.2.1 (by decide) (by first | (rw [hc5]; done) | (rw [hc5]; rfl)) (by decide) ?_
    refine lv_iconst (v := 1) hx hb eX7_strength_0.2.2.1 (by decide) ?_
    exact W.iret (v := 1) hx hb hr (fun t ht hW => ⟨⟨1, (), rfl, hp, by rw [ht]; exact hP, va_K.moved hW.alike hK, hD⟩, hS.F ht⟩) hS.2.2 eX7_strength_0.2.2.2.1
  by_cases hc6 : p0 = 62
  · have hp := hp.2.2.2.2.2.2.1 hc6
    refine lv_lookup (tgt := 76) hx hb eX7_strength_0.2.1 (by decide) (by first | (rw [hc6]; done) | (rw [hc6]; rfl)) (by decide) ?_
    refine lv_iconst (v := 1) hx hb eX7_strength_0.2.2.1 (by decide) ?_
    exact W.iret (v := 1) hx hb hr (fun t ht hW => ⟨⟨1, (), rfl, hp, by rw [ht]; exact hP, va_K.moved hW.alike hK, hD⟩, hS.F ht⟩) hS.2.2 eX7_strength_0.2.2.2.1
  by_cases hc7 : p0 = 256
  · have hp := hp.2.2.2.2.2.2.2.1 hc7
    refine lv_lookup (tgt := 82) hx hb eX7_strength_0.2.1 (by decide) (by first | (rw [hc7]; done) | (rw [hc7]; rfl)) (by decide) ?_
    refine lv_iconst (v := 4) hx hb eX7_strength_0.2.2.2.2.2.2.2.2.1 (by decide) ?_
    exact W.iret (v := 4) hx hb hr (fun t ht hW => ⟨⟨4, (), rfl, hp, by rw [ht]; exact hP, va_K.moved hW.alike hK, hD⟩, hS.F ht⟩) hS.2.2 eX7_strength_0.2.2.2.2.2.2.2.2.2.1
  have hp := hp.2.2.2.2.2.2.2.2 hc0 hc1 hc2 hc3 hc4 hc5 hc6 hc7
  have key : W p l e rm_X7_strength s m args below meth c H locs 0 0 (MQ below (q_X7_strength dC dI cI cC cZ cB cJ A post) args s 0 0 A) (F0 m 84 ls []) := by
    refine lv_iconst (v := 0) hx hb eX7_strength_0.2.2.2.2.2.2.2.2.2.2.1 (by decide) ?_
    exact W.iret (v := 0) hx hb hr (fun t ht hW => ⟨⟨0, (), rfl, hp, by rw [ht]; exact hP, va_K.moved hW.alike hK, hD⟩, hS.F ht⟩) hS.2.2 eX7_strength_0.2.2.2.2.2.2.2.2.2.2.2
  exact lv_lookup (tgt := 84) (off := 83) hx hb eX7_strength_0.2.1 (by decide) (by show Op.lookupswitch.offset [(42, 79), (43, 77), (45, 77), (47, 79), (60, 75), (61, 75), (62, 75), (256, 81)] _ _ = _; first | (rw [lv_osw (a := 42) hc0 rfl, lv_osw (a := 43) hc1 rfl, lv_osw (a := 45) hc2 rfl, lv_osw (a := 47) hc3 rfl, lv_osw (a := 60) hc4 rfl, lv_osw (a := 61) hc5 rfl, lv_osw (a := 62) hc6 rfl, lv_osw (a := 256) hc7 rfl]; done) | (rw [lv_osw (a := 42) hc0 rfl, lv_osw (a := 43) hc1 rfl, lv_osw (a := 45) hc2 rfl, lv_osw (a := 47) hc3 rfl, lv_osw (a := 60) hc4 rfl, lv_osw (a := 61) hc5 rfl, lv_osw (a := 62) hc6 rfl, lv_osw (a := 256) hc7 rfl]; rfl)) (by decide) key
abbrev wd_X7_settle (cI cC cZ cB cJ : ClassId) (a_ru : Nat) (a_ru_given : Nat) (a_ru_waiting : Nat) (a_ru_stack : Nat) (a_ru_program : Nat) (a_ru_draft : Nat) (ru_length : Int32) (ru_drafted : Int32) (ru_waits : Int32) (ru_open : Int32) (ru_compared : Int32) (ru_wantsThing : Int32) (ru_waiting : Nat → Int32) (ru_draft : Nat → Int32) : va_W := [(a_ru, .inr (7, [.ref a_ru_given, .ref a_ru_waiting, .ref a_ru_stack, .ref a_ru_program, .ref a_ru_draft, .int ru_length, .int ru_drafted, .int ru_waits, .int ru_open, .int ru_compared, .int ru_wantsThing])), (a_ru_waiting, .inl (cI, 40, .inl ru_waiting)), (a_ru_draft, .inl (cI, 40, .inl ru_draft))]
abbrev q_X7_settle (dC : Nat → ClassId) (dI : Nat → Nat → Nat) (cI cC cZ cB cJ : ClassId) (A : Nat → Prop) (a_ru : Nat) (a_ru_given : Nat) (a_ru_waiting : Nat) (a_ru_stack : Nat) (a_ru_program : Nat) (a_ru_draft : Nat) (ru_length : Int32) (ru_open : Int32) (ru_compared : Int32) (ru_wantsThing : Int32) (ru_waiting : Nat → Int32) (post : Int32 → Int32 → (Nat → Int32) → Prop) : Array Value → State → Outcome → State → Prop := va_Qv (fun (u : Int32 × Int32 × (Nat → Int32)) => post u.1 u.2.1 u.2.2) (fun u t => gB (dC, dI) (tyl cI cC cZ cB cJ) A (wd_X7_settle cI cC cZ cB cJ a_ru a_ru_given a_ru_waiting a_ru_stack a_ru_program a_ru_draft ru_length u.1 u.2.1 ru_open ru_compared ru_wantsThing ru_waiting u.2.2) t) A
abbrev rm_X7_settle : Room := { frames := 1, cells := 0, slots := 0, locals := 21 }
section S_X7_settle
variable {p : Program} {l : Launch} {e : Env} {s : State} {m : MethodId} {args : Array Value} {below : List Frame} {meth : Method} {c : Code} {dC : Nat → ClassId} {dI : Nat → Nat → Nat} {cI cC cZ cB cJ : ClassId} {A : Nat → Prop} {a_ru : Nat} {a_ru_given : Nat} {a_ru_waiting : Nat} {a_ru_stack : Nat} {a_ru_program : Nat} {a_ru_draft : Nat} {ru_length : Int32} {ru_open : Int32} {ru_compared : Int32} {ru_wantsThing : Int32} {ru_waiting : Nat → Int32} {post : Int32 → Int32 → (Nat → Int32) → Prop}
def ws_X7_settle_0 (post : Int32 → Int32 → (Nat → Int32) → Prop) (next : Int32 → Int32 → Int32 → (Nat → Int32) → Prop) (ru_waiting : Nat → Int32) (x1 : Int32) (ru_drafted : Int32) (ru_waits : Int32) (ru_draft : Nat → Int32) : Prop := (ru_waits ≤ 0 → post ru_drafted ru_waits ru_draft) ∧ (¬ ru_waits ≤ 0 → ∀ v_1 : Int32, v_1 = ru_waits - 1 → vp_in v_1 40 ∧ (∀ v_2 : Int32, v_2 = ru_waiting v_1.toNatClampNeg → wp_X7_strength (fun r_3 => (r_3 < x1 → post ru_drafted ru_waits ru_draft) ∧ (¬ r_3 < x1 → ∀ v_4 : Int32, v_4 = ru_waits - 1 → vp_in v_4 40 ∧ (∀ v_5 : Int32, v_5 = 2000 + (ru_waiting v_4.toNatClampNeg) → wp_X7_emit (fun ru_drafted_6 ru_draft_7 => next x1 ru_drafted_6 v_4 ru_draft_7) v_5 ru_drafted ru_draft))) v_2))
noncomputable def wb_X7_settle_0 (post : Int32 → Int32 → (Nat → Int32) → Prop) (ru_waiting : Nat → Int32) : Nat → Int32 → Int32 → Int32 → (Nat → Int32) → Prop := fun n => Nat.rec (motive := fun _ => Int32 → Int32 → Int32 → (Nat → Int32) → Prop) (fun _ _ _ _ => False) (fun _ ih => ws_X7_settle_0 post ih ru_waiting) n
set_option maxHeartbeats 4000000 in
set_option maxRecDepth 100000 in
theorem ks_X7_settle_0 (C0 : gc cX7_settle none 2 RX7 (dC, dI) (tyl cI cC cZ cB cJ) A p s m args meth c) {next : Int32 → Int32 → Int32 → (Nat → Int32) → Prop} (hKn : ∀ (x1 : Int32) (ru_drafted : Int32) (ru_waits : Int32) (ru_draft : Nat → Int32) (H : Heap) (locs : List Loc) (ls : Array Slot), next x1 ru_drafted ru_waits ru_draft → va_P (dC, dI) classes (wd_X7_settle cI cC cZ cB cJ a_ru a_ru_given a_ru_waiting a_ru_stack a_ru_program a_ru_draft ru_length ru_drafted ru_waits ru_open ru_compared ru_wantsThing ru_waiting ru_draft) H → va_D A (wd_X7_settle cI cC cZ cB cJ a_ru a_ru_given a_ru_waiting a_ru_stack a_ru_program a_ru_draft ru_length ru_drafted ru_waits ru_open ru_compared ru_wantsThing ru_waiting ru_draft) → va_S A s.heap H locs → lv_has ls 2 [(0, .ref a_ru), (1, .int x1)] → W p l e rm_X7_settle s m args below meth c H locs 0 0 (MQ below (q_X7_settle dC dI cI cC cZ cB cJ A a_ru a_ru_given a_ru_waiting a_ru_stack a_ru_program a_ru_draft ru_length ru_open ru_compared ru_wantsThing ru_waiting post) args s 0 0 A) (F0 m 0 ls [])) : ∀ (x1 : Int32) (ru_drafted : Int32) (ru_waits : Int32) (ru_draft : Nat → Int32) (H : Heap) (locs : List Loc) (ls : Array Slot), (ws_X7_settle_0 post next ru_waiting) x1 ru_drafted ru_waits ru_draft → va_P (dC, dI) classes (wd_X7_settle cI cC cZ cB cJ a_ru a_ru_given a_ru_waiting a_ru_stack a_ru_program a_ru_draft ru_length ru_drafted ru_waits ru_open ru_compared ru_wantsThing ru_waiting ru_draft) H → va_D A (wd_X7_settle cI cC cZ cB cJ a_ru a_ru_given a_ru_waiting a_ru_stack a_ru_program a_ru_draft ru_length ru_drafted ru_waits ru_open ru_compared ru_wantsThing ru_waiting ru_draft) → va_S A s.heap H locs → lv_has ls 2 [(0, .ref a_ru), (1, .int x1)] → W p l e rm_X7_settle s m args below meth c H locs 0 0 (MQ below (q_X7_settle dC dI cI cC cZ cB cJ A a_ru a_ru_given a_ru_waiting a_ru_stack a_ru_program a_ru_draft ru_length ru_open ru_compared ru_wantsThing ru_waiting post) args s 0 0 A) (F0 m 0 ls []) := by
  obtain ⟨hx, hb, hr, hml, hown, hts, hlocks, hA, hK, hN, tL, tM, hZL, hTL, hZM, hTM, hZX⟩ := id C0
  intro x1 ru_drafted ru_waits ru_draft H locs ls hp hP hD hS hl
  unfold ws_X7_settle_0 at hp
  refine lv_aload_n hx hb eX7_settle_0.1 rfl (lv_at hl 0 rfl) ?_
  refine va_get (D := (dC, dI)) (ci := 7) (v := .int ru_waits) (C := RX7) (T := TX7) (N := 11) hx hb hts i_X7 hown hK hP 0 rfl rfl 7 (Nat.le_of_ble_eq_true rfl) (hts _ q_102) (fun _ h9 => h9) rfl eX7_settle_0.2.1 ?_
  refine lv_if_le (tgt := 55) hx hb eX7_settle_0.2.2.1 (by decide) (fun hc => ?_) (fun hc => ?_)
  · have hp := hp.1 hc
    exact W.vret hx hb hr (fun t ht hW => ⟨⟨(ru_drafted, ru_waits, ru_draft), rfl, hp, by rw [ht]; exact hP, va_K.moved hW.alike hK, hD⟩, hS.F ht⟩) hS.2.2 eX7_settle_30.2.2.2.2.2.2.2.2.2.2.2.2.2
  · have hp := hp.2 hc
    refine lv_aload_n hx hb eX7_settle_0.2.2.2.1 rfl (lv_at hl 0 rfl) ?_
    refine va_get (D := (dC, dI)) (ci := 7) (v := .ref a_ru_waiting) (C := RX7) (T := TX7) (N := 11) hx hb hts i_X7 hown hK hP 0 rfl rfl 1 (Nat.le_of_ble_eq_true rfl) (hts _ q_103) (fun _ h9 => h9) rfl eX7_settle_0.2.2.2.2.1 ?_
    refine lv_aload_n hx hb eX7_settle_0.2.2.2.2.2.1 rfl (lv_at hl 0 rfl) ?_
    refine va_get (D := (dC, dI)) (ci := 7) (v := .int ru_waits) (C := RX7) (T := TX7) (N := 11) hx hb hts i_X7 hown hK hP 0 rfl rfl 7 (Nat.le_of_ble_eq_true rfl) (hts _ q_102) (fun _ h9 => h9) rfl eX7_settle_0.2.2.2.2.2.2.1 ?_
    refine lv_iconst (v := 1) hx hb eX7_settle_0.2.2.2.2.2.2.2.1 (by decide) ?_
    refine lv_isub hx hb eX7_settle_0.2.2.2.2.2.2.2.2.1 ?_
    refine lv_topi (fun v_1 ev_1 => ?_)
    have hp := hp v_1 ev_1
    have hin := hp.1
    have hp := hp.2
    refine va_iald hx hb hK hP 1 0 rfl rfl hin eX7_settle_0.2.2.2.2.2.2.2.2.2.1 ?_
    refine lv_topi (fun v_2 ev_2 => ?_)
    have hp := hp v_2 ev_2
    refine g_calli (wc := (wd_X7_strength cI cC cZ cB cJ)) hP hD hS hA [] [0, 1, 2] rfl rfl rfl rfl (g_runS (As := [.int v_2]) (rest := []) C0 hP hD hS [] rfl rfl (c_X7_strength l dC dI cI cC cZ cB cJ H.size v_2 _ hp) q_126 q_128 q_127 q_108 h_X7_strength rfl rfl ⟨Nat.le_of_ble_eq_true rfl, Nat.le_of_ble_eq_true rfl⟩ rfl rfl hl.1 rfl (lv_room (Nat.le_of_ble_eq_true rfl)) eX7_settle_0.2.2.2.2.2.2.2.2.2.2.1 ⟨Nat.zero_le _, Nat.zero_le _⟩) (fun r_3 u H locs hp hP hD hS => ?_)
    have hPD := PDs (ws' := (wd_X7_settle cI cC cZ cB cJ a_ru a_ru_given a_ru_waiting a_ru_stack a_ru_program a_ru_draft ru_length ru_drafted ru_waits ru_open ru_compared ru_wantsThing ru_waiting ru_draft)) hP hD [0, 1, 2] (by decide) rfl
    have hP := hPD.1
    have hD := hPD.2
    refine lv_iload_n hx hb eX7_settle_0.2.2.2.2.2.2.2.2.2.2.2.1 rfl (lv_at hl 1 rfl) ?_
    refine lv_icmp_lt (tgt := 55) hx hb eX7_settle_0.2.2.2.2.2.2.2.2.2.2.2.2.1 (by decide) (fun hc => ?_) (fun hc => ?_)
    · have hp := hp.1 hc
      exact W.vret hx hb hr (fun t ht hW => ⟨⟨(ru_drafted, ru_waits, ru_draft), rfl, hp, by rw [ht]; exact hP, va_K.moved hW.alike hK, hD⟩, hS.F ht⟩) hS.2.2 eX7_settle_30.2.2.2.2.2.2.2.2.2.2.2.2.2
    · have hp := hp.2 hc
      refine lv_aload_n hx hb eX7_settle_0.2.2.2.2.2.2.2.2.2.2.2.2.2.1 rfl (lv_at hl 0 rfl) ?_
      refine lv_dup hx hb eX7_settle_0.2.2.2.2.2.2.2.2.2.2.2.2.2.2.1 rfl ?_
      refine va_get (D := (dC, dI)) (ci := 7) (v := .int ru_waits) (C := RX7) (T := TX7) (N := 11) hx hb hts i_X7 hown hK hP 0 rfl rfl 7 (Nat.le_of_ble_eq_true rfl) (hts _ q_102) (fun _ h9 => h9) rfl eX7_settle_0.2.2.2.2.2.2.2.2.2.2.2.2.2.2.2 ?_
      refine lv_iconst (v := 1) hx hb eX7_settle_30.1 (by decide) ?_
      refine lv_isub hx hb eX7_settle_30.2.1 ?_
      refine lv_topi (fun v_4 ev_4 => ?_)
      have hp := hp v_4 ev_4
      refine va_put (D := (dC, dI)) (ci := 7) (v := .int v_4) (ty := .int) (C := RX7) (T := TX7) (N := 11) hx hb hts i_X7 tyX7 tyX7_ok nmX7 hown hK hP hD hS 0 rfl rfl 7 (Nat.le_of_ble_eq_true rfl) (hts _ q_102) (fun _ h9 => h9) rfl (tyX7_ok 7 (Nat.le_of_ble_eq_true rfl)) rfl rfl (Nat.le_of_ble_eq_true rfl) eX7_settle_30.2.2.1 (fun H locs hP hD hS => ?_)
      have hP : va_P (dC, dI) classes (wd_X7_settle cI cC cZ cB cJ a_ru a_ru_given a_ru_waiting a_ru_stack a_ru_program a_ru_draft ru_length ru_drafted v_4 ru_open ru_compared ru_wantsThing ru_waiting ru_draft) H := hP
      have hD : va_D A (wd_X7_settle cI cC cZ cB cJ a_ru a_ru_given a_ru_waiting a_ru_stack a_ru_program a_ru_draft ru_length ru_drafted v_4 ru_open ru_compared ru_wantsThing ru_waiting ru_draft) := hD
      refine lv_aload_n hx hb eX7_settle_30.2.2.2.1 rfl (lv_at hl 0 rfl) ?_
      refine lv_sipush (v := 2000) hx hb eX7_settle_30.2.2.2.2.1 (by decide) ?_
      refine lv_aload_n hx hb eX7_settle_30.2.2.2.2.2.1 rfl (lv_at hl 0 rfl) ?_
      refine va_get (D := (dC, dI)) (ci := 7) (v := .ref a_ru_waiting) (C := RX7) (T := TX7) (N := 11) hx hb hts i_X7 hown hK hP 0 rfl rfl 1 (Nat.le_of_ble_eq_true rfl) (hts _ q_103) (fun _ h9 => h9) rfl eX7_settle_30.2.2.2.2.2.2.1 ?_
      refine lv_aload_n hx hb eX7_settle_30.2.2.2.2.2.2.2.1 rfl (lv_at hl 0 rfl) ?_
      refine va_get (D := (dC, dI)) (ci := 7) (v := .int v_4) (C := RX7) (T := TX7) (N := 11) hx hb hts i_X7 hown hK hP 0 rfl rfl 7 (Nat.le_of_ble_eq_true rfl) (hts _ q_102) (fun _ h9 => h9) rfl eX7_settle_30.2.2.2.2.2.2.2.2.1 ?_
      have hin := hp.1
      have hp := hp.2
      refine va_iald hx hb hK hP 1 0 rfl rfl hin eX7_settle_30.2.2.2.2.2.2.2.2.2.1 ?_
      refine lv_iadd hx hb eX7_settle_30.2.2.2.2.2.2.2.2.2.2.1 ?_
      refine lv_topi (fun v_5 ev_5 => ?_)
      have hp := hp v_5 ev_5
      refine g_callv (wc := (wd_X7_emit cI cC cZ cB cJ a_ru a_ru_given a_ru_waiting a_ru_stack a_ru_program a_ru_draft ru_length ru_drafted v_4 ru_open ru_compared ru_wantsThing ru_draft)) hP hD hS hA [0, 2] [1] rfl rfl rfl rfl (g_runV (As := [.int v_5]) (rest := []) C0 hP hD hS [0, 2] rfl rfl 0 7 rfl rfl (c_X7_emit l dC dI cI cC cZ cB cJ a_ru a_ru_given a_ru_waiting a_ru_stack a_ru_program a_ru_draft H.size v_5 ru_length ru_drafted v_4 ru_open ru_compared ru_wantsThing ru_draft _ hp) q_107 q_111 q_109 q_110 q_108 h_X7_emit rfl rfl ⟨Nat.le_of_ble_eq_true rfl, Nat.le_of_ble_eq_true rfl⟩ rfl rfl hl.1 rfl (lv_room (Nat.le_of_ble_eq_true rfl)) eX7_settle_30.2.2.2.2.2.2.2.2.2.2.2.1 ⟨Nat.zero_le _, Nat.zero_le _⟩) (fun u H locs hp hP hD hS => ?_)
      obtain ⟨ru_drafted_6, ru_draft_7⟩ := u
      have hPD := PDs (ws' := (wd_X7_settle cI cC cZ cB cJ a_ru a_ru_given a_ru_waiting a_ru_stack a_ru_program a_ru_draft ru_length ru_drafted_6 v_4 ru_open ru_compared ru_wantsThing ru_waiting ru_draft_7)) hP hD [1, 0, 2] (by decide) rfl
      have hP := hPD.1
      have hD := hPD.2
      refine lv_goto (tgt := 0) hx hb eX7_settle_30.2.2.2.2.2.2.2.2.2.2.2.2.1 (by decide) ?_
      exact hKn x1 ru_drafted_6 v_4 ru_draft_7 H locs ls hp hP hD hS (lv_sub hl [0, 1] rfl)
set_option maxHeartbeats 4000000 in
set_option maxRecDepth 100000 in
theorem kb_X7_settle_0 (C0 : gc cX7_settle none 2 RX7 (dC, dI) (tyl cI cC cZ cB cJ) A p s m args meth c) : ∀ (n : Nat), ∀ (x1 : Int32) (ru_drafted : Int32) (ru_waits : Int32) (ru_draft : Nat → Int32) (H : Heap) (locs : List Loc) (ls : Array Slot), (wb_X7_settle_0 post ru_waiting n) x1 ru_drafted ru_waits ru_draft → va_P (dC, dI) classes (wd_X7_settle cI cC cZ cB cJ a_ru a_ru_given a_ru_waiting a_ru_stack a_ru_program a_ru_draft ru_length ru_drafted ru_waits ru_open ru_compared ru_wantsThing ru_waiting ru_draft) H → va_D A (wd_X7_settle cI cC cZ cB cJ a_ru a_ru_given a_ru_waiting a_ru_stack a_ru_program a_ru_draft ru_length ru_drafted ru_waits ru_open ru_compared ru_wantsThing ru_waiting ru_draft) → va_S A s.heap H locs → lv_has ls 2 [(0, .ref a_ru), (1, .int x1)] → W p l e rm_X7_settle s m args below meth c H locs 0 0 (MQ below (q_X7_settle dC dI cI cC cZ cB cJ A a_ru a_ru_given a_ru_waiting a_ru_stack a_ru_program a_ru_draft ru_length ru_open ru_compared ru_wantsThing ru_waiting post) args s 0 0 A) (F0 m 0 ls []) := by
  intro n
  induction n with
  | zero =>
    intro x1 ru_drafted ru_waits ru_draft H locs ls hp
    exact False.elim hp
  | succ n ih =>
    intro x1 ru_drafted ru_waits ru_draft H locs ls hp
    exact ks_X7_settle_0 C0 ih x1 ru_drafted ru_waits ru_draft H locs ls hp
end S_X7_settle
def wp_X7_settle (post : Int32 → Int32 → (Nat → Int32) → Prop) (p0 : Int32) (ru_drafted : Int32) (ru_waits : Int32) (ru_waiting : Nat → Int32) (ru_draft : Nat → Int32) : Prop := ∃ n : Nat, wb_X7_settle_0 post ru_waiting n p0 ru_drafted ru_waits ru_draft
set_option maxHeartbeats 4000000 in
set_option maxRecDepth 100000 in
theorem c_X7_settle (l : Launch) (dC : Nat → ClassId) (dI : Nat → Nat → Nat) (cI cC cZ cB cJ : ClassId) (a_ru : Nat) (a_ru_given : Nat) (a_ru_waiting : Nat) (a_ru_stack : Nat) (a_ru_program : Nat) (a_ru_draft : Nat) (sz : Nat) (p0 : Int32) (ru_length : Int32) (ru_drafted : Int32) (ru_waits : Int32) (ru_open : Int32) (ru_compared : Int32) (ru_wantsThing : Int32) (ru_waiting : Nat → Int32) (ru_draft : Nat → Int32) (post : Int32 → Int32 → (Nat → Int32) → Prop) (hw : wp_X7_settle post p0 ru_drafted ru_waits ru_waiting ru_draft) : Met l yX7_settle (gw yX7_settle cX7_settle 2 none) rm_X7_settle (va_Pc [.ref a_ru, .int p0] (gPre (dC, dI) (tyl cI cC cZ cB cJ) (wd_X7_settle cI cC cZ cB cJ a_ru a_ru_given a_ru_waiting a_ru_stack a_ru_program a_ru_draft ru_length ru_drafted ru_waits ru_open ru_compared ru_wantsThing ru_waiting ru_draft) sz)) (q_X7_settle dC dI cI cC cZ cB cJ (va_A (wd_X7_settle cI cC cZ cB cJ a_ru a_ru_given a_ru_waiting a_ru_stack a_ru_program a_ru_draft ru_length ru_drafted ru_waits ru_open ru_compared ru_wantsThing ru_waiting ru_draft) sz) a_ru a_ru_given a_ru_waiting a_ru_stack a_ru_program a_ru_draft ru_length ru_open ru_compared ru_wantsThing ru_waiting post) 0 0 (va_A (wd_X7_settle cI cC cZ cB cJ a_ru a_ru_given a_ru_waiting a_ru_stack a_ru_program a_ru_draft ru_length ru_drafted ru_waits ru_open ru_compared ru_wantsThing ru_waiting ru_draft) sz) := by
  refine g_enter (own := RX7) (dC, dI) (tyl cI cC cZ cB cJ) (wd_X7_settle cI cC cZ cB cJ a_ru a_ru_given a_ru_waiting a_ru_stack a_ru_program a_ru_draft ru_length ru_drafted ru_waits ru_open ru_compared ru_wantsThing ru_waiting ru_draft) sz [.ref a_ru, .int p0] (fun A => q_X7_settle dC dI cI cC cZ cB cJ A a_ru a_ru_given a_ru_waiting a_ru_stack a_ru_program a_ru_draft ru_length ru_open ru_compared ru_wantsThing ru_waiting post) (by decide) rfl (Nat.le_of_ble_eq_true rfl) ?_
  intro p e s m args below meth c A H locs ls C0 hP hD hS hl
  have hl : lv_has ls 2 [(0, .ref a_ru), (1, .int p0)] := hl
  obtain ⟨hx, hb, hr, hml, hown, hts, hlocks, hA, hK, hN, tL, tM, hZL, hTL, hZM, hTM, hZX⟩ := id C0
  have hp := hw
  unfold wp_X7_settle at hp
  obtain ⟨n9, hp⟩ := hp
  exact kb_X7_settle_0 C0 n9 p0 ru_drafted ru_waits ru_draft H locs ls hp hP hD hS (lv_sub hl [0, 1] rfl)
abbrev wd_X7_readBehindThing (cI cC cZ cB cJ : ClassId) (a_tx : Nat) (a_tx_signs : Nat) (a_ru : Nat) (a_ru_given : Nat) (a_ru_waiting : Nat) (a_ru_stack : Nat) (a_ru_program : Nat) (a_ru_draft : Nat) (tx_length : Int32) (tx_place : Int32) (tx_stop : Int32) (tx_signs : Nat → Int32) (ru_length : Int32) (ru_drafted : Int32) (ru_waits : Int32) (ru_open : Int32) (ru_compared : Int32) (ru_wantsThing : Int32) (ru_waiting : Nat → Int32) (ru_draft : Nat → Int32) : va_W := [(a_tx, .inr (8, [.ref a_tx_signs, .int tx_length, .int tx_place, .int tx_stop])), (a_tx_signs, .inl (cC, 80, .inl tx_signs)), (a_ru, .inr (7, [.ref a_ru_given, .ref a_ru_waiting, .ref a_ru_stack, .ref a_ru_program, .ref a_ru_draft, .int ru_length, .int ru_drafted, .int ru_waits, .int ru_open, .int ru_compared, .int ru_wantsThing])), (a_ru_waiting, .inl (cI, 40, .inl ru_waiting)), (a_ru_draft, .inl (cI, 40, .inl ru_draft))]
abbrev q_X7_readBehindThing (dC : Nat → ClassId) (dI : Nat → Nat → Nat) (cI cC cZ cB cJ : ClassId) (A : Nat → Prop) (a_tx : Nat) (a_tx_signs : Nat) (a_ru : Nat) (a_ru_given : Nat) (a_ru_waiting : Nat) (a_ru_stack : Nat) (a_ru_program : Nat) (a_ru_draft : Nat) (tx_length : Int32) (tx_stop : Int32) (tx_signs : Nat → Int32) (ru_length : Int32) (post : Int32 → Int32 → Int32 → Int32 → Int32 → Int32 → Int32 → (Nat → Int32) → (Nat → Int32) → Prop) : Array Value → State → Outcome → State → Prop := va_Qi (fun (r : Int32) (u : Int32 × Int32 × Int32 × Int32 × Int32 × Int32 × (Nat → Int32) × (Nat → Int32)) => post r u.1 u.2.1 u.2.2.1 u.2.2.2.1 u.2.2.2.2.1 u.2.2.2.2.2.1 u.2.2.2.2.2.2.1 u.2.2.2.2.2.2.2) (fun u t => gB (dC, dI) (tyl cI cC cZ cB cJ) A (wd_X7_readBehindThing cI cC cZ cB cJ a_tx a_tx_signs a_ru a_ru_given a_ru_waiting a_ru_stack a_ru_program a_ru_draft tx_length u.1 tx_stop tx_signs ru_length u.2.1 u.2.2.1 u.2.2.2.1 u.2.2.2.2.1 u.2.2.2.2.2.1 u.2.2.2.2.2.2.1 u.2.2.2.2.2.2.2) t) A
abbrev rm_X7_readBehindThing : Room := { frames := 2, cells := 0, slots := 0, locals := 42 }
section S_X7_readBehindThing
variable {p : Program} {l : Launch} {e : Env} {s : State} {m : MethodId} {args : Array Value} {below : List Frame} {meth : Method} {c : Code} {dC : Nat → ClassId} {dI : Nat → Nat → Nat} {cI cC cZ cB cJ : ClassId} {A : Nat → Prop} {a_tx : Nat} {a_tx_signs : Nat} {a_ru : Nat} {a_ru_given : Nat} {a_ru_waiting : Nat} {a_ru_stack : Nat} {a_ru_program : Nat} {a_ru_draft : Nat} {tx_length : Int32} {tx_stop : Int32} {tx_signs : Nat → Int32} {ru_length : Int32} {post : Int32 → Int32 → Int32 → Int32 → Int32 → Int32 → Int32 → (Nat → Int32) → (Nat → Int32) → Prop}
def ws_X7_readBehindThing_105 (post : Int32 → Int32 → Int32 → Int32 → Int32 → Int32 → Int32 → (Nat → Int32) → (Nat → Int32) → Prop) (tx_stop : Int32) (tx_signs : Nat → Int32) (x2 : Int32) (x3 : Int32) (tx_place : Int32) (ru_drafted : Int32) (ru_waits : Int32) (ru_open : Int32) (ru_compared : Int32) (ru_wantsThing : Int32) (ru_waiting : Nat → Int32) (ru_draft : Nat → Int32) : Prop := wp_X7_settle (fun ru_drafted_3 ru_waits_4 ru_draft_5 => wp_X7_hold (fun ru_waits_6 ru_waiting_7 => wp_X8_skip (fun tx_place_8 => post 1 tx_place_8 ru_drafted_3 ru_waits_6 ru_open ru_compared 1 ru_waiting_7 ru_draft_5) tx_place tx_stop) x2 ru_waits_4 ru_waiting) x3 ru_drafted ru_waits ru_waiting ru_draft
set_option maxHeartbeats 4000000 in
set_option maxRecDepth 100000 in
theorem ks_X7_readBehindThing_105 (C0 : gc cX7_readBehindThing (some .boolean) 4 RX7 (dC, dI) (tyl cI cC cZ cB cJ) A p s m args meth c) : ∀ (x2 : Int32) (x3 : Int32) (tx_place : Int32) (ru_drafted : Int32) (ru_waits : Int32) (ru_open : Int32) (ru_compared : Int32) (ru_wantsThing : Int32) (ru_waiting : Nat → Int32) (ru_draft : Nat → Int32) (H : Heap) (locs : List Loc) (ls : Array Slot), (ws_X7_readBehindThing_105 post tx_stop tx_signs) x2 x3 tx_place ru_drafted ru_waits ru_open ru_compared ru_wantsThing ru_waiting ru_draft → va_P (dC, dI) classes (wd_X7_readBehindThing cI cC cZ cB cJ a_tx a_tx_signs a_ru a_ru_given a_ru_waiting a_ru_stack a_ru_program a_ru_draft tx_length tx_place tx_stop tx_signs ru_length ru_drafted ru_waits ru_open ru_compared ru_wantsThing ru_waiting ru_draft) H → va_D A (wd_X7_readBehindThing cI cC cZ cB cJ a_tx a_tx_signs a_ru a_ru_given a_ru_waiting a_ru_stack a_ru_program a_ru_draft tx_length tx_place tx_stop tx_signs ru_length ru_drafted ru_waits ru_open ru_compared ru_wantsThing ru_waiting ru_draft) → va_S A s.heap H locs → lv_has ls 4 [(0, .ref a_ru), (1, .ref a_tx), (2, .int x2), (3, .int x3)] → W p l e rm_X7_readBehindThing s m args below meth c H locs 0 0 (MQ below (q_X7_readBehindThing dC dI cI cC cZ cB cJ A a_tx a_tx_signs a_ru a_ru_given a_ru_waiting a_ru_stack a_ru_program a_ru_draft tx_length tx_stop tx_signs ru_length post) args s 0 0 A) (F0 m 105 ls []) := by
  obtain ⟨hx, hb, hr, hml, hown, hts, hlocks, hA, hK, hN, tL, tM, hZL, hTL, hZM, hTM, hZX⟩ := id C0
  intro x2 x3 tx_place ru_drafted ru_waits ru_open ru_compared ru_wantsThing ru_waiting ru_draft H locs ls hp hP hD hS hl
  unfold ws_X7_readBehindThing_105 at hp
  refine lv_aload_n hx hb eX7_readBehindThing_83.2.2.2.2.2.2.2.2.2.2.2.2.2.2.1 rfl (lv_at hl 0 rfl) ?_
  refine lv_iload_n hx hb eX7_readBehindThing_83.2.2.2.2.2.2.2.2.2.2.2.2.2.2.2 rfl (lv_at hl 3 rfl) ?_
  refine g_callv (wc := (wd_X7_settle cI cC cZ cB cJ a_ru a_ru_given a_ru_waiting a_ru_stack a_ru_program a_ru_draft ru_length ru_drafted ru_waits ru_open ru_compared ru_wantsThing ru_waiting ru_draft)) hP hD hS hA [2, 3, 4] [0, 1] rfl rfl rfl rfl (g_runV (As := [.int x3]) (rest := []) C0 hP hD hS [2, 3, 4] rfl rfl 2 7 rfl rfl (c_X7_settle l dC dI cI cC cZ cB cJ a_ru a_ru_given a_ru_waiting a_ru_stack a_ru_program a_ru_draft H.size x3 ru_length ru_drafted ru_waits ru_open ru_compared ru_wantsThing ru_waiting ru_draft _ hp) q_129 q_132 q_130 q_131 q_108 h_X7_settle rfl rfl ⟨Nat.le_of_ble_eq_true rfl, Nat.le_of_ble_eq_true rfl⟩ rfl rfl hl.1 rfl (lv_room (Nat.le_of_ble_eq_true rfl)) eX7_readBehindThing_107.1 ⟨Nat.zero_le _, Nat.zero_le _⟩) (fun u H locs hp hP hD hS => ?_)
  obtain ⟨ru_drafted_3, ru_waits_4, ru_draft_5⟩ := u
  have hPD := PDs (ws' := (wd_X7_readBehindThing cI cC cZ cB cJ a_tx a_tx_signs a_ru a_ru_given a_ru_waiting a_ru_stack a_ru_program a_ru_draft tx_length tx_place tx_stop tx_signs ru_length ru_drafted_3 ru_waits_4 ru_open ru_compared ru_wantsThing ru_waiting ru_draft_5)) hP hD [0, 1, 2, 3, 4] (by decide) rfl
  have hP := hPD.1
  have hD := hPD.2
  refine lv_aload_n hx hb eX7_readBehindThing_107.2.1 rfl (lv_at hl 0 rfl) ?_
  refine lv_iload_n hx hb eX7_readBehindThing_107.2.2.1 rfl (lv_at hl 2 rfl) ?_
  refine g_callv (wc := (wd_X7_hold cI cC cZ cB cJ a_ru a_ru_given a_ru_waiting a_ru_stack a_ru_program a_ru_draft ru_length ru_drafted_3 ru_waits_4 ru_open ru_compared ru_wantsThing ru_waiting)) hP hD hS hA [2, 3] [0, 1, 4] rfl rfl rfl rfl (g_runV (As := [.int x2]) (rest := []) C0 hP hD hS [2, 3] rfl rfl 2 7 rfl rfl (c_X7_hold l dC dI cI cC cZ cB cJ a_ru a_ru_given a_ru_waiting a_ru_stack a_ru_program a_ru_draft H.size x2 ru_length ru_drafted_3 ru_waits_4 ru_open ru_compared ru_wantsThing ru_waiting _ hp) q_122 q_125 q_123 q_124 q_108 h_X7_hold rfl rfl ⟨Nat.le_of_ble_eq_true rfl, Nat.le_of_ble_eq_true rfl⟩ rfl rfl hl.1 rfl (lv_room (Nat.le_of_ble_eq_true rfl)) eX7_readBehindThing_107.2.2.2.1 ⟨Nat.zero_le _, Nat.zero_le _⟩) (fun u H locs hp hP hD hS => ?_)
  obtain ⟨ru_waits_6, ru_waiting_7⟩ := u
  have hPD := PDs (ws' := (wd_X7_readBehindThing cI cC cZ cB cJ a_tx a_tx_signs a_ru a_ru_given a_ru_waiting a_ru_stack a_ru_program a_ru_draft tx_length tx_place tx_stop tx_signs ru_length ru_drafted_3 ru_waits_6 ru_open ru_compared ru_wantsThing ru_waiting_7 ru_draft_5)) hP hD [0, 1, 3, 4, 2] (by decide) rfl
  have hP := hPD.1
  have hD := hPD.2
  refine lv_aload_n hx hb eX7_readBehindThing_107.2.2.2.2.1 rfl (lv_at hl 0 rfl) ?_
  refine lv_iconst (v := 1) hx hb eX7_readBehindThing_107.2.2.2.2.2.1 (by decide) ?_
  refine va_put (D := (dC, dI)) (ci := 7) (v := .int 1) (ty := .boolean) (C := RX7) (T := TX7) (N := 11) hx hb hts i_X7 tyX7 tyX7_ok nmX7 hown hK hP hD hS 2 rfl rfl 10 (Nat.le_of_ble_eq_true rfl) (hts _ q_112) (fun _ h9 => h9) rfl (tyX7_ok 10 (Nat.le_of_ble_eq_true rfl)) rfl rfl (Nat.le_of_ble_eq_true rfl) eX7_readBehindThing_107.2.2.2.2.2.2.1 (fun H locs hP hD hS => ?_)
  have hP : va_P (dC, dI) classes (wd_X7_readBehindThing cI cC cZ cB cJ a_tx a_tx_signs a_ru a_ru_given a_ru_waiting a_ru_stack a_ru_program a_ru_draft tx_length tx_place tx_stop tx_signs ru_length ru_drafted_3 ru_waits_6 ru_open ru_compared 1 ru_waiting_7 ru_draft_5) H := hP
  have hD : va_D A (wd_X7_readBehindThing cI cC cZ cB cJ a_tx a_tx_signs a_ru a_ru_given a_ru_waiting a_ru_stack a_ru_program a_ru_draft tx_length tx_place tx_stop tx_signs ru_length ru_drafted_3 ru_waits_6 ru_open ru_compared 1 ru_waiting_7 ru_draft_5) := hD
  refine lv_aload_n hx hb eX7_readBehindThing_107.2.2.2.2.2.2.2.1 rfl (lv_at hl 1 rfl) ?_
  refine g_callv (wc := (wd_X8_skip cI cC cZ cB cJ a_tx a_tx_signs tx_length tx_place tx_stop)) hP hD hS hA [0] [1, 2, 3, 4] rfl rfl rfl rfl (g_runV (As := []) (rest := []) C0 hP hD hS [0] rfl rfl 0 8 rfl rfl (c_X8_skip l dC dI cI cC cZ cB cJ a_tx a_tx_signs H.size tx_length tx_place tx_stop _ hp) q_29 q_115 q_30 q_31 q_5 h_X8_skip rfl rfl ⟨Nat.le_of_ble_eq_true rfl, Nat.le_of_ble_eq_true rfl⟩ rfl rfl hl.1 rfl (lv_room (Nat.le_of_ble_eq_true rfl)) eX7_readBehindThing_107.2.2.2.2.2.2.2.2.1 ⟨Nat.zero_le _, Nat.zero_le _⟩) (fun u H locs hp hP hD hS => ?_)
  obtain ⟨tx_place_8, rfl⟩ : ∃ z, z = u := ⟨_, rfl⟩
  have hPD := PDs (ws' := (wd_X7_readBehindThing cI cC cZ cB cJ a_tx a_tx_signs a_ru a_ru_given a_ru_waiting a_ru_stack a_ru_program a_ru_draft tx_length tx_place_8 tx_stop tx_signs ru_length ru_drafted_3 ru_waits_6 ru_open ru_compared 1 ru_waiting_7 ru_draft_5)) hP hD [4, 0, 1, 2, 3] (by decide) rfl
  have hP := hPD.1
  have hD := hPD.2
  refine lv_iconst (v := 1) hx hb eX7_readBehindThing_107.2.2.2.2.2.2.2.2.2.1 (by decide) ?_
  exact W.zret (v := 1) hx hb hr rfl (fun t ht hW => ⟨⟨1, (tx_place_8, ru_drafted_3, ru_waits_6, ru_open, ru_compared, 1, ru_waiting_7, ru_draft_5), rfl, hp, by rw [ht]; exact hP, va_K.moved hW.alike hK, hD⟩, hS.F ht⟩) hS.2.2 eX7_readBehindThing_107.2.2.2.2.2.2.2.2.2.2
def ws_X7_readBehindThing_85 (post : Int32 → Int32 → Int32 → Int32 → Int32 → Int32 → Int32 → (Nat → Int32) → (Nat → Int32) → Prop) (tx_stop : Int32) (tx_signs : Nat → Int32) (x2 : Int32) (x3 : Int32) (tx_place : Int32) (ru_drafted : Int32) (ru_waits : Int32) (ru_open : Int32) (ru_compared : Int32) (ru_wantsThing : Int32) (ru_waiting : Nat → Int32) (ru_draft : Nat → Int32) : Prop := (¬ x3 = 1 → ws_X7_readBehindThing_105 post tx_stop tx_signs x2 x3 tx_place ru_drafted ru_waits ru_open ru_compared ru_wantsThing ru_waiting ru_draft) ∧ (x3 = 1 → ∀ v_9 : Int32, v_9 = ru_compared ||| (1 <<< (ru_open &&& 31)) → ws_X7_readBehindThing_105 post tx_stop tx_signs x2 x3 tx_place ru_drafted ru_waits ru_open v_9 ru_wantsThing ru_waiting ru_draft)
set_option maxHeartbeats 4000000 in
set_option maxRecDepth 100000 in
theorem ks_X7_readBehindThing_85 (C0 : gc cX7_readBehindThing (some .boolean) 4 RX7 (dC, dI) (tyl cI cC cZ cB cJ) A p s m args meth c) : ∀ (x2 : Int32) (x3 : Int32) (tx_place : Int32) (ru_drafted : Int32) (ru_waits : Int32) (ru_open : Int32) (ru_compared : Int32) (ru_wantsThing : Int32) (ru_waiting : Nat → Int32) (ru_draft : Nat → Int32) (H : Heap) (locs : List Loc) (ls : Array Slot), (ws_X7_readBehindThing_85 post tx_stop tx_signs) x2 x3 tx_place ru_drafted ru_waits ru_open ru_compared ru_wantsThing ru_waiting ru_draft → va_P (dC, dI) classes (wd_X7_readBehindThing cI cC cZ cB cJ a_tx a_tx_signs a_ru a_ru_given a_ru_waiting a_ru_stack a_ru_program a_ru_draft tx_length tx_place tx_stop tx_signs ru_length ru_drafted ru_waits ru_open ru_compared ru_wantsThing ru_waiting ru_draft) H → va_D A (wd_X7_readBehindThing cI cC cZ cB cJ a_tx a_tx_signs a_ru a_ru_given a_ru_waiting a_ru_stack a_ru_program a_ru_draft tx_length tx_place tx_stop tx_signs ru_length ru_drafted ru_waits ru_open ru_compared ru_wantsThing ru_waiting ru_draft) → va_S A s.heap H locs → lv_has ls 4 [(0, .ref a_ru), (1, .ref a_tx), (2, .int x2), (3, .int x3)] → W p l e rm_X7_readBehindThing s m args below meth c H locs 0 0 (MQ below (q_X7_readBehindThing dC dI cI cC cZ cB cJ A a_tx a_tx_signs a_ru a_ru_given a_ru_waiting a_ru_stack a_ru_program a_ru_draft tx_length tx_stop tx_signs ru_length post) args s 0 0 A) (F0 m 85 ls []) := by
  obtain ⟨hx, hb, hr, hml, hown, hts, hlocks, hA, hK, hN, tL, tM, hZL, hTL, hZM, hTM, hZX⟩ := id C0
  intro x2 x3 tx_place ru_drafted ru_waits ru_open ru_compared ru_wantsThing ru_waiting ru_draft H locs ls hp hP hD hS hl
  unfold ws_X7_readBehindThing_85 at hp
  refine lv_iload_n hx hb eX7_readBehindThing_83.2.2.1 rfl (lv_at hl 3 rfl) ?_
  refine lv_iconst (v := 1) hx hb eX7_readBehindThing_83.2.2.2.1 (by decide) ?_
  refine lv_icmp_ne (tgt := 105) hx hb eX7_readBehindThing_83.2.2.2.2.1 (by decide) (fun hc => ?_) (fun hc => ?_)
  · have hp := hp.1 hc
    exact ks_X7_readBehindThing_105 C0 x2 x3 tx_place ru_drafted ru_waits ru_open ru_compared ru_wantsThing ru_waiting ru_draft H locs ls hp hP hD hS (lv_sub hl [0, 1, 2, 3] rfl)
  · have hp := hp.2 hc
    refine lv_aload_n hx hb eX7_readBehindThing_83.2.2.2.2.2.1 rfl (lv_at hl 0 rfl) ?_
    refine lv_dup hx hb eX7_readBehindThing_83.2.2.2.2.2.2.1 rfl ?_
    refine va_get (D := (dC, dI)) (ci := 7) (v := .int ru_compared) (C := RX7) (T := TX7) (N := 11) hx hb hts i_X7 hown hK hP 2 rfl rfl 9 (Nat.le_of_ble_eq_true rfl) (hts _ q_121) (fun _ h9 => h9) rfl eX7_readBehindThing_83.2.2.2.2.2.2.2.1 ?_
    refine lv_iconst (v := 1) hx hb eX7_readBehindThing_83.2.2.2.2.2.2.2.2.1 (by decide) ?_
    refine lv_aload_n hx hb eX7_readBehindThing_83.2.2.2.2.2.2.2.2.2.1 rfl (lv_at hl 0 rfl) ?_
    refine va_get (D := (dC, dI)) (ci := 7) (v := .int ru_open) (C := RX7) (T := TX7) (N := 11) hx hb hts i_X7 hown hK hP 2 rfl rfl 8 (Nat.le_of_ble_eq_true rfl) (hts _ q_120) (fun _ h9 => h9) rfl eX7_readBehindThing_83.2.2.2.2.2.2.2.2.2.2.1 ?_
    refine lv_ishl hx hb eX7_readBehindThing_83.2.2.2.2.2.2.2.2.2.2.2.1 ?_
    refine lv_ior hx hb eX7_readBehindThing_83.2.2.2.2.2.2.2.2.2.2.2.2.1 ?_
    refine lv_topi (fun v_9 ev_9 => ?_)
    have hp := hp v_9 ev_9
    refine va_put (D := (dC, dI)) (ci := 7) (v := .int v_9) (ty := .int) (C := RX7) (T := TX7) (N := 11) hx hb hts i_X7 tyX7 tyX7_ok nmX7 hown hK hP hD hS 2 rfl rfl 9 (Nat.le_of_ble_eq_true rfl) (hts _ q_121) (fun _ h9 => h9) rfl (tyX7_ok 9 (Nat.le_of_ble_eq_true rfl)) rfl rfl (Nat.le_of_ble_eq_true rfl) eX7_readBehindThing_83.2.2.2.2.2.2.2.2.2.2.2.2.2.1 (fun H locs hP hD hS => ?_)
    have hP : va_P (dC, dI) classes (wd_X7_readBehindThing cI cC cZ cB cJ a_tx a_tx_signs a_ru a_ru_given a_ru_waiting a_ru_stack a_ru_program a_ru_draft tx_length tx_place tx_stop tx_signs ru_length ru_drafted ru_waits ru_open v_9 ru_wantsThing ru_waiting ru_draft) H := hP
    have hD : va_D A (wd_X7_readBehindThing cI cC cZ cB cJ a_tx a_tx_signs a_ru a_ru_given a_ru_waiting a_ru_stack a_ru_program a_ru_draft tx_length tx_place tx_stop tx_signs ru_length ru_drafted ru_waits ru_open v_9 ru_wantsThing ru_waiting ru_draft) := hD
    exact ks_X7_readBehindThing_105 C0 x2 x3 tx_place ru_drafted ru_waits ru_open v_9 ru_wantsThing ru_waiting ru_draft H locs ls hp hP hD hS (lv_sub hl [0, 1, 2, 3] rfl)
end S_X7_readBehindThing
def wp_X7_readBehindThing (post : Int32 → Int32 → Int32 → Int32 → Int32 → Int32 → Int32 → (Nat → Int32) → (Nat → Int32) → Prop) (tx_place : Int32) (tx_stop : Int32) (tx_signs : Nat → Int32) (ru_drafted : Int32) (ru_waits : Int32) (ru_open : Int32) (ru_compared : Int32) (ru_wantsThing : Int32) (ru_waiting : Nat → Int32) (ru_draft : Nat → Int32) : Prop := wp_X8_here (fun r_1 => (¬ r_1 = 41 → wp_X7_strength (fun r_2 => (r_2 = 0 → post 0 tx_place ru_drafted ru_waits ru_open ru_compared ru_wantsThing ru_waiting ru_draft) ∧ (¬ r_2 = 0 → (¬ r_2 = 1 → ws_X7_readBehindThing_85 post tx_stop tx_signs r_1 r_2 tx_place ru_drafted ru_waits ru_open ru_compared ru_wantsThing ru_waiting ru_draft) ∧ (r_2 = 1 → ∀ v_10 : Int32, v_10 = ru_compared >>> (ru_open &&& 31) → ((v_10 &&& 1) = 0 → ws_X7_readBehindThing_85 post tx_stop tx_signs r_1 r_2 tx_place ru_drafted ru_waits ru_open ru_compared ru_wantsThing ru_waiting ru_draft) ∧ (¬ (v_10 &&& 1) = 0 → post 0 tx_place ru_drafted ru_waits ru_open ru_compared ru_wantsThing ru_waiting ru_draft)))) r_1) ∧ (r_1 = 41 → (¬ ru_open = 0 → wp_X7_settle (fun ru_drafted_11 ru_waits_12 ru_draft_13 => ∀ v_14 : Int32, v_14 = ru_waits_12 - 1 → ∀ v_15 : Int32, v_15 = (if 0 < v_14 then v_14 else 0) → ∀ v_16 : Int32, v_16 = ru_open - 1 → wp_X8_skip (fun tx_place_17 => post 1 tx_place_17 ru_drafted_11 v_15 v_16 ru_compared ru_wantsThing ru_waiting ru_draft_13) tx_place tx_stop) 1 ru_drafted ru_waits ru_waiting ru_draft) ∧ (ru_open = 0 → post 0 tx_place ru_drafted ru_waits ru_open ru_compared ru_wantsThing ru_waiting ru_draft))) tx_place tx_stop tx_signs
set_option maxHeartbeats 4000000 in
set_option maxRecDepth 100000 in
theorem c_X7_readBehindThing (l : Launch) (dC : Nat → ClassId) (dI : Nat → Nat → Nat) (cI cC cZ cB cJ : ClassId) (a_tx : Nat) (a_tx_signs : Nat) (a_ru : Nat) (a_ru_given : Nat) (a_ru_waiting : Nat) (a_ru_stack : Nat) (a_ru_program : Nat) (a_ru_draft : Nat) (sz : Nat) (tx_length : Int32) (tx_place : Int32) (tx_stop : Int32) (tx_signs : Nat → Int32) (ru_length : Int32) (ru_drafted : Int32) (ru_waits : Int32) (ru_open : Int32) (ru_compared : Int32) (ru_wantsThing : Int32) (ru_waiting : Nat → Int32) (ru_draft : Nat → Int32) (post : Int32 → Int32 → Int32 → Int32 → Int32 → Int32 → Int32 → (Nat → Int32) → (Nat → Int32) → Prop) (hw : wp_X7_readBehindThing post tx_place tx_stop tx_signs ru_drafted ru_waits ru_open ru_compared ru_wantsThing ru_waiting ru_draft) : Met l yX7_readBehindThing (gw yX7_readBehindThing cX7_readBehindThing 4 (some .boolean)) rm_X7_readBehindThing (va_Pc [.ref a_ru, .ref a_tx] (gPre (dC, dI) (tyl cI cC cZ cB cJ) (wd_X7_readBehindThing cI cC cZ cB cJ a_tx a_tx_signs a_ru a_ru_given a_ru_waiting a_ru_stack a_ru_program a_ru_draft tx_length tx_place tx_stop tx_signs ru_length ru_drafted ru_waits ru_open ru_compared ru_wantsThing ru_waiting ru_draft) sz)) (q_X7_readBehindThing dC dI cI cC cZ cB cJ (va_A (wd_X7_readBehindThing cI cC cZ cB cJ a_tx a_tx_signs a_ru a_ru_given a_ru_waiting a_ru_stack a_ru_program a_ru_draft tx_length tx_place tx_stop tx_signs ru_length ru_drafted ru_waits ru_open ru_compared ru_wantsThing ru_waiting ru_draft) sz) a_tx a_tx_signs a_ru a_ru_given a_ru_waiting a_ru_stack a_ru_program a_ru_draft tx_length tx_stop tx_signs ru_length post) 0 0 (va_A (wd_X7_readBehindThing cI cC cZ cB cJ a_tx a_tx_signs a_ru a_ru_given a_ru_waiting a_ru_stack a_ru_program a_ru_draft tx_length tx_place tx_stop tx_signs ru_length ru_drafted ru_waits ru_open ru_compared ru_wantsThing ru_waiting ru_draft) sz) := by
  refine g_enter (own := RX7) (dC, dI) (tyl cI cC cZ cB cJ) (wd_X7_readBehindThing cI cC cZ cB cJ a_tx a_tx_signs a_ru a_ru_given a_ru_waiting a_ru_stack a_ru_program a_ru_draft tx_length tx_place tx_stop tx_signs ru_length ru_drafted ru_waits ru_open ru_compared ru_wantsThing ru_waiting ru_draft) sz [.ref a_ru, .ref a_tx] (fun A => q_X7_readBehindThing dC dI cI cC cZ cB cJ A a_tx a_tx_signs a_ru a_ru_given a_ru_waiting a_ru_stack a_ru_program a_ru_draft tx_length tx_stop tx_signs ru_length post) (by decide) rfl (Nat.le_of_ble_eq_true rfl) ?_
  intro p e s m args below meth c A H locs ls C0 hP hD hS hl
  have hl : lv_has ls 4 [(0, .ref a_ru), (1, .ref a_tx)] := hl
  obtain ⟨hx, hb, hr, hml, hown, hts, hlocks, hA, hK, hN, tL, tM, hZL, hTL, hZM, hTM, hZX⟩ := id C0
  have hp := hw
  unfold wp_X7_readBehindThing at hp
  refine lv_aload_n hx hb eX7_readBehindThing_0.1 rfl (lv_at hl 1 rfl) ?_
  refine g_calli (wc := (wd_X8_here cI cC cZ cB cJ a_tx a_tx_signs tx_length tx_place tx_stop tx_signs)) hP hD hS hA [0, 1] [2, 3, 4] rfl rfl rfl rfl (g_runV (As := []) (rest := []) C0 hP hD hS [0, 1] rfl rfl 0 8 rfl rfl (c_X8_here l dC dI cI cC cZ cB cJ a_tx a_tx_signs H.size tx_length tx_place tx_stop tx_signs _ hp) q_33 q_113 q_34 q_35 q_5 h_X8_here rfl rfl ⟨Nat.le_of_ble_eq_true rfl, Nat.le_of_ble_eq_true rfl⟩ rfl rfl hl.1 rfl (lv_room (Nat.le_of_ble_eq_true rfl)) eX7_readBehindThing_0.2.1 ⟨Nat.zero_le _, Nat.zero_le _⟩) (fun r_1 u H locs hp hP hD hS => ?_)
  have hPD := PDs (ws' := (wd_X7_readBehindThing cI cC cZ cB cJ a_tx a_tx_signs a_ru a_ru_given a_ru_waiting a_ru_stack a_ru_program a_ru_draft tx_length tx_place tx_stop tx_signs ru_length ru_drafted ru_waits ru_open ru_compared ru_wantsThing ru_waiting ru_draft)) hP hD [3, 4, 0, 1, 2] (by decide) rfl
  have hP := hPD.1
  have hD := hPD.2
  refine lv_istore_n (lv' := [(2, .int r_1), (0, .ref a_ru), (1, .ref a_tx)]) hx hb eX7_readBehindThing_0.2.2.1 rfl hl (by decide) rfl (fun ls hl => ?_)
  refine lv_iload_n hx hb eX7_readBehindThing_0.2.2.2.1 rfl (lv_at hl 0 rfl) ?_
  refine lv_bipush (v := 41) hx hb eX7_readBehindThing_0.2.2.2.2.1 (by decide) ?_
  refine lv_icmp_ne (tgt := 55) hx hb eX7_readBehindThing_0.2.2.2.2.2.1 (by decide) (fun hc => ?_) (fun hc => ?_)
  · have hp := hp.1 hc
    refine lv_iload_n hx hb eX7_readBehindThing_55.1 rfl (lv_at hl 0 rfl) ?_
    refine g_calli (wc := (wd_X7_strength cI cC cZ cB cJ)) hP hD hS hA [] [0, 1, 2, 3, 4] rfl rfl rfl rfl (g_runS (As := [.int r_1]) (rest := []) C0 hP hD hS [] rfl rfl (c_X7_strength l dC dI cI cC cZ cB cJ H.size r_1 _ hp) q_126 q_128 q_127 q_108 h_X7_strength rfl rfl ⟨Nat.le_of_ble_eq_true rfl, Nat.le_of_ble_eq_true rfl⟩ rfl rfl hl.1 rfl (lv_room (Nat.le_of_ble_eq_true rfl)) eX7_readBehindThing_55.2.1 ⟨Nat.zero_le _, Nat.zero_le _⟩) (fun r_2 u H locs hp hP hD hS => ?_)
    have hPD := PDs (ws' := (wd_X7_readBehindThing cI cC cZ cB cJ a_tx a_tx_signs a_ru a_ru_given a_ru_waiting a_ru_stack a_ru_program a_ru_draft tx_length tx_place tx_stop tx_signs ru_length ru_drafted ru_waits ru_open ru_compared ru_wantsThing ru_waiting ru_draft)) hP hD [0, 1, 2, 3, 4] (by decide) rfl
    have hP := hPD.1
    have hD := hPD.2
    refine lv_istore_n (lv' := [(3, .int r_2), (2, .int r_1), (0, .ref a_ru), (1, .ref a_tx)]) hx hb eX7_readBehindThing_55.2.2.1 rfl hl (by decide) rfl (fun ls hl => ?_)
    refine lv_iload_n hx hb eX7_readBehindThing_55.2.2.2.1 rfl (lv_at hl 0 rfl) ?_
    refine lv_if_eq (tgt := 83) hx hb eX7_readBehindThing_55.2.2.2.2.1 (by decide) (fun hc => ?_) (fun hc => ?_)
    · have hp := hp.1 hc
      refine lv_iconst (v := 0) hx hb eX7_readBehindThing_83.1 (by decide) ?_
      exact W.zret (v := 0) hx hb hr rfl (fun t ht hW => ⟨⟨0, (tx_place, ru_drafted, ru_waits, ru_open, ru_compared, ru_wantsThing, ru_waiting, ru_draft), rfl, hp, by rw [ht]; exact hP, va_K.moved hW.alike hK, hD⟩, hS.F ht⟩) hS.2.2 eX7_readBehindThing_83.2.1
    · have hp := hp.2 hc
      refine lv_iload_n hx hb eX7_readBehindThing_55.2.2.2.2.2.1 rfl (lv_at hl 0 rfl) ?_
      refine lv_iconst (v := 1) hx hb eX7_readBehindThing_55.2.2.2.2.2.2.1 (by decide) ?_
      refine lv_icmp_ne (tgt := 85) hx hb eX7_readBehindThing_55.2.2.2.2.2.2.2.1 (by decide) (fun hc => ?_) (fun hc => ?_)
      · have hp := hp.1 hc
        exact ks_X7_readBehindThing_85 C0 r_1 r_2 tx_place ru_drafted ru_waits ru_open ru_compared ru_wantsThing ru_waiting ru_draft H locs ls hp hP hD hS (lv_sub hl [2, 3, 1, 0] rfl)
      · have hp := hp.2 hc
        refine lv_aload_n hx hb eX7_readBehindThing_55.2.2.2.2.2.2.2.2.1 rfl (lv_at hl 2 rfl) ?_
        refine va_get (D := (dC, dI)) (ci := 7) (v := .int ru_compared) (C := RX7) (T := TX7) (N := 11) hx hb hts i_X7 hown hK hP 2 rfl rfl 9 (Nat.le_of_ble_eq_true rfl) (hts _ q_121) (fun _ h9 => h9) rfl eX7_readBehindThing_55.2.2.2.2.2.2.2.2.2.1 ?_
        refine lv_aload_n hx hb eX7_readBehindThing_55.2.2.2.2.2.2.2.2.2.2.1 rfl (lv_at hl 2 rfl) ?_
        refine va_get (D := (dC, dI)) (ci := 7) (v := .int ru_open) (C := RX7) (T := TX7) (N := 11) hx hb hts i_X7 hown hK hP 2 rfl rfl 8 (Nat.le_of_ble_eq_true rfl) (hts _ q_120) (fun _ h9 => h9) rfl eX7_readBehindThing_55.2.2.2.2.2.2.2.2.2.2.2.1 ?_
        refine lv_ishr hx hb eX7_readBehindThing_55.2.2.2.2.2.2.2.2.2.2.2.2.1 ?_
        refine lv_topi (fun v_10 ev_10 => ?_)
        have hp := hp v_10 ev_10
        refine lv_iconst (v := 1) hx hb eX7_readBehindThing_55.2.2.2.2.2.2.2.2.2.2.2.2.2.1 (by decide) ?_
        refine lv_iand hx hb eX7_readBehindThing_55.2.2.2.2.2.2.2.2.2.2.2.2.2.2.1 ?_
        refine lv_if_eq (tgt := 85) hx hb eX7_readBehindThing_55.2.2.2.2.2.2.2.2.2.2.2.2.2.2.2 (by decide) (fun hc => ?_) (fun hc => ?_)
        · have hp := hp.1 hc
          exact ks_X7_readBehindThing_85 C0 r_1 r_2 tx_place ru_drafted ru_waits ru_open ru_compared ru_wantsThing ru_waiting ru_draft H locs ls hp hP hD hS (lv_sub hl [2, 3, 1, 0] rfl)
        · have hp := hp.2 hc
          refine lv_iconst (v := 0) hx hb eX7_readBehindThing_83.1 (by decide) ?_
          exact W.zret (v := 0) hx hb hr rfl (fun t ht hW => ⟨⟨0, (tx_place, ru_drafted, ru_waits, ru_open, ru_compared, ru_wantsThing, ru_waiting, ru_draft), rfl, hp, by rw [ht]; exact hP, va_K.moved hW.alike hK, hD⟩, hS.F ht⟩) hS.2.2 eX7_readBehindThing_83.2.1
  · have hp := hp.2 hc
    refine lv_aload_n hx hb eX7_readBehindThing_0.2.2.2.2.2.2.1 rfl (lv_at hl 1 rfl) ?_
    refine va_get (D := (dC, dI)) (ci := 7) (v := .int ru_open) (C := RX7) (T := TX7) (N := 11) hx hb hts i_X7 hown hK hP 2 rfl rfl 8 (Nat.le_of_ble_eq_true rfl) (hts _ q_120) (fun _ h9 => h9) rfl eX7_readBehindThing_0.2.2.2.2.2.2.2.1 ?_
    refine lv_if_ne (tgt := 20) hx hb eX7_readBehindThing_0.2.2.2.2.2.2.2.2.1 (by decide) (fun hc => ?_) (fun hc => ?_)
    · have hp := hp.1 hc
      refine lv_aload_n hx hb eX7_readBehindThing_0.2.2.2.2.2.2.2.2.2.2.2.1 rfl (lv_at hl 1 rfl) ?_
      refine lv_iconst (v := 1) hx hb eX7_readBehindThing_0.2.2.2.2.2.2.2.2.2.2.2.2.1 (by decide) ?_
      refine g_callv (wc := (wd_X7_settle cI cC cZ cB cJ a_ru a_ru_given a_ru_waiting a_ru_stack a_ru_program a_ru_draft ru_length ru_drafted ru_waits ru_open ru_compared ru_wantsThing ru_waiting ru_draft)) hP hD hS hA [2, 3, 4] [0, 1] rfl rfl rfl rfl (g_runV (As := [.int 1]) (rest := []) C0 hP hD hS [2, 3, 4] rfl rfl 2 7 rfl rfl (c_X7_settle l dC dI cI cC cZ cB cJ a_ru a_ru_given a_ru_waiting a_ru_stack a_ru_program a_ru_draft H.size 1 ru_length ru_drafted ru_waits ru_open ru_compared ru_wantsThing ru_waiting ru_draft _ hp) q_129 q_132 q_130 q_131 q_108 h_X7_settle rfl rfl ⟨Nat.le_of_ble_eq_true rfl, Nat.le_of_ble_eq_true rfl⟩ rfl rfl hl.1 rfl (lv_room (Nat.le_of_ble_eq_true rfl)) eX7_readBehindThing_0.2.2.2.2.2.2.2.2.2.2.2.2.2.1 ⟨Nat.zero_le _, Nat.zero_le _⟩) (fun u H locs hp hP hD hS => ?_)
      obtain ⟨ru_drafted_11, ru_waits_12, ru_draft_13⟩ := u
      have hPD := PDs (ws' := (wd_X7_readBehindThing cI cC cZ cB cJ a_tx a_tx_signs a_ru a_ru_given a_ru_waiting a_ru_stack a_ru_program a_ru_draft tx_length tx_place tx_stop tx_signs ru_length ru_drafted_11 ru_waits_12 ru_open ru_compared ru_wantsThing ru_waiting ru_draft_13)) hP hD [0, 1, 2, 3, 4] (by decide) rfl
      have hP := hPD.1
      have hD := hPD.2
      refine lv_aload_n hx hb eX7_readBehindThing_0.2.2.2.2.2.2.2.2.2.2.2.2.2.2.1 rfl (lv_at hl 1 rfl) ?_
      refine lv_iconst (v := 0) hx hb eX7_readBehindThing_0.2.2.2.2.2.2.2.2.2.2.2.2.2.2.2 (by decide) ?_
      refine lv_aload_n hx hb eX7_readBehindThing_27.1 rfl (lv_at hl 1 rfl) ?_
      refine va_get (D := (dC, dI)) (ci := 7) (v := .int ru_waits_12) (C := RX7) (T := TX7) (N := 11) hx hb hts i_X7 hown hK hP 2 rfl rfl 7 (Nat.le_of_ble_eq_true rfl) (hts _ q_102) (fun _ h9 => h9) rfl eX7_readBehindThing_27.2.1 ?_
      refine lv_iconst (v := 1) hx hb eX7_readBehindThing_27.2.2.1 (by decide) ?_
      refine lv_isub hx hb eX7_readBehindThing_27.2.2.2.1 ?_
      refine lv_topi (fun v_14 ev_14 => ?_)
      have hp := hp v_14 ev_14
      refine va_mmax hx hb (by rw [hml]; exact hl.1.symm) hown (hts _ q_133) (hts _ q_134) (hts _ q_16) (hts _ q_135) (Nat.le_of_ble_eq_true rfl) (Nat.le_of_ble_eq_true rfl) (Nat.zero_le _) (Nat.zero_le _) eX7_readBehindThing_27.2.2.2.2.1 ?_
      refine lv_topi (fun v_15 ev_15 => ?_)
      have hp := hp v_15 ev_15
      refine va_put (D := (dC, dI)) (ci := 7) (v := .int v_15) (ty := .int) (C := RX7) (T := TX7) (N := 11) hx hb hts i_X7 tyX7 tyX7_ok nmX7 hown hK hP hD hS 2 rfl rfl 7 (Nat.le_of_ble_eq_true rfl) (hts _ q_102) (fun _ h9 => h9) rfl (tyX7_ok 7 (Nat.le_of_ble_eq_true rfl)) rfl rfl (Nat.le_of_ble_eq_true rfl) eX7_readBehindThing_27.2.2.2.2.2.1 (fun H locs hP hD hS => ?_)
      have hP : va_P (dC, dI) classes (wd_X7_readBehindThing cI cC cZ cB cJ a_tx a_tx_signs a_ru a_ru_given a_ru_waiting a_ru_stack a_ru_program a_ru_draft tx_length tx_place tx_stop tx_signs ru_length ru_drafted_11 v_15 ru_open ru_compared ru_wantsThing ru_waiting ru_draft_13) H := hP
      have hD : va_D A (wd_X7_readBehindThing cI cC cZ cB cJ a_tx a_tx_signs a_ru a_ru_given a_ru_waiting a_ru_stack a_ru_program a_ru_draft tx_length tx_place tx_stop tx_signs ru_length ru_drafted_11 v_15 ru_open ru_compared ru_wantsThing ru_waiting ru_draft_13) := hD
      refine lv_aload_n hx hb eX7_readBehindThing_27.2.2.2.2.2.2.1 rfl (lv_at hl 1 rfl) ?_
      refine lv_dup hx hb eX7_readBehindThing_27.2.2.2.2.2.2.2.1 rfl ?_
      refine va_get (D := (dC, dI)) (ci := 7) (v := .int ru_open) (C := RX7) (T := TX7) (N := 11) hx hb hts i_X7 hown hK hP 2 rfl rfl 8 (Nat.le_of_ble_eq_true rfl) (hts _ q_120) (fun _ h9 => h9) rfl eX7_readBehindThing_27.2.2.2.2.2.2.2.2.1 ?_
      refine lv_iconst (v := 1) hx hb eX7_readBehindThing_27.2.2.2.2.2.2.2.2.2.1 (by decide) ?_
      refine lv_isub hx hb eX7_readBehindThing_27.2.2.2.2.2.2.2.2.2.2.1 ?_
      refine lv_topi (fun v_16 ev_16 => ?_)
      have hp := hp v_16 ev_16
      refine va_put (D := (dC, dI)) (ci := 7) (v := .int v_16) (ty := .int) (C := RX7) (T := TX7) (N := 11) hx hb hts i_X7 tyX7 tyX7_ok nmX7 hown hK hP hD hS 2 rfl rfl 8 (Nat.le_of_ble_eq_true rfl) (hts _ q_120) (fun _ h9 => h9) rfl (tyX7_ok 8 (Nat.le_of_ble_eq_true rfl)) rfl rfl (Nat.le_of_ble_eq_true rfl) eX7_readBehindThing_27.2.2.2.2.2.2.2.2.2.2.2.1 (fun H locs hP hD hS => ?_)
      have hP : va_P (dC, dI) classes (wd_X7_readBehindThing cI cC cZ cB cJ a_tx a_tx_signs a_ru a_ru_given a_ru_waiting a_ru_stack a_ru_program a_ru_draft tx_length tx_place tx_stop tx_signs ru_length ru_drafted_11 v_15 v_16 ru_compared ru_wantsThing ru_waiting ru_draft_13) H := hP
      have hD : va_D A (wd_X7_readBehindThing cI cC cZ cB cJ a_tx a_tx_signs a_ru a_ru_given a_ru_waiting a_ru_stack a_ru_program a_ru_draft tx_length tx_place tx_stop tx_signs ru_length ru_drafted_11 v_15 v_16 ru_compared ru_wantsThing ru_waiting ru_draft_13) := hD
      refine lv_aload_n hx hb eX7_readBehindThing_27.2.2.2.2.2.2.2.2.2.2.2.2.1 rfl (lv_at hl 2 rfl) ?_
      refine g_callv (wc := (wd_X8_skip cI cC cZ cB cJ a_tx a_tx_signs tx_length tx_place tx_stop)) hP hD hS hA [0] [1, 2, 3, 4] rfl rfl rfl rfl (g_runV (As := []) (rest := []) C0 hP hD hS [0] rfl rfl 0 8 rfl rfl (c_X8_skip l dC dI cI cC cZ cB cJ a_tx a_tx_signs H.size tx_length tx_place tx_stop _ hp) q_29 q_115 q_30 q_31 q_5 h_X8_skip rfl rfl ⟨Nat.le_of_ble_eq_true rfl, Nat.le_of_ble_eq_true rfl⟩ rfl rfl hl.1 rfl (lv_room (Nat.le_of_ble_eq_true rfl)) eX7_readBehindThing_27.2.2.2.2.2.2.2.2.2.2.2.2.2.1 ⟨Nat.zero_le _, Nat.zero_le _⟩) (fun u H locs hp hP hD hS => ?_)
      obtain ⟨tx_place_17, rfl⟩ : ∃ z, z = u := ⟨_, rfl⟩
      have hPD := PDs (ws' := (wd_X7_readBehindThing cI cC cZ cB cJ a_tx a_tx_signs a_ru a_ru_given a_ru_waiting a_ru_stack a_ru_program a_ru_draft tx_length tx_place_17 tx_stop tx_signs ru_length ru_drafted_11 v_15 v_16 ru_compared ru_wantsThing ru_waiting ru_draft_13)) hP hD [4, 0, 1, 2, 3] (by decide) rfl
      have hP := hPD.1
      have hD := hPD.2
      refine lv_iconst (v := 1) hx hb eX7_readBehindThing_27.2.2.2.2.2.2.2.2.2.2.2.2.2.2.1 (by decide) ?_
      exact W.zret (v := 1) hx hb hr rfl (fun t ht hW => ⟨⟨1, (tx_place_17, ru_drafted_11, v_15, v_16, ru_compared, ru_wantsThing, ru_waiting, ru_draft_13), rfl, hp, by rw [ht]; exact hP, va_K.moved hW.alike hK, hD⟩, hS.F ht⟩) hS.2.2 eX7_readBehindThing_27.2.2.2.2.2.2.2.2.2.2.2.2.2.2.2
    · have hp := hp.2 hc
      refine lv_iconst (v := 0) hx hb eX7_readBehindThing_0.2.2.2.2.2.2.2.2.2.1 (by decide) ?_
      exact W.zret (v := 0) hx hb hr rfl (fun t ht hW => ⟨⟨0, (tx_place, ru_drafted, ru_waits, ru_open, ru_compared, ru_wantsThing, ru_waiting, ru_draft), rfl, hp, by rw [ht]; exact hP, va_K.moved hW.alike hK, hD⟩, hS.F ht⟩) hS.2.2 eX7_readBehindThing_0.2.2.2.2.2.2.2.2.2.2.1
abbrev wd_X7_read (cI cC cZ cB cJ : ClassId) (a_tx : Nat) (a_tx_signs : Nat) (a_ru : Nat) (a_ru_given : Nat) (a_ru_waiting : Nat) (a_ru_stack : Nat) (a_ru_program : Nat) (a_ru_draft : Nat) (tx_length : Int32) (tx_place : Int32) (tx_stop : Int32) (tx_signs : Nat → Int32) (ru_length : Int32) (ru_drafted : Int32) (ru_waits : Int32) (ru_open : Int32) (ru_compared : Int32) (ru_wantsThing : Int32) (ru_waiting : Nat → Int32) (ru_program : Nat → Int32) (ru_draft : Nat → Int32) : va_W := [(a_tx, .inr (8, [.ref a_tx_signs, .int tx_length, .int tx_place, .int tx_stop])), (a_tx_signs, .inl (cC, 80, .inl tx_signs)), (a_ru, .inr (7, [.ref a_ru_given, .ref a_ru_waiting, .ref a_ru_stack, .ref a_ru_program, .ref a_ru_draft, .int ru_length, .int ru_drafted, .int ru_waits, .int ru_open, .int ru_compared, .int ru_wantsThing])), (a_ru_waiting, .inl (cI, 40, .inl ru_waiting)), (a_ru_program, .inl (cI, 40, .inl ru_program)), (a_ru_draft, .inl (cI, 40, .inl ru_draft))]
abbrev q_X7_read (dC : Nat → ClassId) (dI : Nat → Nat → Nat) (cI cC cZ cB cJ : ClassId) (A : Nat → Prop) (a_tx : Nat) (a_tx_signs : Nat) (a_ru : Nat) (a_ru_given : Nat) (a_ru_waiting : Nat) (a_ru_stack : Nat) (tx_length : Int32) (tx_stop : Int32) (tx_signs : Nat → Int32) (post : Int32 → Int32 → Int32 → Int32 → Int32 → Int32 → Int32 → Int32 → (Nat → Int32) → (Nat → Int32) → (Nat → Int32) → Prop) : Array Value → State → Outcome → State → Prop := va_Qi (fun (r : Int32) (u : Int32 × Int32 × Int32 × Int32 × Int32 × Int32 × Int32 × (Nat → Int32) × (Nat → Int32) × (Nat → Int32) × Nat × Nat) => post r u.1 u.2.1 u.2.2.1 u.2.2.2.1 u.2.2.2.2.1 u.2.2.2.2.2.1 u.2.2.2.2.2.2.1 u.2.2.2.2.2.2.2.1 u.2.2.2.2.2.2.2.2.1 u.2.2.2.2.2.2.2.2.2.1) (fun u t => gB (dC, dI) (tyl cI cC cZ cB cJ) A (wd_X7_read cI cC cZ cB cJ a_tx a_tx_signs a_ru a_ru_given a_ru_waiting a_ru_stack u.2.2.2.2.2.2.2.2.2.2.2 u.2.2.2.2.2.2.2.2.2.2.1 tx_length u.1 tx_stop tx_signs u.2.1 u.2.2.1 u.2.2.2.1 u.2.2.2.2.1 u.2.2.2.2.2.1 u.2.2.2.2.2.2.1 u.2.2.2.2.2.2.2.1 u.2.2.2.2.2.2.2.2.1 u.2.2.2.2.2.2.2.2.2.1) t) A
abbrev rm_X7_read : Room := { frames := 6, cells := 0, slots := 0, locals := 156 }
section S_X7_read
variable {p : Program} {l : Launch} {e : Env} {s : State} {m : MethodId} {args : Array Value} {below : List Frame} {meth : Method} {c : Code} {dC : Nat → ClassId} {dI : Nat → Nat → Nat} {cI cC cZ cB cJ : ClassId} {A : Nat → Prop} {a_tx : Nat} {a_tx_signs : Nat} {a_ru : Nat} {a_ru_given : Nat} {a_ru_waiting : Nat} {a_ru_stack : Nat} {tx_length : Int32} {tx_stop : Int32} {tx_signs : Nat → Int32} {post : Int32 → Int32 → Int32 → Int32 → Int32 → Int32 → Int32 → Int32 → (Nat → Int32) → (Nat → Int32) → (Nat → Int32) → Prop}
def ws_X7_read_75 (post : Int32 → Int32 → Int32 → Int32 → Int32 → Int32 → Int32 → Int32 → (Nat → Int32) → (Nat → Int32) → (Nat → Int32) → Prop) (tx_length : Int32) (tx_stop : Int32) (tx_signs : Nat → Int32) (tx_place : Int32) (ru_length : Int32) (ru_drafted : Int32) (ru_waits : Int32) (ru_open : Int32) (ru_compared : Int32) (ru_wantsThing : Int32) (ru_waiting : Nat → Int32) (ru_program : Nat → Int32) (ru_draft : Nat → Int32) : Prop := (¬ ru_wantsThing = 0 → post 0 tx_place ru_length ru_drafted ru_waits ru_open ru_compared ru_wantsThing ru_waiting ru_program ru_draft) ∧ (ru_wantsThing = 0 → (0 < ru_open → post 0 tx_place ru_length ru_drafted ru_waits ru_open ru_compared ru_wantsThing ru_waiting ru_program ru_draft) ∧ (¬ 0 < ru_open → wp_X8_isThrough (fun r_1 => (¬ r_1 = 0 → wp_X7_settle (fun ru_drafted_2 ru_waits_3 ru_draft_4 => post 1 tx_place ru_drafted_2 ru_drafted_2 ru_waits_3 ru_open ru_compared ru_wantsThing ru_waiting ru_draft_4 ru_program) 1 ru_drafted ru_waits ru_waiting ru_draft) ∧ (r_1 = 0 → post 0 tx_place ru_length ru_drafted ru_waits ru_open ru_compared ru_wantsThing ru_waiting ru_program ru_draft)) tx_length tx_place))
set_option maxHeartbeats 4000000 in
set_option maxRecDepth 100000 in
theorem ks_X7_read_75 (C0 : gc cX7_read (some .boolean) 3 RX7 (dC, dI) (tyl cI cC cZ cB cJ) A p s m args meth c) : ∀ (tx_place : Int32) (ru_length : Int32) (ru_drafted : Int32) (ru_waits : Int32) (ru_open : Int32) (ru_compared : Int32) (ru_wantsThing : Int32) (ru_waiting : Nat → Int32) (ru_program : Nat → Int32) (ru_draft : Nat → Int32) (a_ru_draft : Nat) (a_ru_program : Nat) (H : Heap) (locs : List Loc) (ls : Array Slot), (ws_X7_read_75 post tx_length tx_stop tx_signs) tx_place ru_length ru_drafted ru_waits ru_open ru_compared ru_wantsThing ru_waiting ru_program ru_draft → va_P (dC, dI) classes (wd_X7_read cI cC cZ cB cJ a_tx a_tx_signs a_ru a_ru_given a_ru_waiting a_ru_stack a_ru_program a_ru_draft tx_length tx_place tx_stop tx_signs ru_length ru_drafted ru_waits ru_open ru_compared ru_wantsThing ru_waiting ru_program ru_draft) H → va_D A (wd_X7_read cI cC cZ cB cJ a_tx a_tx_signs a_ru a_ru_given a_ru_waiting a_ru_stack a_ru_program a_ru_draft tx_length tx_place tx_stop tx_signs ru_length ru_drafted ru_waits ru_open ru_compared ru_wantsThing ru_waiting ru_program ru_draft) → va_S A s.heap H locs → lv_has ls 3 [(0, .ref a_ru), (1, .ref a_tx)] → W p l e rm_X7_read s m args below meth c H locs 0 0 (MQ below (q_X7_read dC dI cI cC cZ cB cJ A a_tx a_tx_signs a_ru a_ru_given a_ru_waiting a_ru_stack tx_length tx_stop tx_signs post) args s 0 0 A) (F0 m 75 ls []) := by
  obtain ⟨hx, hb, hr, hml, hown, hts, hlocks, hA, hK, hN, tL, tM, hZL, hTL, hZM, hTM, hZX⟩ := id C0
  intro tx_place ru_length ru_drafted ru_waits ru_open ru_compared ru_wantsThing ru_waiting ru_program ru_draft a_ru_draft a_ru_program H locs ls hp hP hD hS hl
  unfold ws_X7_read_75 at hp
  refine lv_aload_n hx hb eX7_read_59.2.2.2.2.2.2.2.2.1 rfl (lv_at hl 0 rfl) ?_
  refine va_get (D := (dC, dI)) (ci := 7) (v := .int ru_wantsThing) (C := RX7) (T := TX7) (N := 11) hx hb hts i_X7 hown hK hP 2 rfl rfl 10 (Nat.le_of_ble_eq_true rfl) (hts _ q_112) (fun _ h9 => h9) rfl eX7_read_59.2.2.2.2.2.2.2.2.2.1 ?_
  refine lv_if_ne (tgt := 96) hx hb eX7_read_59.2.2.2.2.2.2.2.2.2.2.1 (by decide) (fun hc => ?_) (fun hc => ?_)
  · have hp := hp.1 hc
    refine lv_iconst (v := 0) hx hb eX7_read_93.2.1 (by decide) ?_
    exact W.zret (v := 0) hx hb hr rfl (fun t ht hW => ⟨⟨0, (tx_place, ru_length, ru_drafted, ru_waits, ru_open, ru_compared, ru_wantsThing, ru_waiting, ru_program, ru_draft, a_ru_draft, a_ru_program), rfl, hp, by rw [ht]; exact hP, va_K.moved hW.alike hK, hD⟩, hS.F ht⟩) hS.2.2 eX7_read_93.2.2.1
  · have hp := hp.2 hc
    refine lv_aload_n hx hb eX7_read_59.2.2.2.2.2.2.2.2.2.2.2.1 rfl (lv_at hl 0 rfl) ?_
    refine va_get (D := (dC, dI)) (ci := 7) (v := .int ru_open) (C := RX7) (T := TX7) (N := 11) hx hb hts i_X7 hown hK hP 2 rfl rfl 8 (Nat.le_of_ble_eq_true rfl) (hts _ q_120) (fun _ h9 => h9) rfl eX7_read_59.2.2.2.2.2.2.2.2.2.2.2.2.1 ?_
    refine lv_if_gt (tgt := 96) hx hb eX7_read_59.2.2.2.2.2.2.2.2.2.2.2.2.2.1 (by decide) (fun hc => ?_) (fun hc => ?_)
    · have hp := hp.1 hc
      refine lv_iconst (v := 0) hx hb eX7_read_93.2.1 (by decide) ?_
      exact W.zret (v := 0) hx hb hr rfl (fun t ht hW => ⟨⟨0, (tx_place, ru_length, ru_drafted, ru_waits, ru_open, ru_compared, ru_wantsThing, ru_waiting, ru_program, ru_draft, a_ru_draft, a_ru_program), rfl, hp, by rw [ht]; exact hP, va_K.moved hW.alike hK, hD⟩, hS.F ht⟩) hS.2.2 eX7_read_93.2.2.1
    · have hp := hp.2 hc
      refine lv_aload_n hx hb eX7_read_59.2.2.2.2.2.2.2.2.2.2.2.2.2.2.1 rfl (lv_at hl 1 rfl) ?_
      refine g_calli (wc := (wd_X8_isThrough cI cC cZ cB cJ a_tx a_tx_signs tx_length tx_place tx_stop)) hP hD hS hA [0] [1, 2, 3, 4, 5] rfl rfl rfl rfl (g_runV (As := []) (rest := []) C0 hP hD hS [0] rfl rfl 0 8 rfl rfl (c_X8_isThrough l dC dI cI cC cZ cB cJ a_tx a_tx_signs H.size tx_length tx_place tx_stop _ hp) q_97 q_136 q_98 q_99 q_5 h_X8_isThrough rfl rfl ⟨Nat.le_of_ble_eq_true rfl, Nat.le_of_ble_eq_true rfl⟩ rfl rfl hl.1 rfl (lv_room (Nat.le_of_ble_eq_true rfl)) eX7_read_59.2.2.2.2.2.2.2.2.2.2.2.2.2.2.2 ⟨Nat.zero_le _, Nat.zero_le _⟩) (fun r_1 u H locs hp hP hD hS => ?_)
      have hPD := PDs (ws' := (wd_X7_read cI cC cZ cB cJ a_tx a_tx_signs a_ru a_ru_given a_ru_waiting a_ru_stack a_ru_program a_ru_draft tx_length tx_place tx_stop tx_signs ru_length ru_drafted ru_waits ru_open ru_compared ru_wantsThing ru_waiting ru_program ru_draft)) hP hD [5, 0, 1, 2, 3, 4] (by decide) rfl
      have hP := hPD.1
      have hD := hPD.2
      refine lv_if_ne (tgt := 98) hx hb eX7_read_93.1 (by decide) (fun hc => ?_) (fun hc => ?_)
      · have hp := hp.1 hc
        refine lv_aload_n hx hb eX7_read_93.2.2.2.1 rfl (lv_at hl 0 rfl) ?_
        refine lv_iconst (v := 1) hx hb eX7_read_93.2.2.2.2.1 (by decide) ?_
        refine g_callv (wc := (wd_X7_settle cI cC cZ cB cJ a_ru a_ru_given a_ru_waiting a_ru_stack a_ru_program a_ru_draft ru_length ru_drafted ru_waits ru_open ru_compared ru_wantsThing ru_waiting ru_draft)) hP hD hS hA [2, 3, 5] [0, 1, 4] rfl rfl rfl rfl (g_runV (As := [.int 1]) (rest := []) C0 hP hD hS [2, 3, 5] rfl rfl 2 7 rfl rfl (c_X7_settle l dC dI cI cC cZ cB cJ a_ru a_ru_given a_ru_waiting a_ru_stack a_ru_program a_ru_draft H.size 1 ru_length ru_drafted ru_waits ru_open ru_compared ru_wantsThing ru_waiting ru_draft _ hp) q_129 q_132 q_130 q_131 q_108 h_X7_settle rfl rfl ⟨Nat.le_of_ble_eq_true rfl, Nat.le_of_ble_eq_true rfl⟩ rfl rfl hl.1 rfl (lv_room (Nat.le_of_ble_eq_true rfl)) eX7_read_93.2.2.2.2.2.1 ⟨Nat.zero_le _, Nat.zero_le _⟩) (fun u H locs hp hP hD hS => ?_)
        obtain ⟨ru_drafted_2, ru_waits_3, ru_draft_4⟩ := u
        have hPD := PDs (ws' := (wd_X7_read cI cC cZ cB cJ a_tx a_tx_signs a_ru a_ru_given a_ru_waiting a_ru_stack a_ru_program a_ru_draft tx_length tx_place tx_stop tx_signs ru_length ru_drafted_2 ru_waits_3 ru_open ru_compared ru_wantsThing ru_waiting ru_program ru_draft_4)) hP hD [0, 1, 3, 4, 2, 5] (by decide) rfl
        have hP := hPD.1
        have hD := hPD.2
        refine lv_aload_n hx hb eX7_read_93.2.2.2.2.2.2.1 rfl (lv_at hl 0 rfl) ?_
        refine va_get (D := (dC, dI)) (ci := 7) (v := .ref a_ru_program) (C := RX7) (T := TX7) (N := 11) hx hb hts i_X7 hown hK hP 2 rfl rfl 3 (Nat.le_of_ble_eq_true rfl) (hts _ q_137) (fun _ h9 => h9) rfl eX7_read_93.2.2.2.2.2.2.2.1 ?_
        refine lv_astore_n (lv' := [(2, .ref a_ru_program), (0, .ref a_ru), (1, .ref a_tx)]) hx hb eX7_read_93.2.2.2.2.2.2.2.2.1 rfl hl (by decide) rfl (fun ls hl => ?_)
        refine lv_aload_n hx hb eX7_read_93.2.2.2.2.2.2.2.2.2.1 rfl (lv_at hl 1 rfl) ?_
        refine lv_aload_n hx hb eX7_read_93.2.2.2.2.2.2.2.2.2.2.1 rfl (lv_at hl 1 rfl) ?_
        refine va_get (D := (dC, dI)) (ci := 7) (v := .ref a_ru_draft) (C := RX7) (T := TX7) (N := 11) hx hb hts i_X7 hown hK hP 2 rfl rfl 4 (Nat.le_of_ble_eq_true rfl) (hts _ q_105) (fun _ h9 => h9) rfl eX7_read_93.2.2.2.2.2.2.2.2.2.2.2.1 ?_
        refine va_put (D := (dC, dI)) (ci := 7) (v := .ref a_ru_draft) (ty := .array .int) (C := RX7) (T := TX7) (N := 11) hx hb hts i_X7 tyX7 tyX7_ok nmX7 hown hK hP hD hS 2 rfl rfl 3 (Nat.le_of_ble_eq_true rfl) (hts _ q_137) (fun _ h9 => h9) rfl (tyX7_ok 3 (Nat.le_of_ble_eq_true rfl)) rfl rfl (Nat.le_of_ble_eq_true rfl) eX7_read_93.2.2.2.2.2.2.2.2.2.2.2.2.1 (fun H locs hP hD hS => ?_)
        have hP : va_P (dC, dI) classes [(a_tx, .inr (8, [.ref a_tx_signs, .int tx_length, .int tx_place, .int tx_stop])), (a_tx_signs, .inl (cC, 80, .inl tx_signs)), (a_ru, .inr (7, [.ref a_ru_given, .ref a_ru_waiting, .ref a_ru_stack, .ref a_ru_draft, .ref a_ru_draft, .int ru_length, .int ru_drafted_2, .int ru_waits_3, .int ru_open, .int ru_compared, .int ru_wantsThing])), (a_ru_waiting, .inl (cI, 40, .inl ru_waiting)), (a_ru_program, .inl (cI, 40, .inl ru_program)), (a_ru_draft, .inl (cI, 40, .inl ru_draft_4))] H := hP
        have hD : va_D A [(a_tx, .inr (8, [.ref a_tx_signs, .int tx_length, .int tx_place, .int tx_stop])), (a_tx_signs, .inl (cC, 80, .inl tx_signs)), (a_ru, .inr (7, [.ref a_ru_given, .ref a_ru_waiting, .ref a_ru_stack, .ref a_ru_draft, .ref a_ru_draft, .int ru_length, .int ru_drafted_2, .int ru_waits_3, .int ru_open, .int ru_compared, .int ru_wantsThing])), (a_ru_waiting, .inl (cI, 40, .inl ru_waiting)), (a_ru_program, .inl (cI, 40, .inl ru_program)), (a_ru_draft, .inl (cI, 40, .inl ru_draft_4))] := hD
        refine lv_aload_n hx hb eX7_read_93.2.2.2.2.2.2.2.2.2.2.2.2.2.1 rfl (lv_at hl 1 rfl) ?_
        refine lv_aload_n hx hb eX7_read_93.2.2.2.2.2.2.2.2.2.2.2.2.2.2.1 rfl (lv_at hl 0 rfl) ?_
        refine va_put (D := (dC, dI)) (ci := 7) (v := .ref a_ru_program) (ty := .array .int) (C := RX7) (T := TX7) (N := 11) hx hb hts i_X7 tyX7 tyX7_ok nmX7 hown hK hP hD hS 2 rfl rfl 4 (Nat.le_of_ble_eq_true rfl) (hts _ q_105) (fun _ h9 => h9) rfl (tyX7_ok 4 (Nat.le_of_ble_eq_true rfl)) rfl rfl (Nat.le_of_ble_eq_true rfl) eX7_read_93.2.2.2.2.2.2.2.2.2.2.2.2.2.2.2 (fun H locs hP hD hS => ?_)
        have hP : va_P (dC, dI) classes [(a_tx, .inr (8, [.ref a_tx_signs, .int tx_length, .int tx_place, .int tx_stop])), (a_tx_signs, .inl (cC, 80, .inl tx_signs)), (a_ru, .inr (7, [.ref a_ru_given, .ref a_ru_waiting, .ref a_ru_stack, .ref a_ru_draft, .ref a_ru_program, .int ru_length, .int ru_drafted_2, .int ru_waits_3, .int ru_open, .int ru_compared, .int ru_wantsThing])), (a_ru_waiting, .inl (cI, 40, .inl ru_waiting)), (a_ru_program, .inl (cI, 40, .inl ru_program)), (a_ru_draft, .inl (cI, 40, .inl ru_draft_4))] H := hP
        have hD : va_D A [(a_tx, .inr (8, [.ref a_tx_signs, .int tx_length, .int tx_place, .int tx_stop])), (a_tx_signs, .inl (cC, 80, .inl tx_signs)), (a_ru, .inr (7, [.ref a_ru_given, .ref a_ru_waiting, .ref a_ru_stack, .ref a_ru_draft, .ref a_ru_program, .int ru_length, .int ru_drafted_2, .int ru_waits_3, .int ru_open, .int ru_compared, .int ru_wantsThing])), (a_ru_waiting, .inl (cI, 40, .inl ru_waiting)), (a_ru_program, .inl (cI, 40, .inl ru_program)), (a_ru_draft, .inl (cI, 40, .inl ru_draft_4))] := hD
        refine lv_aload_n hx hb eX7_read_121.1 rfl (lv_at hl 1 rfl) ?_
        refine lv_aload_n hx hb eX7_read_121.2.1 rfl (lv_at hl 1 rfl) ?_
        refine va_get (D := (dC, dI)) (ci := 7) (v := .int ru_drafted_2) (C := RX7) (T := TX7) (N := 11) hx hb hts i_X7 hown hK hP 2 rfl rfl 6 (Nat.le_of_ble_eq_true rfl) (hts _ q_104) (fun _ h9 => h9) rfl eX7_read_121.2.2.1 ?_
        refine va_put (D := (dC, dI)) (ci := 7) (v := .int ru_drafted_2) (ty := .int) (C := RX7) (T := TX7) (N := 11) hx hb hts i_X7 tyX7 tyX7_ok nmX7 hown hK hP hD hS 2 rfl rfl 5 (Nat.le_of_ble_eq_true rfl) (hts _ q_101) (fun _ h9 => h9) rfl (tyX7_ok 5 (Nat.le_of_ble_eq_true rfl)) rfl rfl (Nat.le_of_ble_eq_true rfl) eX7_read_121.2.2.2.1 (fun H locs hP hD hS => ?_)
        have hP : va_P (dC, dI) classes [(a_tx, .inr (8, [.ref a_tx_signs, .int tx_length, .int tx_place, .int tx_stop])), (a_tx_signs, .inl (cC, 80, .inl tx_signs)), (a_ru, .inr (7, [.ref a_ru_given, .ref a_ru_waiting, .ref a_ru_stack, .ref a_ru_draft, .ref a_ru_program, .int ru_drafted_2, .int ru_drafted_2, .int ru_waits_3, .int ru_open, .int ru_compared, .int ru_wantsThing])), (a_ru_waiting, .inl (cI, 40, .inl ru_waiting)), (a_ru_program, .inl (cI, 40, .inl ru_program)), (a_ru_draft, .inl (cI, 40, .inl ru_draft_4))] H := hP
        have hD : va_D A [(a_tx, .inr (8, [.ref a_tx_signs, .int tx_length, .int tx_place, .int tx_stop])), (a_tx_signs, .inl (cC, 80, .inl tx_signs)), (a_ru, .inr (7, [.ref a_ru_given, .ref a_ru_waiting, .ref a_ru_stack, .ref a_ru_draft, .ref a_ru_program, .int ru_drafted_2, .int ru_drafted_2, .int ru_waits_3, .int ru_open, .int ru_compared, .int ru_wantsThing])), (a_ru_waiting, .inl (cI, 40, .inl ru_waiting)), (a_ru_program, .inl (cI, 40, .inl ru_program)), (a_ru_draft, .inl (cI, 40, .inl ru_draft_4))] := hD
        refine lv_iconst (v := 1) hx hb eX7_read_121.2.2.2.2.1 (by decide) ?_
        have hPD := PDs (ws' := wd_X7_read cI cC cZ cB cJ a_tx a_tx_signs a_ru a_ru_given a_ru_waiting a_ru_stack a_ru_draft a_ru_program tx_length tx_place tx_stop tx_signs ru_drafted_2 ru_drafted_2 ru_waits_3 ru_open ru_compared ru_wantsThing ru_waiting ru_draft_4 ru_program) hP hD [0, 1, 2, 3, 5, 4] (by decide) rfl
        have hP := hPD.1
        have hD := hPD.2
        exact W.zret (v := 1) hx hb hr rfl (fun t ht hW => ⟨⟨1, (tx_place, ru_drafted_2, ru_drafted_2, ru_waits_3, ru_open, ru_compared, ru_wantsThing, ru_waiting, ru_draft_4, ru_program, a_ru_program, a_ru_draft), rfl, hp, by rw [ht]; exact hP, va_K.moved hW.alike hK, hD⟩, hS.F ht⟩) hS.2.2 eX7_read_121.2.2.2.2.2
      · have hp := hp.2 hc
        refine lv_iconst (v := 0) hx hb eX7_read_93.2.1 (by decide) ?_
        exact W.zret (v := 0) hx hb hr rfl (fun t ht hW => ⟨⟨0, (tx_place, ru_length, ru_drafted, ru_waits, ru_open, ru_compared, ru_wantsThing, ru_waiting, ru_program, ru_draft, a_ru_draft, a_ru_program), rfl, hp, by rw [ht]; exact hP, va_K.moved hW.alike hK, hD⟩, hS.F ht⟩) hS.2.2 eX7_read_93.2.2.1
def ws_X7_read_69 (post : Int32 → Int32 → Int32 → Int32 → Int32 → Int32 → Int32 → Int32 → (Nat → Int32) → (Nat → Int32) → (Nat → Int32) → Prop) (K27 : Int32 → Int32 → Int32 → Int32 → Int32 → Int32 → Int32 → Int32 → (Nat → Int32) → (Nat → Int32) → (Nat → Int32) → Prop) (tx_length : Int32) (tx_stop : Int32) (tx_signs : Nat → Int32) (x2 : Int32) (tx_place : Int32) (ru_length : Int32) (ru_drafted : Int32) (ru_waits : Int32) (ru_open : Int32) (ru_compared : Int32) (ru_wantsThing : Int32) (ru_waiting : Nat → Int32) (ru_program : Nat → Int32) (ru_draft : Nat → Int32) : Prop := ∀ v_15 : Int32, v_15 = x2 + 1 → K27 v_15 tx_place ru_length ru_drafted ru_waits ru_open ru_compared ru_wantsThing ru_waiting ru_program ru_draft
set_option maxHeartbeats 4000000 in
set_option maxRecDepth 100000 in
theorem ks_X7_read_69 (C0 : gc cX7_read (some .boolean) 3 RX7 (dC, dI) (tyl cI cC cZ cB cJ) A p s m args meth c) {K27 : Int32 → Int32 → Int32 → Int32 → Int32 → Int32 → Int32 → Int32 → (Nat → Int32) → (Nat → Int32) → (Nat → Int32) → Prop} (hK27 : ∀ (x2 : Int32) (tx_place : Int32) (ru_length : Int32) (ru_drafted : Int32) (ru_waits : Int32) (ru_open : Int32) (ru_compared : Int32) (ru_wantsThing : Int32) (ru_waiting : Nat → Int32) (ru_program : Nat → Int32) (ru_draft : Nat → Int32) (a_ru_draft : Nat) (a_ru_program : Nat) (H : Heap) (locs : List Loc) (ls : Array Slot), K27 x2 tx_place ru_length ru_drafted ru_waits ru_open ru_compared ru_wantsThing ru_waiting ru_program ru_draft → va_P (dC, dI) classes (wd_X7_read cI cC cZ cB cJ a_tx a_tx_signs a_ru a_ru_given a_ru_waiting a_ru_stack a_ru_program a_ru_draft tx_length tx_place tx_stop tx_signs ru_length ru_drafted ru_waits ru_open ru_compared ru_wantsThing ru_waiting ru_program ru_draft) H → va_D A (wd_X7_read cI cC cZ cB cJ a_tx a_tx_signs a_ru a_ru_given a_ru_waiting a_ru_stack a_ru_program a_ru_draft tx_length tx_place tx_stop tx_signs ru_length ru_drafted ru_waits ru_open ru_compared ru_wantsThing ru_waiting ru_program ru_draft) → va_S A s.heap H locs → lv_has ls 3 [(0, .ref a_ru), (1, .ref a_tx), (2, .int x2)] → W p l e rm_X7_read s m args below meth c H locs 0 0 (MQ below (q_X7_read dC dI cI cC cZ cB cJ A a_tx a_tx_signs a_ru a_ru_given a_ru_waiting a_ru_stack tx_length tx_stop tx_signs post) args s 0 0 A) (F0 m 27 ls [])) : ∀ (x2 : Int32) (tx_place : Int32) (ru_length : Int32) (ru_drafted : Int32) (ru_waits : Int32) (ru_open : Int32) (ru_compared : Int32) (ru_wantsThing : Int32) (ru_waiting : Nat → Int32) (ru_program : Nat → Int32) (ru_draft : Nat → Int32) (a_ru_draft : Nat) (a_ru_program : Nat) (H : Heap) (locs : List Loc) (ls : Array Slot), (ws_X7_read_69 post K27 tx_length tx_stop tx_signs) x2 tx_place ru_length ru_drafted ru_waits ru_open ru_compared ru_wantsThing ru_waiting ru_program ru_draft → va_P (dC, dI) classes (wd_X7_read cI cC cZ cB cJ a_tx a_tx_signs a_ru a_ru_given a_ru_waiting a_ru_stack a_ru_program a_ru_draft tx_length tx_place tx_stop tx_signs ru_length ru_drafted ru_waits ru_open ru_compared ru_wantsThing ru_waiting ru_program ru_draft) H → va_D A (wd_X7_read cI cC cZ cB cJ a_tx a_tx_signs a_ru a_ru_given a_ru_waiting a_ru_stack a_ru_program a_ru_draft tx_length tx_place tx_stop tx_signs ru_length ru_drafted ru_waits ru_open ru_compared ru_wantsThing ru_waiting ru_program ru_draft) → va_S A s.heap H locs → lv_has ls 3 [(0, .ref a_ru), (1, .ref a_tx), (2, .int x2)] → W p l e rm_X7_read s m args below meth c H locs 0 0 (MQ below (q_X7_read dC dI cI cC cZ cB cJ A a_tx a_tx_signs a_ru a_ru_given a_ru_waiting a_ru_stack tx_length tx_stop tx_signs post) args s 0 0 A) (F0 m 69 ls []) := by
  obtain ⟨hx, hb, hr, hml, hown, hts, hlocks, hA, hK, hN, tL, tM, hZL, hTL, hZM, hTM, hZX⟩ := id C0
  intro x2 tx_place ru_length ru_drafted ru_waits ru_open ru_compared ru_wantsThing ru_waiting ru_program ru_draft a_ru_draft a_ru_program H locs ls hp hP hD hS hl
  unfold ws_X7_read_69 at hp
  obtain ⟨v_15, ev_15⟩ : ∃ y : Int32, y = x2 + 1 := ⟨_, rfl⟩
  refine lv_iinc (v := v_15) (lv' := [(2, .int v_15), (0, .ref a_ru), (1, .ref a_tx)]) hx hb eX7_read_59.2.2.2.2.2.2.1 hl (k := 2) rfl (by rw [ev_15]; rfl) (by decide) rfl (fun ls hl => ?_)
  have hp := hp v_15 ev_15
  refine lv_goto (tgt := 27) hx hb eX7_read_59.2.2.2.2.2.2.2.1 (by decide) ?_
  exact hK27 v_15 tx_place ru_length ru_drafted ru_waits ru_open ru_compared ru_wantsThing ru_waiting ru_program ru_draft a_ru_draft a_ru_program H locs ls hp hP hD hS (lv_sub hl [1, 2, 0] rfl)
def ws_X7_read_27 (post : Int32 → Int32 → Int32 → Int32 → Int32 → Int32 → Int32 → Int32 → (Nat → Int32) → (Nat → Int32) → (Nat → Int32) → Prop) (next : Int32 → Int32 → Int32 → Int32 → Int32 → Int32 → Int32 → Int32 → (Nat → Int32) → (Nat → Int32) → (Nat → Int32) → Prop) (tx_length : Int32) (tx_stop : Int32) (tx_signs : Nat → Int32) (x2 : Int32) (tx_place : Int32) (ru_length : Int32) (ru_drafted : Int32) (ru_waits : Int32) (ru_open : Int32) (ru_compared : Int32) (ru_wantsThing : Int32) (ru_waiting : Nat → Int32) (ru_program : Nat → Int32) (ru_draft : Nat → Int32) : Prop := (40 ≤ x2 → ws_X7_read_75 post tx_length tx_stop tx_signs tx_place ru_length ru_drafted ru_waits ru_open ru_compared ru_wantsThing ru_waiting ru_program ru_draft) ∧ (¬ 40 ≤ x2 → wp_X8_here (fun r_5 => (r_5 = (-1) → ws_X7_read_75 post tx_length tx_stop tx_signs tx_place ru_length ru_drafted ru_waits ru_open ru_compared ru_wantsThing ru_waiting ru_program ru_draft) ∧ (¬ r_5 = (-1) → (ru_wantsThing = 0 → wp_X7_readBehindThing (fun r_6 tx_place_7 ru_drafted_8 ru_waits_9 ru_open_10 ru_compared_11 ru_wantsThing_12 ru_waiting_13 ru_draft_14 => (¬ r_6 = 0 → ws_X7_read_69 post next tx_length tx_stop tx_signs x2 tx_place_7 ru_length ru_drafted_8 ru_waits_9 ru_open_10 ru_compared_11 ru_wantsThing_12 ru_waiting_13 ru_program ru_draft_14) ∧ (r_6 = 0 → post 0 tx_place_7 ru_length ru_drafted_8 ru_waits_9 ru_open_10 ru_compared_11 ru_wantsThing_12 ru_waiting_13 ru_program ru_draft_14)) tx_place tx_stop tx_signs ru_drafted ru_waits ru_open ru_compared ru_wantsThing ru_waiting ru_draft) ∧ (¬ ru_wantsThing = 0 → wp_X7_readThing (fun r_16 tx_place_17 ru_drafted_18 ru_waits_19 ru_open_20 ru_compared_21 ru_wantsThing_22 ru_waiting_23 ru_draft_24 => (r_16 = 0 → post 0 tx_place_17 ru_length ru_drafted_18 ru_waits_19 ru_open_20 ru_compared_21 ru_wantsThing_22 ru_waiting_23 ru_program ru_draft_24) ∧ (¬ r_16 = 0 → ws_X7_read_69 post next tx_length tx_stop tx_signs x2 tx_place_17 ru_length ru_drafted_18 ru_waits_19 ru_open_20 ru_compared_21 ru_wantsThing_22 ru_waiting_23 ru_program ru_draft_24)) tx_place tx_stop tx_signs ru_drafted ru_waits ru_open ru_compared ru_wantsThing ru_waiting ru_draft))) tx_place tx_stop tx_signs)
noncomputable def wb_X7_read_27 (post : Int32 → Int32 → Int32 → Int32 → Int32 → Int32 → Int32 → Int32 → (Nat → Int32) → (Nat → Int32) → (Nat → Int32) → Prop) (tx_length : Int32) (tx_stop : Int32) (tx_signs : Nat → Int32) : Nat → Int32 → Int32 → Int32 → Int32 → Int32 → Int32 → Int32 → Int32 → (Nat → Int32) → (Nat → Int32) → (Nat → Int32) → Prop := fun n => Nat.rec (motive := fun _ => Int32 → Int32 → Int32 → Int32 → Int32 → Int32 → Int32 → Int32 → (Nat → Int32) → (Nat → Int32) → (Nat → Int32) → Prop) (fun _ _ _ _ _ _ _ _ _ _ _ => False) (fun _ ih => ws_X7_read_27 post ih tx_length tx_stop tx_signs) n
set_option maxHeartbeats 4000000 in
set_option maxRecDepth 100000 in
theorem ks_X7_read_27 (C0 : gc cX7_read (some .boolean) 3 RX7 (dC, dI) (tyl cI cC cZ cB cJ) A p s m args meth c) {next : Int32 → Int32 → Int32 → Int32 → Int32 → Int32 → Int32 → Int32 → (Nat → Int32) → (Nat → Int32) → (Nat → Int32) → Prop} (hKn : ∀ (x2 : Int32) (tx_place : Int32) (ru_length : Int32) (ru_drafted : Int32) (ru_waits : Int32) (ru_open : Int32) (ru_compared : Int32) (ru_wantsThing : Int32) (ru_waiting : Nat → Int32) (ru_program : Nat → Int32) (ru_draft : Nat → Int32) (a_ru_draft : Nat) (a_ru_program : Nat) (H : Heap) (locs : List Loc) (ls : Array Slot), next x2 tx_place ru_length ru_drafted ru_waits ru_open ru_compared ru_wantsThing ru_waiting ru_program ru_draft → va_P (dC, dI) classes (wd_X7_read cI cC cZ cB cJ a_tx a_tx_signs a_ru a_ru_given a_ru_waiting a_ru_stack a_ru_program a_ru_draft tx_length tx_place tx_stop tx_signs ru_length ru_drafted ru_waits ru_open ru_compared ru_wantsThing ru_waiting ru_program ru_draft) H → va_D A (wd_X7_read cI cC cZ cB cJ a_tx a_tx_signs a_ru a_ru_given a_ru_waiting a_ru_stack a_ru_program a_ru_draft tx_length tx_place tx_stop tx_signs ru_length ru_drafted ru_waits ru_open ru_compared ru_wantsThing ru_waiting ru_program ru_draft) → va_S A s.heap H locs → lv_has ls 3 [(0, .ref a_ru), (1, .ref a_tx), (2, .int x2)] → W p l e rm_X7_read s m args below meth c H locs 0 0 (MQ below (q_X7_read dC dI cI cC cZ cB cJ A a_tx a_tx_signs a_ru a_ru_given a_ru_waiting a_ru_stack tx_length tx_stop tx_signs post) args s 0 0 A) (F0 m 27 ls [])) : ∀ (x2 : Int32) (tx_place : Int32) (ru_length : Int32) (ru_drafted : Int32) (ru_waits : Int32) (ru_open : Int32) (ru_compared : Int32) (ru_wantsThing : Int32) (ru_waiting : Nat → Int32) (ru_program : Nat → Int32) (ru_draft : Nat → Int32) (a_ru_draft : Nat) (a_ru_program : Nat) (H : Heap) (locs : List Loc) (ls : Array Slot), (ws_X7_read_27 post next tx_length tx_stop tx_signs) x2 tx_place ru_length ru_drafted ru_waits ru_open ru_compared ru_wantsThing ru_waiting ru_program ru_draft → va_P (dC, dI) classes (wd_X7_read cI cC cZ cB cJ a_tx a_tx_signs a_ru a_ru_given a_ru_waiting a_ru_stack a_ru_program a_ru_draft tx_length tx_place tx_stop tx_signs ru_length ru_drafted ru_waits ru_open ru_compared ru_wantsThing ru_waiting ru_program ru_draft) H → va_D A (wd_X7_read cI cC cZ cB cJ a_tx a_tx_signs a_ru a_ru_given a_ru_waiting a_ru_stack a_ru_program a_ru_draft tx_length tx_place tx_stop tx_signs ru_length ru_drafted ru_waits ru_open ru_compared ru_wantsThing ru_waiting ru_program ru_draft) → va_S A s.heap H locs → lv_has ls 3 [(0, .ref a_ru), (1, .ref a_tx), (2, .int x2)] → W p l e rm_X7_read s m args below meth c H locs 0 0 (MQ below (q_X7_read dC dI cI cC cZ cB cJ A a_tx a_tx_signs a_ru a_ru_given a_ru_waiting a_ru_stack tx_length tx_stop tx_signs post) args s 0 0 A) (F0 m 27 ls []) := by
  obtain ⟨hx, hb, hr, hml, hown, hts, hlocks, hA, hK, hN, tL, tM, hZL, hTL, hZM, hTM, hZX⟩ := id C0
  intro x2 tx_place ru_length ru_drafted ru_waits ru_open ru_compared ru_wantsThing ru_waiting ru_program ru_draft a_ru_draft a_ru_program H locs ls hp hP hD hS hl
  unfold ws_X7_read_27 at hp
  refine lv_iload_n hx hb eX7_read_26.2.1 rfl (lv_at hl 2 rfl) ?_
  refine lv_bipush (v := 40) hx hb eX7_read_26.2.2.1 (by decide) ?_
  refine lv_icmp_ge (tgt := 75) hx hb eX7_read_26.2.2.2.1 (by decide) (fun hc => ?_) (fun hc => ?_)
  · have hp := hp.1 hc
    exact ks_X7_read_75 C0 tx_place ru_length ru_drafted ru_waits ru_open ru_compared ru_wantsThing ru_waiting ru_program ru_draft a_ru_draft a_ru_program H locs ls hp hP hD hS (lv_sub hl [0, 1] rfl)
  · have hp := hp.2 hc
    refine lv_aload_n hx hb eX7_read_26.2.2.2.2.1 rfl (lv_at hl 1 rfl) ?_
    refine g_calli (wc := (wd_X8_here cI cC cZ cB cJ a_tx a_tx_signs tx_length tx_place tx_stop tx_signs)) hP hD hS hA [0, 1] [2, 3, 4, 5] rfl rfl rfl rfl (g_runV (As := []) (rest := []) C0 hP hD hS [0, 1] rfl rfl 0 8 rfl rfl (c_X8_here l dC dI cI cC cZ cB cJ a_tx a_tx_signs H.size tx_length tx_place tx_stop tx_signs _ hp) q_33 q_113 q_34 q_35 q_5 h_X8_here rfl rfl ⟨Nat.le_of_ble_eq_true rfl, Nat.le_of_ble_eq_true rfl⟩ rfl rfl hl.1 rfl (lv_room (Nat.le_of_ble_eq_true rfl)) eX7_read_26.2.2.2.2.2.1 ⟨Nat.zero_le _, Nat.zero_le _⟩) (fun r_5 u H locs hp hP hD hS => ?_)
    have hPD := PDs (ws' := (wd_X7_read cI cC cZ cB cJ a_tx a_tx_signs a_ru a_ru_given a_ru_waiting a_ru_stack a_ru_program a_ru_draft tx_length tx_place tx_stop tx_signs ru_length ru_drafted ru_waits ru_open ru_compared ru_wantsThing ru_waiting ru_program ru_draft)) hP hD [4, 5, 0, 1, 2, 3] (by decide) rfl
    have hP := hPD.1
    have hD := hPD.2
    refine lv_iconst (v := (-1)) hx hb eX7_read_26.2.2.2.2.2.2.1 (by decide) ?_
    refine lv_icmp_eq (tgt := 75) hx hb eX7_read_26.2.2.2.2.2.2.2.1 (by decide) (fun hc => ?_) (fun hc => ?_)
    · have hp := hp.1 hc
      exact ks_X7_read_75 C0 tx_place ru_length ru_drafted ru_waits ru_open ru_compared ru_wantsThing ru_waiting ru_program ru_draft a_ru_draft a_ru_program H locs ls hp hP hD hS (lv_sub hl [0, 1] rfl)
    · have hp := hp.2 hc
      refine lv_aload_n hx hb eX7_read_26.2.2.2.2.2.2.2.2.1 rfl (lv_at hl 0 rfl) ?_
      refine va_get (D := (dC, dI)) (ci := 7) (v := .int ru_wantsThing) (C := RX7) (T := TX7) (N := 11) hx hb hts i_X7 hown hK hP 2 rfl rfl 10 (Nat.le_of_ble_eq_true rfl) (hts _ q_112) (fun _ h9 => h9) rfl eX7_read_26.2.2.2.2.2.2.2.2.2.1 ?_
      refine lv_if_eq (tgt := 59) hx hb eX7_read_26.2.2.2.2.2.2.2.2.2.2.1 (by decide) (fun hc => ?_) (fun hc => ?_)
      · have hp := hp.1 hc
        refine lv_aload_n hx hb eX7_read_59.1 rfl (lv_at hl 0 rfl) ?_
        refine lv_aload_n hx hb eX7_read_59.2.1 rfl (lv_at hl 1 rfl) ?_
        refine g_calli (wc := (wd_X7_readBehindThing cI cC cZ cB cJ a_tx a_tx_signs a_ru a_ru_given a_ru_waiting a_ru_stack a_ru_program a_ru_draft tx_length tx_place tx_stop tx_signs ru_length ru_drafted ru_waits ru_open ru_compared ru_wantsThing ru_waiting ru_draft)) hP hD hS hA [0, 1, 2, 3, 5] [4] rfl rfl rfl rfl (g_runV (As := [.ref a_tx]) (rest := []) C0 hP hD hS [0, 1, 2, 3, 5] rfl rfl 2 7 rfl rfl (c_X7_readBehindThing l dC dI cI cC cZ cB cJ a_tx a_tx_signs a_ru a_ru_given a_ru_waiting a_ru_stack a_ru_program a_ru_draft H.size tx_length tx_place tx_stop tx_signs ru_length ru_drafted ru_waits ru_open ru_compared ru_wantsThing ru_waiting ru_draft _ hp) q_138 q_141 q_139 q_140 q_108 h_X7_readBehindThing rfl rfl ⟨Nat.le_of_ble_eq_true rfl, Nat.le_of_ble_eq_true rfl⟩ rfl rfl hl.1 rfl (lv_room (Nat.le_of_ble_eq_true rfl)) eX7_read_59.2.2.1 ⟨Nat.zero_le _, Nat.zero_le _⟩) (fun r_6 u H locs hp hP hD hS => ?_)
        obtain ⟨tx_place_7, ru_drafted_8, ru_waits_9, ru_open_10, ru_compared_11, ru_wantsThing_12, ru_waiting_13, ru_draft_14⟩ := u
        have hPD := PDs (ws' := (wd_X7_read cI cC cZ cB cJ a_tx a_tx_signs a_ru a_ru_given a_ru_waiting a_ru_stack a_ru_program a_ru_draft tx_length tx_place_7 tx_stop tx_signs ru_length ru_drafted_8 ru_waits_9 ru_open_10 ru_compared_11 ru_wantsThing_12 ru_waiting_13 ru_program ru_draft_14)) hP hD [1, 2, 3, 4, 0, 5] (by decide) rfl
        have hP := hPD.1
        have hD := hPD.2
        refine lv_if_ne (tgt := 69) hx hb eX7_read_59.2.2.2.1 (by decide) (fun hc => ?_) (fun hc => ?_)
        · have hp := hp.1 hc
          exact ks_X7_read_69 C0 hKn x2 tx_place_7 ru_length ru_drafted_8 ru_waits_9 ru_open_10 ru_compared_11 ru_wantsThing_12 ru_waiting_13 ru_program ru_draft_14 a_ru_draft a_ru_program H locs ls hp hP hD hS (lv_sub hl [0, 1, 2] rfl)
        · have hp := hp.2 hc
          refine lv_iconst (v := 0) hx hb eX7_read_59.2.2.2.2.1 (by decide) ?_
          exact W.zret (v := 0) hx hb hr rfl (fun t ht hW => ⟨⟨0, (tx_place_7, ru_length, ru_drafted_8, ru_waits_9, ru_open_10, ru_compared_11, ru_wantsThing_12, ru_waiting_13, ru_program, ru_draft_14, a_ru_draft, a_ru_program), rfl, hp, by rw [ht]; exact hP, va_K.moved hW.alike hK, hD⟩, hS.F ht⟩) hS.2.2 eX7_read_59.2.2.2.2.2.1
      · have hp := hp.2 hc
        refine lv_aload_n hx hb eX7_read_26.2.2.2.2.2.2.2.2.2.2.2.1 rfl (lv_at hl 0 rfl) ?_
        refine lv_aload_n hx hb eX7_read_26.2.2.2.2.2.2.2.2.2.2.2.2.1 rfl (lv_at hl 1 rfl) ?_
        refine g_calli (wc := (wd_X7_readThing cI cC cZ cB cJ a_tx a_tx_signs a_ru a_ru_given a_ru_waiting a_ru_stack a_ru_program a_ru_draft tx_length tx_place tx_stop tx_signs ru_length ru_drafted ru_waits ru_open ru_compared ru_wantsThing ru_waiting ru_draft)) hP hD hS hA [0, 1, 2, 3, 5] [4] rfl rfl rfl rfl (g_runV (As := [.ref a_tx]) (rest := []) C0 hP hD hS [0, 1, 2, 3, 5] rfl rfl 2 7 rfl rfl (c_X7_readThing l dC dI cI cC cZ cB cJ a_tx a_tx_signs a_ru a_ru_given a_ru_waiting a_ru_stack a_ru_program a_ru_draft H.size tx_length tx_place tx_stop tx_signs ru_length ru_drafted ru_waits ru_open ru_compared ru_wantsThing ru_waiting ru_draft _ hp) q_142 q_145 q_143 q_144 q_108 h_X7_readThing rfl rfl ⟨Nat.le_of_ble_eq_true rfl, Nat.le_of_ble_eq_true rfl⟩ rfl rfl hl.1 rfl (lv_room (Nat.le_of_ble_eq_true rfl)) eX7_read_26.2.2.2.2.2.2.2.2.2.2.2.2.2.1 ⟨Nat.zero_le _, Nat.zero_le _⟩) (fun r_16 u H locs hp hP hD hS => ?_)
        obtain ⟨tx_place_17, ru_drafted_18, ru_waits_19, ru_open_20, ru_compared_21, ru_wantsThing_22, ru_waiting_23, ru_draft_24⟩ := u
        have hPD := PDs (ws' := (wd_X7_read cI cC cZ cB cJ a_tx a_tx_signs a_ru a_ru_given a_ru_waiting a_ru_stack a_ru_program a_ru_draft tx_length tx_place_17 tx_stop tx_signs ru_length ru_drafted_18 ru_waits_19 ru_open_20 ru_compared_21 ru_wantsThing_22 ru_waiting_23 ru_program ru_draft_24)) hP hD [1, 2, 3, 4, 0, 5] (by decide) rfl
        have hP := hPD.1
        have hD := hPD.2
        refine lv_if_eq (tgt := 67) hx hb eX7_read_26.2.2.2.2.2.2.2.2.2.2.2.2.2.2.1 (by decide) (fun hc => ?_) (fun hc => ?_)
        · have hp := hp.1 hc
          refine lv_iconst (v := 0) hx hb eX7_read_59.2.2.2.2.1 (by decide) ?_
          exact W.zret (v := 0) hx hb hr rfl (fun t ht hW => ⟨⟨0, (tx_place_17, ru_length, ru_drafted_18, ru_waits_19, ru_open_20, ru_compared_21, ru_wantsThing_22, ru_waiting_23, ru_program, ru_draft_24, a_ru_draft, a_ru_program), rfl, hp, by rw [ht]; exact hP, va_K.moved hW.alike hK, hD⟩, hS.F ht⟩) hS.2.2 eX7_read_59.2.2.2.2.2.1
        · have hp := hp.2 hc
          refine lv_goto (tgt := 69) hx hb eX7_read_26.2.2.2.2.2.2.2.2.2.2.2.2.2.2.2 (by decide) ?_
          exact ks_X7_read_69 C0 hKn x2 tx_place_17 ru_length ru_drafted_18 ru_waits_19 ru_open_20 ru_compared_21 ru_wantsThing_22 ru_waiting_23 ru_program ru_draft_24 a_ru_draft a_ru_program H locs ls hp hP hD hS (lv_sub hl [0, 1, 2] rfl)
set_option maxHeartbeats 4000000 in
set_option maxRecDepth 100000 in
theorem kb_X7_read_27 (C0 : gc cX7_read (some .boolean) 3 RX7 (dC, dI) (tyl cI cC cZ cB cJ) A p s m args meth c) : ∀ (n : Nat), ∀ (x2 : Int32) (tx_place : Int32) (ru_length : Int32) (ru_drafted : Int32) (ru_waits : Int32) (ru_open : Int32) (ru_compared : Int32) (ru_wantsThing : Int32) (ru_waiting : Nat → Int32) (ru_program : Nat → Int32) (ru_draft : Nat → Int32) (a_ru_draft : Nat) (a_ru_program : Nat) (H : Heap) (locs : List Loc) (ls : Array Slot), (wb_X7_read_27 post tx_length tx_stop tx_signs n) x2 tx_place ru_length ru_drafted ru_waits ru_open ru_compared ru_wantsThing ru_waiting ru_program ru_draft → va_P (dC, dI) classes (wd_X7_read cI cC cZ cB cJ a_tx a_tx_signs a_ru a_ru_given a_ru_waiting a_ru_stack a_ru_program a_ru_draft tx_length tx_place tx_stop tx_signs ru_length ru_drafted ru_waits ru_open ru_compared ru_wantsThing ru_waiting ru_program ru_draft) H → va_D A (wd_X7_read cI cC cZ cB cJ a_tx a_tx_signs a_ru a_ru_given a_ru_waiting a_ru_stack a_ru_program a_ru_draft tx_length tx_place tx_stop tx_signs ru_length ru_drafted ru_waits ru_open ru_compared ru_wantsThing ru_waiting ru_program ru_draft) → va_S A s.heap H locs → lv_has ls 3 [(0, .ref a_ru), (1, .ref a_tx), (2, .int x2)] → W p l e rm_X7_read s m args below meth c H locs 0 0 (MQ below (q_X7_read dC dI cI cC cZ cB cJ A a_tx a_tx_signs a_ru a_ru_given a_ru_waiting a_ru_stack tx_length tx_stop tx_signs post) args s 0 0 A) (F0 m 27 ls []) := by
  intro n
  induction n with
  | zero =>
    intro x2 tx_place ru_length ru_drafted ru_waits ru_open ru_compared ru_wantsThing ru_waiting ru_program ru_draft a_ru_draft a_ru_program H locs ls hp
    exact False.elim hp
  | succ n ih =>
    intro x2 tx_place ru_length ru_drafted ru_waits ru_open ru_compared ru_wantsThing ru_waiting ru_program ru_draft a_ru_draft a_ru_program H locs ls hp
    exact ks_X7_read_27 C0 ih x2 tx_place ru_length ru_drafted ru_waits ru_open ru_compared ru_wantsThing ru_waiting ru_program ru_draft a_ru_draft a_ru_program H locs ls hp
end S_X7_read
def wp_X7_read (post : Int32 → Int32 → Int32 → Int32 → Int32 → Int32 → Int32 → Int32 → (Nat → Int32) → (Nat → Int32) → (Nat → Int32) → Prop) (tx_length : Int32) (tx_place : Int32) (tx_stop : Int32) (tx_signs : Nat → Int32) (ru_length : Int32) (ru_drafted : Int32) (ru_waits : Int32) (ru_open : Int32) (ru_compared : Int32) (ru_wantsThing : Int32) (ru_waiting : Nat → Int32) (ru_program : Nat → Int32) (ru_draft : Nat → Int32) : Prop := ∃ n : Nat, wb_X7_read_27 post tx_length tx_stop tx_signs n 0 tx_place ru_length 0 0 0 0 1 ru_waiting ru_program ru_draft
set_option maxHeartbeats 4000000 in
set_option maxRecDepth 100000 in
theorem c_X7_read (l : Launch) (dC : Nat → ClassId) (dI : Nat → Nat → Nat) (cI cC cZ cB cJ : ClassId) (a_tx : Nat) (a_tx_signs : Nat) (a_ru : Nat) (a_ru_given : Nat) (a_ru_waiting : Nat) (a_ru_stack : Nat) (a_ru_program : Nat) (a_ru_draft : Nat) (sz : Nat) (tx_length : Int32) (tx_place : Int32) (tx_stop : Int32) (tx_signs : Nat → Int32) (ru_length : Int32) (ru_drafted : Int32) (ru_waits : Int32) (ru_open : Int32) (ru_compared : Int32) (ru_wantsThing : Int32) (ru_waiting : Nat → Int32) (ru_program : Nat → Int32) (ru_draft : Nat → Int32) (post : Int32 → Int32 → Int32 → Int32 → Int32 → Int32 → Int32 → Int32 → (Nat → Int32) → (Nat → Int32) → (Nat → Int32) → Prop) (hw : wp_X7_read post tx_length tx_place tx_stop tx_signs ru_length ru_drafted ru_waits ru_open ru_compared ru_wantsThing ru_waiting ru_program ru_draft) : Met l yX7_read (gw yX7_read cX7_read 3 (some .boolean)) rm_X7_read (va_Pc [.ref a_ru, .ref a_tx] (gPre (dC, dI) (tyl cI cC cZ cB cJ) (wd_X7_read cI cC cZ cB cJ a_tx a_tx_signs a_ru a_ru_given a_ru_waiting a_ru_stack a_ru_program a_ru_draft tx_length tx_place tx_stop tx_signs ru_length ru_drafted ru_waits ru_open ru_compared ru_wantsThing ru_waiting ru_program ru_draft) sz)) (q_X7_read dC dI cI cC cZ cB cJ (va_A (wd_X7_read cI cC cZ cB cJ a_tx a_tx_signs a_ru a_ru_given a_ru_waiting a_ru_stack a_ru_program a_ru_draft tx_length tx_place tx_stop tx_signs ru_length ru_drafted ru_waits ru_open ru_compared ru_wantsThing ru_waiting ru_program ru_draft) sz) a_tx a_tx_signs a_ru a_ru_given a_ru_waiting a_ru_stack tx_length tx_stop tx_signs post) 0 0 (va_A (wd_X7_read cI cC cZ cB cJ a_tx a_tx_signs a_ru a_ru_given a_ru_waiting a_ru_stack a_ru_program a_ru_draft tx_length tx_place tx_stop tx_signs ru_length ru_drafted ru_waits ru_open ru_compared ru_wantsThing ru_waiting ru_program ru_draft) sz) := by
  refine g_enter (own := RX7) (dC, dI) (tyl cI cC cZ cB cJ) (wd_X7_read cI cC cZ cB cJ a_tx a_tx_signs a_ru a_ru_given a_ru_waiting a_ru_stack a_ru_program a_ru_draft tx_length tx_place tx_stop tx_signs ru_length ru_drafted ru_waits ru_open ru_compared ru_wantsThing ru_waiting ru_program ru_draft) sz [.ref a_ru, .ref a_tx] (fun A => q_X7_read dC dI cI cC cZ cB cJ A a_tx a_tx_signs a_ru a_ru_given a_ru_waiting a_ru_stack tx_length tx_stop tx_signs post) (by decide) rfl (Nat.le_of_ble_eq_true rfl) ?_
  intro p e s m args below meth c A H locs ls C0 hP hD hS hl
  have hl : lv_has ls 3 [(0, .ref a_ru), (1, .ref a_tx)] := hl
  obtain ⟨hx, hb, hr, hml, hown, hts, hlocks, hA, hK, hN, tL, tM, hZL, hTL, hZM, hTM, hZX⟩ := id C0
  have hp := hw
  unfold wp_X7_read at hp
  refine lv_aload_n hx hb eX7_read_0.1 rfl (lv_at hl 0 rfl) ?_
  refine lv_iconst (v := 0) hx hb eX7_read_0.2.1 (by decide) ?_
  refine va_put (D := (dC, dI)) (ci := 7) (v := .int 0) (ty := .int) (C := RX7) (T := TX7) (N := 11) hx hb hts i_X7 tyX7 tyX7_ok nmX7 hown hK hP hD hS 2 rfl rfl 6 (Nat.le_of_ble_eq_true rfl) (hts _ q_104) (fun _ h9 => h9) rfl (tyX7_ok 6 (Nat.le_of_ble_eq_true rfl)) rfl rfl (Nat.le_of_ble_eq_true rfl) eX7_read_0.2.2.1 (fun H locs hP hD hS => ?_)
  have hP : va_P (dC, dI) classes (wd_X7_read cI cC cZ cB cJ a_tx a_tx_signs a_ru a_ru_given a_ru_waiting a_ru_stack a_ru_program a_ru_draft tx_length tx_place tx_stop tx_signs ru_length 0 ru_waits ru_open ru_compared ru_wantsThing ru_waiting ru_program ru_draft) H := hP
  have hD : va_D A (wd_X7_read cI cC cZ cB cJ a_tx a_tx_signs a_ru a_ru_given a_ru_waiting a_ru_stack a_ru_program a_ru_draft tx_length tx_place tx_stop tx_signs ru_length 0 ru_waits ru_open ru_compared ru_wantsThing ru_waiting ru_program ru_draft) := hD
  refine lv_aload_n hx hb eX7_read_0.2.2.2.1 rfl (lv_at hl 0 rfl) ?_
  refine lv_iconst (v := 0) hx hb eX7_read_0.2.2.2.2.1 (by decide) ?_
  refine va_put (D := (dC, dI)) (ci := 7) (v := .int 0) (ty := .int) (C := RX7) (T := TX7) (N := 11) hx hb hts i_X7 tyX7 tyX7_ok nmX7 hown hK hP hD hS 2 rfl rfl 7 (Nat.le_of_ble_eq_true rfl) (hts _ q_102) (fun _ h9 => h9) rfl (tyX7_ok 7 (Nat.le_of_ble_eq_true rfl)) rfl rfl (Nat.le_of_ble_eq_true rfl) eX7_read_0.2.2.2.2.2.1 (fun H locs hP hD hS => ?_)
  have hP : va_P (dC, dI) classes (wd_X7_read cI cC cZ cB cJ a_tx a_tx_signs a_ru a_ru_given a_ru_waiting a_ru_stack a_ru_program a_ru_draft tx_length tx_place tx_stop tx_signs ru_length 0 0 ru_open ru_compared ru_wantsThing ru_waiting ru_program ru_draft) H := hP
  have hD : va_D A (wd_X7_read cI cC cZ cB cJ a_tx a_tx_signs a_ru a_ru_given a_ru_waiting a_ru_stack a_ru_program a_ru_draft tx_length tx_place tx_stop tx_signs ru_length 0 0 ru_open ru_compared ru_wantsThing ru_waiting ru_program ru_draft) := hD
  refine lv_aload_n hx hb eX7_read_0.2.2.2.2.2.2.1 rfl (lv_at hl 0 rfl) ?_
  refine lv_iconst (v := 0) hx hb eX7_read_0.2.2.2.2.2.2.2.1 (by decide) ?_
  refine va_put (D := (dC, dI)) (ci := 7) (v := .int 0) (ty := .int) (C := RX7) (T := TX7) (N := 11) hx hb hts i_X7 tyX7 tyX7_ok nmX7 hown hK hP hD hS 2 rfl rfl 8 (Nat.le_of_ble_eq_true rfl) (hts _ q_120) (fun _ h9 => h9) rfl (tyX7_ok 8 (Nat.le_of_ble_eq_true rfl)) rfl rfl (Nat.le_of_ble_eq_true rfl) eX7_read_0.2.2.2.2.2.2.2.2.1 (fun H locs hP hD hS => ?_)
  have hP : va_P (dC, dI) classes (wd_X7_read cI cC cZ cB cJ a_tx a_tx_signs a_ru a_ru_given a_ru_waiting a_ru_stack a_ru_program a_ru_draft tx_length tx_place tx_stop tx_signs ru_length 0 0 0 ru_compared ru_wantsThing ru_waiting ru_program ru_draft) H := hP
  have hD : va_D A (wd_X7_read cI cC cZ cB cJ a_tx a_tx_signs a_ru a_ru_given a_ru_waiting a_ru_stack a_ru_program a_ru_draft tx_length tx_place tx_stop tx_signs ru_length 0 0 0 ru_compared ru_wantsThing ru_waiting ru_program ru_draft) := hD
  refine lv_aload_n hx hb eX7_read_0.2.2.2.2.2.2.2.2.2.1 rfl (lv_at hl 0 rfl) ?_
  refine lv_iconst (v := 0) hx hb eX7_read_0.2.2.2.2.2.2.2.2.2.2.1 (by decide) ?_
  refine va_put (D := (dC, dI)) (ci := 7) (v := .int 0) (ty := .int) (C := RX7) (T := TX7) (N := 11) hx hb hts i_X7 tyX7 tyX7_ok nmX7 hown hK hP hD hS 2 rfl rfl 9 (Nat.le_of_ble_eq_true rfl) (hts _ q_121) (fun _ h9 => h9) rfl (tyX7_ok 9 (Nat.le_of_ble_eq_true rfl)) rfl rfl (Nat.le_of_ble_eq_true rfl) eX7_read_0.2.2.2.2.2.2.2.2.2.2.2.1 (fun H locs hP hD hS => ?_)
  have hP : va_P (dC, dI) classes (wd_X7_read cI cC cZ cB cJ a_tx a_tx_signs a_ru a_ru_given a_ru_waiting a_ru_stack a_ru_program a_ru_draft tx_length tx_place tx_stop tx_signs ru_length 0 0 0 0 ru_wantsThing ru_waiting ru_program ru_draft) H := hP
  have hD : va_D A (wd_X7_read cI cC cZ cB cJ a_tx a_tx_signs a_ru a_ru_given a_ru_waiting a_ru_stack a_ru_program a_ru_draft tx_length tx_place tx_stop tx_signs ru_length 0 0 0 0 ru_wantsThing ru_waiting ru_program ru_draft) := hD
  refine lv_aload_n hx hb eX7_read_0.2.2.2.2.2.2.2.2.2.2.2.2.1 rfl (lv_at hl 0 rfl) ?_
  refine lv_iconst (v := 1) hx hb eX7_read_0.2.2.2.2.2.2.2.2.2.2.2.2.2.1 (by decide) ?_
  refine va_put (D := (dC, dI)) (ci := 7) (v := .int 1) (ty := .boolean) (C := RX7) (T := TX7) (N := 11) hx hb hts i_X7 tyX7 tyX7_ok nmX7 hown hK hP hD hS 2 rfl rfl 10 (Nat.le_of_ble_eq_true rfl) (hts _ q_112) (fun _ h9 => h9) rfl (tyX7_ok 10 (Nat.le_of_ble_eq_true rfl)) rfl rfl (Nat.le_of_ble_eq_true rfl) eX7_read_0.2.2.2.2.2.2.2.2.2.2.2.2.2.2.1 (fun H locs hP hD hS => ?_)
  have hP : va_P (dC, dI) classes (wd_X7_read cI cC cZ cB cJ a_tx a_tx_signs a_ru a_ru_given a_ru_waiting a_ru_stack a_ru_program a_ru_draft tx_length tx_place tx_stop tx_signs ru_length 0 0 0 0 1 ru_waiting ru_program ru_draft) H := hP
  have hD : va_D A (wd_X7_read cI cC cZ cB cJ a_tx a_tx_signs a_ru a_ru_given a_ru_waiting a_ru_stack a_ru_program a_ru_draft tx_length tx_place tx_stop tx_signs ru_length 0 0 0 0 1 ru_waiting ru_program ru_draft) := hD
  refine lv_iconst (v := 0) hx hb eX7_read_0.2.2.2.2.2.2.2.2.2.2.2.2.2.2.2 (by decide) ?_
  refine lv_istore_n (lv' := [(2, .int 0), (0, .ref a_ru), (1, .ref a_tx)]) hx hb eX7_read_26.1 rfl hl (by decide) rfl (fun ls hl => ?_)
  obtain ⟨n9, hp⟩ := hp
  exact kb_X7_read_27 C0 n9 0 tx_place ru_length 0 0 0 0 1 ru_waiting ru_program ru_draft a_ru_draft a_ru_program H locs ls hp hP hD hS (lv_sub hl [1, 2, 0] rfl)
