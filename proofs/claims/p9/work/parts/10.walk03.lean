abbrev wd_X9_rule (cI cC cZ cB cJ : ClassId) (a_x : Nat) (a_tx : Nat) (a_pl : Nat) (a_ga : Nat) (a_tr : Nat) (a_no : Nat) (a_pa : Nat) (a_ro : Nat) (a_mk : Nat) (a_x_acts : Nat) (a_tx_signs : Nat) (a_ru : Nat) (a_ru_given : Nat) (a_ru_waiting : Nat) (a_ru_stack : Nat) (a_ru_program : Nat) (a_ru_draft : Nat) (tx_length : Int32) (tx_place : Int32) (tx_stop : Int32) (tx_signs : Nat → Int32) (ru_length : Int32) (ru_drafted : Int32) (ru_waits : Int32) (ru_open : Int32) (ru_compared : Int32) (ru_wantsThing : Int32) (ru_waiting : Nat → Int32) (ru_program : Nat → Int32) (ru_draft : Nat → Int32) : va_W := [(a_x, .inr (9, [.ref a_tx, .ref a_pl, .ref a_ga, .ref a_tr, .ref a_no, .ref a_pa, .ref a_ro, .ref a_mk, .ref a_x_acts])), (a_tx, .inr (8, [.ref a_tx_signs, .int tx_length, .int tx_place, .int tx_stop])), (a_tx_signs, .inl (cC, 80, .inl tx_signs)), (a_ga, .inr (0, [.ref a_tr, .ref a_no, .ref a_ru])), (a_ru, .inr (7, [.ref a_ru_given, .ref a_ru_waiting, .ref a_ru_stack, .ref a_ru_program, .ref a_ru_draft, .int ru_length, .int ru_drafted, .int ru_waits, .int ru_open, .int ru_compared, .int ru_wantsThing])), (a_ru_waiting, .inl (cI, 40, .inl ru_waiting)), (a_ru_program, .inl (cI, 40, .inl ru_program)), (a_ru_draft, .inl (cI, 40, .inl ru_draft))]
abbrev q_X9_rule (dC : Nat → ClassId) (dI : Nat → Nat → Nat) (cI cC cZ cB cJ : ClassId) (A : Nat → Prop) (a_x : Nat) (a_tx : Nat) (a_pl : Nat) (a_ga : Nat) (a_tr : Nat) (a_no : Nat) (a_pa : Nat) (a_ro : Nat) (a_mk : Nat) (a_x_acts : Nat) (a_tx_signs : Nat) (a_ru : Nat) (a_ru_given : Nat) (a_ru_waiting : Nat) (a_ru_stack : Nat) (tx_signs : Nat → Int32) (post : Int32 → Int32 → Int32 → Int32 → Int32 → Int32 → Int32 → Int32 → Int32 → Int32 → (Nat → Int32) → (Nat → Int32) → (Nat → Int32) → Prop) : Array Value → State → Outcome → State → Prop := va_Qi (fun (r : Int32) (u : Int32 × Int32 × Int32 × Int32 × Int32 × Int32 × Int32 × Int32 × Int32 × (Nat → Int32) × (Nat → Int32) × (Nat → Int32) × Nat × Nat) => post r u.1 u.2.1 u.2.2.1 u.2.2.2.1 u.2.2.2.2.1 u.2.2.2.2.2.1 u.2.2.2.2.2.2.1 u.2.2.2.2.2.2.2.1 u.2.2.2.2.2.2.2.2.1 u.2.2.2.2.2.2.2.2.2.1 u.2.2.2.2.2.2.2.2.2.2.1 u.2.2.2.2.2.2.2.2.2.2.2.1) (fun u t => gB (dC, dI) (tyl cI cC cZ cB cJ) A (wd_X9_rule cI cC cZ cB cJ a_x a_tx a_pl a_ga a_tr a_no a_pa a_ro a_mk a_x_acts a_tx_signs a_ru a_ru_given a_ru_waiting a_ru_stack u.2.2.2.2.2.2.2.2.2.2.2.2.2 u.2.2.2.2.2.2.2.2.2.2.2.2.1 u.1 u.2.1 u.2.2.1 tx_signs u.2.2.2.1 u.2.2.2.2.1 u.2.2.2.2.2.1 u.2.2.2.2.2.2.1 u.2.2.2.2.2.2.2.1 u.2.2.2.2.2.2.2.2.1 u.2.2.2.2.2.2.2.2.2.1 u.2.2.2.2.2.2.2.2.2.2.1 u.2.2.2.2.2.2.2.2.2.2.2.1) t) A
abbrev rm_X9_rule : Room := { frames := 7, cells := 0, slots := 0, locals := 178 }
section S_X9_rule
variable {p : Program} {l : Launch} {e : Env} {s : State} {m : MethodId} {args : Array Value} {below : List Frame} {meth : Method} {c : Code} {dC : Nat → ClassId} {dI : Nat → Nat → Nat} {cI cC cZ cB cJ : ClassId} {A : Nat → Prop} {a_x : Nat} {a_tx : Nat} {a_pl : Nat} {a_ga : Nat} {a_tr : Nat} {a_no : Nat} {a_pa : Nat} {a_ro : Nat} {a_mk : Nat} {a_x_acts : Nat} {a_tx_signs : Nat} {a_ru : Nat} {a_ru_given : Nat} {a_ru_waiting : Nat} {a_ru_stack : Nat} {tx_signs : Nat → Int32} {post : Int32 → Int32 → Int32 → Int32 → Int32 → Int32 → Int32 → Int32 → Int32 → Int32 → (Nat → Int32) → (Nat → Int32) → (Nat → Int32) → Prop}
def ws_X9_rule_59 (post : Int32 → Int32 → Int32 → Int32 → Int32 → Int32 → Int32 → Int32 → Int32 → Int32 → (Nat → Int32) → (Nat → Int32) → (Nat → Int32) → Prop) (tx_signs : Nat → Int32) (x1 : Int32) (tx_length : Int32) (tx_place : Int32) (tx_stop : Int32) (ru_length : Int32) (ru_drafted : Int32) (ru_waits : Int32) (ru_open : Int32) (ru_compared : Int32) (ru_wantsThing : Int32) (ru_waiting : Nat → Int32) (ru_program : Nat → Int32) (ru_draft : Nat → Int32) : Prop := wp_X8_clear (fun tx_length_16 => post x1 tx_length_16 tx_place tx_stop ru_length ru_drafted ru_waits ru_open ru_compared ru_wantsThing ru_waiting ru_program ru_draft) tx_length
set_option maxHeartbeats 4000000 in
set_option maxRecDepth 100000 in
theorem ks_X9_rule_59 (C0 : gc cX9_rule (some .int) 2 RX9 (dC, dI) (tyl cI cC cZ cB cJ) A p s m args meth c) : ∀ (x1 : Int32) (tx_length : Int32) (tx_place : Int32) (tx_stop : Int32) (ru_length : Int32) (ru_drafted : Int32) (ru_waits : Int32) (ru_open : Int32) (ru_compared : Int32) (ru_wantsThing : Int32) (ru_waiting : Nat → Int32) (ru_program : Nat → Int32) (ru_draft : Nat → Int32) (a_ru_draft : Nat) (a_ru_program : Nat) (H : Heap) (locs : List Loc) (ls : Array Slot), (ws_X9_rule_59 post tx_signs) x1 tx_length tx_place tx_stop ru_length ru_drafted ru_waits ru_open ru_compared ru_wantsThing ru_waiting ru_program ru_draft → va_P (dC, dI) classes (wd_X9_rule cI cC cZ cB cJ a_x a_tx a_pl a_ga a_tr a_no a_pa a_ro a_mk a_x_acts a_tx_signs a_ru a_ru_given a_ru_waiting a_ru_stack a_ru_program a_ru_draft tx_length tx_place tx_stop tx_signs ru_length ru_drafted ru_waits ru_open ru_compared ru_wantsThing ru_waiting ru_program ru_draft) H → va_D A (wd_X9_rule cI cC cZ cB cJ a_x a_tx a_pl a_ga a_tr a_no a_pa a_ro a_mk a_x_acts a_tx_signs a_ru a_ru_given a_ru_waiting a_ru_stack a_ru_program a_ru_draft tx_length tx_place tx_stop tx_signs ru_length ru_drafted ru_waits ru_open ru_compared ru_wantsThing ru_waiting ru_program ru_draft) → va_S A s.heap H locs → lv_has ls 2 [(0, .ref a_x), (1, .int x1)] → W p l e rm_X9_rule s m args below meth c H locs 0 0 (MQ below (q_X9_rule dC dI cI cC cZ cB cJ A a_x a_tx a_pl a_ga a_tr a_no a_pa a_ro a_mk a_x_acts a_tx_signs a_ru a_ru_given a_ru_waiting a_ru_stack tx_signs post) args s 0 0 A) (F0 m 59 ls []) := by
  obtain ⟨hx, hb, hr, hml, hown, hts, hlocks, hA, hK, hN, tL, tM, hZL, hTL, hZM, hTM, hZX⟩ := id C0
  intro x1 tx_length tx_place tx_stop ru_length ru_drafted ru_waits ru_open ru_compared ru_wantsThing ru_waiting ru_program ru_draft a_ru_draft a_ru_program H locs ls hp hP hD hS hl
  unfold ws_X9_rule_59 at hp
  refine lv_aload_n hx hb eX9_rule_35.2.2.2.2.2.2.2.2.2.2.1 rfl (lv_at hl 0 rfl) ?_
  refine va_get (D := (dC, dI)) (ci := 9) (v := .ref a_tx) (C := RX9) (T := TX9) (N := 9) hx hb hts i_X9 hown hK hP 0 rfl rfl 0 (Nat.le_of_ble_eq_true rfl) (hts _ q_3) (fun _ h9 => h9) rfl eX9_rule_35.2.2.2.2.2.2.2.2.2.2.2.1 ?_
  refine g_callv (wc := (wd_X8_clear cI cC cZ cB cJ a_tx a_tx_signs tx_length tx_place tx_stop)) hP hD hS hA [1] [0, 2, 3, 4, 5, 6, 7] rfl rfl rfl rfl (g_runV (As := []) (rest := []) C0 hP hD hS [1] rfl rfl 1 8 rfl rfl (c_X8_clear l dC dI cI cC cZ cB cJ a_tx a_tx_signs H.size tx_length tx_place tx_stop _ hp) q_83 q_86 q_84 q_85 q_5 h_X8_clear rfl rfl ⟨Nat.le_of_ble_eq_true rfl, Nat.le_of_ble_eq_true rfl⟩ rfl rfl hl.1 rfl (lv_room (Nat.le_of_ble_eq_true rfl)) eX9_rule_35.2.2.2.2.2.2.2.2.2.2.2.2.1 ⟨Nat.zero_le _, Nat.zero_le _⟩) (fun u H locs hp hP hD hS => ?_)
  obtain ⟨tx_length_16, rfl⟩ : ∃ z, z = u := ⟨_, rfl⟩
  have hPD := PDs (ws' := (wd_X9_rule cI cC cZ cB cJ a_x a_tx a_pl a_ga a_tr a_no a_pa a_ro a_mk a_x_acts a_tx_signs a_ru a_ru_given a_ru_waiting a_ru_stack a_ru_program a_ru_draft tx_length_16 tx_place tx_stop tx_signs ru_length ru_drafted ru_waits ru_open ru_compared ru_wantsThing ru_waiting ru_program ru_draft)) hP hD [0, 7, 1, 2, 3, 4, 5, 6] (by decide) rfl
  have hP := hPD.1
  have hD := hPD.2
  refine lv_iload_n hx hb eX9_rule_35.2.2.2.2.2.2.2.2.2.2.2.2.2.1 rfl (lv_at hl 1 rfl) ?_
  exact W.iret (v := x1) hx hb hr (fun t ht hW => ⟨⟨x1, (tx_length_16, tx_place, tx_stop, ru_length, ru_drafted, ru_waits, ru_open, ru_compared, ru_wantsThing, ru_waiting, ru_program, ru_draft, a_ru_draft, a_ru_program), rfl, hp, by rw [ht]; exact hP, va_K.moved hW.alike hK, hD⟩, hS.F ht⟩) hS.2.2 eX9_rule_35.2.2.2.2.2.2.2.2.2.2.2.2.2.2
end S_X9_rule
def wp_X9_rule (post : Int32 → Int32 → Int32 → Int32 → Int32 → Int32 → Int32 → Int32 → Int32 → Int32 → (Nat → Int32) → (Nat → Int32) → (Nat → Int32) → Prop) (tx_length : Int32) (tx_place : Int32) (tx_stop : Int32) (tx_signs : Nat → Int32) (ru_length : Int32) (ru_drafted : Int32) (ru_waits : Int32) (ru_open : Int32) (ru_compared : Int32) (ru_wantsThing : Int32) (ru_waiting : Nat → Int32) (ru_program : Nat → Int32) (ru_draft : Nat → Int32) : Prop := wp_X8_open (fun tx_place_1 tx_stop_2 => (¬ tx_length = 0 → wp_X7_read (fun r_3 tx_place_4 ru_length_5 ru_drafted_6 ru_waits_7 ru_open_8 ru_compared_9 ru_wantsThing_10 ru_waiting_11 ru_program_12 ru_draft_13 => (¬ r_3 = 0 → ws_X9_rule_59 post tx_signs 0 tx_length tx_place_4 tx_stop_2 ru_length_5 ru_drafted_6 ru_waits_7 ru_open_8 ru_compared_9 ru_wantsThing_10 ru_waiting_11 ru_program_12 ru_draft_13) ∧ (r_3 = 0 → wp_X8_wrong (fun r_17 => ws_X9_rule_59 post tx_signs r_17 tx_length tx_place_4 tx_stop_2 ru_length_5 ru_drafted_6 ru_waits_7 ru_open_8 ru_compared_9 ru_wantsThing_10 ru_waiting_11 ru_program_12 ru_draft_13) tx_place_4)) tx_length tx_place_1 tx_stop_2 tx_signs ru_length ru_drafted ru_waits ru_open ru_compared ru_wantsThing ru_waiting ru_program ru_draft) ∧ (tx_length = 0 → wp_X7_drop (fun ru_length_18 => ws_X9_rule_59 post tx_signs 0 tx_length tx_place_1 tx_stop_2 ru_length_18 ru_drafted ru_waits ru_open ru_compared ru_wantsThing ru_waiting ru_program ru_draft) ru_length)) 40 tx_length tx_place tx_stop
set_option maxHeartbeats 4000000 in
set_option maxRecDepth 100000 in
theorem c_X9_rule (l : Launch) (dC : Nat → ClassId) (dI : Nat → Nat → Nat) (cI cC cZ cB cJ : ClassId) (a_x : Nat) (a_tx : Nat) (a_pl : Nat) (a_ga : Nat) (a_tr : Nat) (a_no : Nat) (a_pa : Nat) (a_ro : Nat) (a_mk : Nat) (a_x_acts : Nat) (a_tx_signs : Nat) (a_ru : Nat) (a_ru_given : Nat) (a_ru_waiting : Nat) (a_ru_stack : Nat) (a_ru_program : Nat) (a_ru_draft : Nat) (sz : Nat) (tx_length : Int32) (tx_place : Int32) (tx_stop : Int32) (tx_signs : Nat → Int32) (ru_length : Int32) (ru_drafted : Int32) (ru_waits : Int32) (ru_open : Int32) (ru_compared : Int32) (ru_wantsThing : Int32) (ru_waiting : Nat → Int32) (ru_program : Nat → Int32) (ru_draft : Nat → Int32) (post : Int32 → Int32 → Int32 → Int32 → Int32 → Int32 → Int32 → Int32 → Int32 → Int32 → (Nat → Int32) → (Nat → Int32) → (Nat → Int32) → Prop) (hw : wp_X9_rule post tx_length tx_place tx_stop tx_signs ru_length ru_drafted ru_waits ru_open ru_compared ru_wantsThing ru_waiting ru_program ru_draft) : Met l yX9_rule (gw yX9_rule cX9_rule 2 (some .int)) rm_X9_rule (va_Pc [.ref a_x] (gPre (dC, dI) (tyl cI cC cZ cB cJ) (wd_X9_rule cI cC cZ cB cJ a_x a_tx a_pl a_ga a_tr a_no a_pa a_ro a_mk a_x_acts a_tx_signs a_ru a_ru_given a_ru_waiting a_ru_stack a_ru_program a_ru_draft tx_length tx_place tx_stop tx_signs ru_length ru_drafted ru_waits ru_open ru_compared ru_wantsThing ru_waiting ru_program ru_draft) sz)) (q_X9_rule dC dI cI cC cZ cB cJ (va_A (wd_X9_rule cI cC cZ cB cJ a_x a_tx a_pl a_ga a_tr a_no a_pa a_ro a_mk a_x_acts a_tx_signs a_ru a_ru_given a_ru_waiting a_ru_stack a_ru_program a_ru_draft tx_length tx_place tx_stop tx_signs ru_length ru_drafted ru_waits ru_open ru_compared ru_wantsThing ru_waiting ru_program ru_draft) sz) a_x a_tx a_pl a_ga a_tr a_no a_pa a_ro a_mk a_x_acts a_tx_signs a_ru a_ru_given a_ru_waiting a_ru_stack tx_signs post) 0 0 (va_A (wd_X9_rule cI cC cZ cB cJ a_x a_tx a_pl a_ga a_tr a_no a_pa a_ro a_mk a_x_acts a_tx_signs a_ru a_ru_given a_ru_waiting a_ru_stack a_ru_program a_ru_draft tx_length tx_place tx_stop tx_signs ru_length ru_drafted ru_waits ru_open ru_compared ru_wantsThing ru_waiting ru_program ru_draft) sz) := by
  refine g_enter (own := RX9) (dC, dI) (tyl cI cC cZ cB cJ) (wd_X9_rule cI cC cZ cB cJ a_x a_tx a_pl a_ga a_tr a_no a_pa a_ro a_mk a_x_acts a_tx_signs a_ru a_ru_given a_ru_waiting a_ru_stack a_ru_program a_ru_draft tx_length tx_place tx_stop tx_signs ru_length ru_drafted ru_waits ru_open ru_compared ru_wantsThing ru_waiting ru_program ru_draft) sz [.ref a_x] (fun A => q_X9_rule dC dI cI cC cZ cB cJ A a_x a_tx a_pl a_ga a_tr a_no a_pa a_ro a_mk a_x_acts a_tx_signs a_ru a_ru_given a_ru_waiting a_ru_stack tx_signs post) (by decide) rfl (Nat.le_of_ble_eq_true rfl) ?_
  intro p e s m args below meth c A H locs ls C0 hP hD hS hl
  have hl : lv_has ls 2 [(0, .ref a_x)] := hl
  obtain ⟨hx, hb, hr, hml, hown, hts, hlocks, hA, hK, hN, tL, tM, hZL, hTL, hZM, hTM, hZX⟩ := id C0
  have hp := hw
  unfold wp_X9_rule at hp
  refine lv_aload_n hx hb eX9_rule_0.1 rfl (lv_at hl 0 rfl) ?_
  refine va_get (D := (dC, dI)) (ci := 9) (v := .ref a_tx) (C := RX9) (T := TX9) (N := 9) hx hb hts i_X9 hown hK hP 0 rfl rfl 0 (Nat.le_of_ble_eq_true rfl) (hts _ q_3) (fun _ h9 => h9) rfl eX9_rule_0.2.1 ?_
  refine lv_bipush (v := 40) hx hb eX9_rule_0.2.2.1 (by decide) ?_
  refine g_callv (wc := (wd_X8_open cI cC cZ cB cJ a_tx a_tx_signs tx_length tx_place tx_stop)) hP hD hS hA [1] [0, 2, 3, 4, 5, 6, 7] rfl rfl rfl rfl (g_runV (As := [.int 40]) (rest := []) C0 hP hD hS [1] rfl rfl 1 8 rfl rfl (c_X8_open l dC dI cI cC cZ cB cJ a_tx a_tx_signs H.size 40 tx_length tx_place tx_stop _ hp) q_69 q_72 q_70 q_71 q_5 h_X8_open rfl rfl ⟨Nat.le_of_ble_eq_true rfl, Nat.le_of_ble_eq_true rfl⟩ rfl rfl hl.1 rfl (lv_room (Nat.le_of_ble_eq_true rfl)) eX9_rule_0.2.2.2.1 ⟨Nat.zero_le _, Nat.zero_le _⟩) (fun u H locs hp hP hD hS => ?_)
  obtain ⟨tx_place_1, tx_stop_2⟩ := u
  have hPD := PDs (ws' := (wd_X9_rule cI cC cZ cB cJ a_x a_tx a_pl a_ga a_tr a_no a_pa a_ro a_mk a_x_acts a_tx_signs a_ru a_ru_given a_ru_waiting a_ru_stack a_ru_program a_ru_draft tx_length tx_place_1 tx_stop_2 tx_signs ru_length ru_drafted ru_waits ru_open ru_compared ru_wantsThing ru_waiting ru_program ru_draft)) hP hD [0, 7, 1, 2, 3, 4, 5, 6] (by decide) rfl
  have hP := hPD.1
  have hD := hPD.2
  refine lv_iconst (v := 0) hx hb eX9_rule_0.2.2.2.2.1 (by decide) ?_
  refine lv_istore_n (lv' := [(1, .int 0), (0, .ref a_x)]) hx hb eX9_rule_0.2.2.2.2.2.1 rfl hl (by decide) rfl (fun ls hl => ?_)
  refine lv_aload_n hx hb eX9_rule_0.2.2.2.2.2.2.1 rfl (lv_at hl 1 rfl) ?_
  refine va_get (D := (dC, dI)) (ci := 9) (v := .ref a_tx) (C := RX9) (T := TX9) (N := 9) hx hb hts i_X9 hown hK hP 0 rfl rfl 0 (Nat.le_of_ble_eq_true rfl) (hts _ q_3) (fun _ h9 => h9) rfl eX9_rule_0.2.2.2.2.2.2.2.1 ?_
  refine va_get (D := (dC, dI)) (ci := 8) (v := .int tx_length) (C := RX8) (T := TX8) (N := 4) hx hb hts i_X8 hown hK hP 1 rfl rfl 1 (Nat.le_of_ble_eq_true rfl) (hts _ q_73) (fun _ h9 => h9) rfl eX9_rule_0.2.2.2.2.2.2.2.2.1 ?_
  refine lv_if_ne (tgt := 34) hx hb eX9_rule_0.2.2.2.2.2.2.2.2.2.1 (by decide) (fun hc => ?_) (fun hc => ?_)
  · have hp := hp.1 hc
    refine lv_aload_n hx hb eX9_rule_0.2.2.2.2.2.2.2.2.2.2.2.2.2.2.2 rfl (lv_at hl 1 rfl) ?_
    refine va_get (D := (dC, dI)) (ci := 9) (v := .ref a_ga) (C := RX9) (T := TX9) (N := 9) hx hb hts i_X9 hown hK hP 0 rfl rfl 2 (Nat.le_of_ble_eq_true rfl) (hts _ q_146) (fun _ h9 => h9) rfl eX9_rule_35.1 ?_
    refine va_get (D := (dC, dI)) (ci := 0) (v := .ref a_ru) (C := RX0) (T := TX0) (N := 3) hx hb hts i_X0 hown hK hP 3 rfl rfl 2 (Nat.le_of_ble_eq_true rfl) (hts _ q_147) (fun _ h9 => h9) rfl eX9_rule_35.2.1 ?_
    refine lv_aload_n hx hb eX9_rule_35.2.2.1 rfl (lv_at hl 1 rfl) ?_
    refine va_get (D := (dC, dI)) (ci := 9) (v := .ref a_tx) (C := RX9) (T := TX9) (N := 9) hx hb hts i_X9 hown hK hP 0 rfl rfl 0 (Nat.le_of_ble_eq_true rfl) (hts _ q_3) (fun _ h9 => h9) rfl eX9_rule_35.2.2.2.1 ?_
    refine g_calli (wc := (wd_X7_read cI cC cZ cB cJ a_tx a_tx_signs a_ru a_ru_given a_ru_waiting a_ru_stack a_ru_program a_ru_draft tx_length tx_place_1 tx_stop_2 tx_signs ru_length ru_drafted ru_waits ru_open ru_compared ru_wantsThing ru_waiting ru_program ru_draft)) hP hD hS hA [1, 2, 4, 5, 6, 7] [0, 3] rfl rfl rfl rfl (g_runV (As := [.ref a_tx]) (rest := []) C0 hP hD hS [1, 2, 4, 5, 6, 7] rfl rfl 4 7 rfl rfl (c_X7_read l dC dI cI cC cZ cB cJ a_tx a_tx_signs a_ru a_ru_given a_ru_waiting a_ru_stack a_ru_program a_ru_draft H.size tx_length tx_place_1 tx_stop_2 tx_signs ru_length ru_drafted ru_waits ru_open ru_compared ru_wantsThing ru_waiting ru_program ru_draft _ hp) q_148 q_151 q_149 q_150 q_108 h_X7_read rfl rfl ⟨Nat.le_of_ble_eq_true rfl, Nat.le_of_ble_eq_true rfl⟩ rfl rfl hl.1 rfl (lv_room (Nat.le_of_ble_eq_true rfl)) eX9_rule_35.2.2.2.2.1 ⟨Nat.zero_le _, Nat.zero_le _⟩) (fun r_3 u H locs hp hP hD hS => ?_)
    obtain ⟨tx_place_4, ru_length_5, ru_drafted_6, ru_waits_7, ru_open_8, ru_compared_9, ru_wantsThing_10, ru_waiting_11, ru_program_12, ru_draft_13, a_ru_draft_14, a_ru_program_15⟩ := u
    have hPD := PDs (ws' := (wd_X9_rule cI cC cZ cB cJ a_x a_tx a_pl a_ga a_tr a_no a_pa a_ro a_mk a_x_acts a_tx_signs a_ru a_ru_given a_ru_waiting a_ru_stack a_ru_program_15 a_ru_draft_14 tx_length tx_place_4 tx_stop_2 tx_signs ru_length_5 ru_drafted_6 ru_waits_7 ru_open_8 ru_compared_9 ru_wantsThing_10 ru_waiting_11 ru_program_12 ru_draft_13)) hP hD [0, 2, 3, 1, 4, 5, 6, 7] (by decide) rfl
    have hP := hPD.1
    have hD := hPD.2
    refine lv_if_ne (tgt := 59) hx hb eX9_rule_35.2.2.2.2.2.1 (by decide) (fun hc => ?_) (fun hc => ?_)
    · have hp := hp.1 hc
      exact ks_X9_rule_59 C0 0 tx_length tx_place_4 tx_stop_2 ru_length_5 ru_drafted_6 ru_waits_7 ru_open_8 ru_compared_9 ru_wantsThing_10 ru_waiting_11 ru_program_12 ru_draft_13 a_ru_draft_14 a_ru_program_15 H locs ls hp hP hD hS (lv_sub hl [1, 0] rfl)
    · have hp := hp.2 hc
      refine lv_aload_n hx hb eX9_rule_35.2.2.2.2.2.2.1 rfl (lv_at hl 1 rfl) ?_
      refine va_get (D := (dC, dI)) (ci := 9) (v := .ref a_tx) (C := RX9) (T := TX9) (N := 9) hx hb hts i_X9 hown hK hP 0 rfl rfl 0 (Nat.le_of_ble_eq_true rfl) (hts _ q_3) (fun _ h9 => h9) rfl eX9_rule_35.2.2.2.2.2.2.2.1 ?_
      refine g_calli (wc := (wd_X8_wrong cI cC cZ cB cJ a_tx a_tx_signs tx_length tx_place_4 tx_stop_2)) hP hD hS hA [1] [0, 2, 3, 4, 5, 6, 7] rfl rfl rfl rfl (g_runV (As := []) (rest := []) C0 hP hD hS [1] rfl rfl 1 8 rfl rfl (c_X8_wrong l dC dI cI cC cZ cB cJ a_tx a_tx_signs H.size tx_length tx_place_4 tx_stop_2 _ hp) q_79 q_82 q_80 q_81 q_5 h_X8_wrong rfl rfl ⟨Nat.le_of_ble_eq_true rfl, Nat.le_of_ble_eq_true rfl⟩ rfl rfl hl.1 rfl (lv_room (Nat.le_of_ble_eq_true rfl)) eX9_rule_35.2.2.2.2.2.2.2.2.1 ⟨Nat.zero_le _, Nat.zero_le _⟩) (fun r_17 u H locs hp hP hD hS => ?_)
      have hPD := PDs (ws' := (wd_X9_rule cI cC cZ cB cJ a_x a_tx a_pl a_ga a_tr a_no a_pa a_ro a_mk a_x_acts a_tx_signs a_ru a_ru_given a_ru_waiting a_ru_stack a_ru_program_15 a_ru_draft_14 tx_length tx_place_4 tx_stop_2 tx_signs ru_length_5 ru_drafted_6 ru_waits_7 ru_open_8 ru_compared_9 ru_wantsThing_10 ru_waiting_11 ru_program_12 ru_draft_13)) hP hD [0, 7, 1, 2, 3, 4, 5, 6] (by decide) rfl
      have hP := hPD.1
      have hD := hPD.2
      refine lv_istore_n (lv' := [(1, .int r_17), (0, .ref a_x)]) hx hb eX9_rule_35.2.2.2.2.2.2.2.2.2.1 rfl hl (by decide) rfl (fun ls hl => ?_)
      exact ks_X9_rule_59 C0 r_17 tx_length tx_place_4 tx_stop_2 ru_length_5 ru_drafted_6 ru_waits_7 ru_open_8 ru_compared_9 ru_wantsThing_10 ru_waiting_11 ru_program_12 ru_draft_13 a_ru_draft_14 a_ru_program_15 H locs ls hp hP hD hS (lv_sub hl [1, 0] rfl)
  · have hp := hp.2 hc
    refine lv_aload_n hx hb eX9_rule_0.2.2.2.2.2.2.2.2.2.2.1 rfl (lv_at hl 1 rfl) ?_
    refine va_get (D := (dC, dI)) (ci := 9) (v := .ref a_ga) (C := RX9) (T := TX9) (N := 9) hx hb hts i_X9 hown hK hP 0 rfl rfl 2 (Nat.le_of_ble_eq_true rfl) (hts _ q_146) (fun _ h9 => h9) rfl eX9_rule_0.2.2.2.2.2.2.2.2.2.2.2.1 ?_
    refine va_get (D := (dC, dI)) (ci := 0) (v := .ref a_ru) (C := RX0) (T := TX0) (N := 3) hx hb hts i_X0 hown hK hP 3 rfl rfl 2 (Nat.le_of_ble_eq_true rfl) (hts _ q_147) (fun _ h9 => h9) rfl eX9_rule_0.2.2.2.2.2.2.2.2.2.2.2.2.1 ?_
    refine g_callv (wc := (wd_X7_drop cI cC cZ cB cJ a_ru a_ru_given a_ru_waiting a_ru_stack a_ru_program a_ru_draft ru_length ru_drafted ru_waits ru_open ru_compared ru_wantsThing)) hP hD hS hA [4] [0, 1, 2, 3, 5, 6, 7] rfl rfl rfl rfl (g_runV (As := []) (rest := []) C0 hP hD hS [4] rfl rfl 4 7 rfl rfl (c_X7_drop l dC dI cI cC cZ cB cJ a_ru a_ru_given a_ru_waiting a_ru_stack a_ru_program a_ru_draft H.size ru_length ru_drafted ru_waits ru_open ru_compared ru_wantsThing _ hp) q_152 q_155 q_153 q_154 q_108 h_X7_drop rfl rfl ⟨Nat.le_of_ble_eq_true rfl, Nat.le_of_ble_eq_true rfl⟩ rfl rfl hl.1 rfl (lv_room (Nat.le_of_ble_eq_true rfl)) eX9_rule_0.2.2.2.2.2.2.2.2.2.2.2.2.2.1 ⟨Nat.zero_le _, Nat.zero_le _⟩) (fun u H locs hp hP hD hS => ?_)
    obtain ⟨ru_length_18, rfl⟩ : ∃ z, z = u := ⟨_, rfl⟩
    have hPD := PDs (ws' := (wd_X9_rule cI cC cZ cB cJ a_x a_tx a_pl a_ga a_tr a_no a_pa a_ro a_mk a_x_acts a_tx_signs a_ru a_ru_given a_ru_waiting a_ru_stack a_ru_program a_ru_draft tx_length tx_place_1 tx_stop_2 tx_signs ru_length_18 ru_drafted ru_waits ru_open ru_compared ru_wantsThing ru_waiting ru_program ru_draft)) hP hD [0, 1, 2, 3, 7, 4, 5, 6] (by decide) rfl
    have hP := hPD.1
    have hD := hPD.2
    refine lv_goto (tgt := 59) hx hb eX9_rule_0.2.2.2.2.2.2.2.2.2.2.2.2.2.2.1 (by decide) ?_
    exact ks_X9_rule_59 C0 0 tx_length tx_place_1 tx_stop_2 ru_length_18 ru_drafted ru_waits ru_open ru_compared ru_wantsThing ru_waiting ru_program ru_draft a_ru_draft a_ru_program H locs ls hp hP hD hS (lv_sub hl [1, 0] rfl)
abbrev wd_X3_hasFruit (cI cC cZ cB cJ : ClassId) (a_tr : Nat) (a_tr_x : Nat) (a_tr_height : Nat) (a_tr_worth : Nat) (a_tr_ripe : Nat) (a_tr_foot : Nat) (a_tr_fork : Nat) (a_tr_settings : Nat) (tr_fruits : Int32) (tr_standings : Int32) (tr_comingFruits : Int32) (tr_comingStandings : Int32) : va_W := [(a_tr, .inr (3, [.ref a_tr_x, .ref a_tr_height, .ref a_tr_worth, .ref a_tr_ripe, .ref a_tr_foot, .ref a_tr_fork, .ref a_tr_settings, .int tr_fruits, .int tr_standings, .int tr_comingFruits, .int tr_comingStandings]))]
abbrev q_X3_hasFruit (dC : Nat → ClassId) (dI : Nat → Nat → Nat) (cI cC cZ cB cJ : ClassId) (A : Nat → Prop) (a_tr : Nat) (a_tr_x : Nat) (a_tr_height : Nat) (a_tr_worth : Nat) (a_tr_ripe : Nat) (a_tr_foot : Nat) (a_tr_fork : Nat) (a_tr_settings : Nat) (tr_fruits : Int32) (tr_standings : Int32) (tr_comingFruits : Int32) (tr_comingStandings : Int32) (post : Int32 → Prop) : Array Value → State → Outcome → State → Prop := va_Qi (fun (r : Int32) (u : Unit) => post r) (fun u t => gB (dC, dI) (tyl cI cC cZ cB cJ) A (wd_X3_hasFruit cI cC cZ cB cJ a_tr a_tr_x a_tr_height a_tr_worth a_tr_ripe a_tr_foot a_tr_fork a_tr_settings tr_fruits tr_standings tr_comingFruits tr_comingStandings) t) A
abbrev rm_X3_hasFruit : Room := { frames := 0, cells := 0, slots := 0, locals := 0 }
def wp_X3_hasFruit (post : Int32 → Prop) (p0 : Int32) (tr_fruits : Int32) : Prop := (p0 < 0 → post 0) ∧ (¬ p0 < 0 → (tr_fruits ≤ p0 → post 0) ∧ (¬ tr_fruits ≤ p0 → post 1))
set_option maxHeartbeats 4000000 in
set_option maxRecDepth 100000 in
theorem c_X3_hasFruit (l : Launch) (dC : Nat → ClassId) (dI : Nat → Nat → Nat) (cI cC cZ cB cJ : ClassId) (a_tr : Nat) (a_tr_x : Nat) (a_tr_height : Nat) (a_tr_worth : Nat) (a_tr_ripe : Nat) (a_tr_foot : Nat) (a_tr_fork : Nat) (a_tr_settings : Nat) (sz : Nat) (p0 : Int32) (tr_fruits : Int32) (tr_standings : Int32) (tr_comingFruits : Int32) (tr_comingStandings : Int32) (post : Int32 → Prop) (hw : wp_X3_hasFruit post p0 tr_fruits) : Met l yX3_hasFruit (gw yX3_hasFruit cX3_hasFruit 2 (some .boolean)) rm_X3_hasFruit (va_Pc [.ref a_tr, .int p0] (gPre (dC, dI) (tyl cI cC cZ cB cJ) (wd_X3_hasFruit cI cC cZ cB cJ a_tr a_tr_x a_tr_height a_tr_worth a_tr_ripe a_tr_foot a_tr_fork a_tr_settings tr_fruits tr_standings tr_comingFruits tr_comingStandings) sz)) (q_X3_hasFruit dC dI cI cC cZ cB cJ (va_A (wd_X3_hasFruit cI cC cZ cB cJ a_tr a_tr_x a_tr_height a_tr_worth a_tr_ripe a_tr_foot a_tr_fork a_tr_settings tr_fruits tr_standings tr_comingFruits tr_comingStandings) sz) a_tr a_tr_x a_tr_height a_tr_worth a_tr_ripe a_tr_foot a_tr_fork a_tr_settings tr_fruits tr_standings tr_comingFruits tr_comingStandings post) 0 0 (va_A (wd_X3_hasFruit cI cC cZ cB cJ a_tr a_tr_x a_tr_height a_tr_worth a_tr_ripe a_tr_foot a_tr_fork a_tr_settings tr_fruits tr_standings tr_comingFruits tr_comingStandings) sz) := by
  refine g_enter (own := RX3) (dC, dI) (tyl cI cC cZ cB cJ) (wd_X3_hasFruit cI cC cZ cB cJ a_tr a_tr_x a_tr_height a_tr_worth a_tr_ripe a_tr_foot a_tr_fork a_tr_settings tr_fruits tr_standings tr_comingFruits tr_comingStandings) sz [.ref a_tr, .int p0] (fun A => q_X3_hasFruit dC dI cI cC cZ cB cJ A a_tr a_tr_x a_tr_height a_tr_worth a_tr_ripe a_tr_foot a_tr_fork a_tr_settings tr_fruits tr_standings tr_comingFruits tr_comingStandings post) (by decide) rfl (Nat.le_of_ble_eq_true rfl) ?_
  intro p e s m args below meth c A H locs ls C0 hP hD hS hl
  have hl : lv_has ls 2 [(0, .ref a_tr), (1, .int p0)] := hl
  obtain ⟨hx, hb, hr, hml, hown, hts, hlocks, hA, hK, hN, tL, tM, hZL, hTL, hZM, hTM, hZX⟩ := id C0
  have hp := hw
  unfold wp_X3_hasFruit at hp
  refine lv_iload_n hx hb eX3_hasFruit_0.1 rfl (lv_at hl 1 rfl) ?_
  refine lv_if_lt (tgt := 16) hx hb eX3_hasFruit_0.2.1 (by decide) (fun hc => ?_) (fun hc => ?_)
  · have hp := hp.1 hc
    refine lv_iconst (v := 0) hx hb eX3_hasFruit_0.2.2.2.2.2.2.2.2.1 (by decide) ?_
    exact W.zret (v := 0) hx hb hr rfl (fun t ht hW => ⟨⟨0, (), rfl, hp, by rw [ht]; exact hP, va_K.moved hW.alike hK, hD⟩, hS.F ht⟩) hS.2.2 eX3_hasFruit_0.2.2.2.2.2.2.2.2.2
  · have hp := hp.2 hc
    refine lv_iload_n hx hb eX3_hasFruit_0.2.2.1 rfl (lv_at hl 1 rfl) ?_
    refine lv_aload_n hx hb eX3_hasFruit_0.2.2.2.1 rfl (lv_at hl 0 rfl) ?_
    refine va_get (D := (dC, dI)) (ci := 3) (v := .int tr_fruits) (C := RX3) (T := TX3) (N := 11) hx hb hts i_X3 hown hK hP 0 rfl rfl 7 (Nat.le_of_ble_eq_true rfl) (hts _ q_20) (fun _ h9 => h9) rfl eX3_hasFruit_0.2.2.2.2.1 ?_
    refine lv_icmp_ge (tgt := 16) hx hb eX3_hasFruit_0.2.2.2.2.2.1 (by decide) (fun hc => ?_) (fun hc => ?_)
    · have hp := hp.1 hc
      refine lv_iconst (v := 0) hx hb eX3_hasFruit_0.2.2.2.2.2.2.2.2.1 (by decide) ?_
      exact W.zret (v := 0) hx hb hr rfl (fun t ht hW => ⟨⟨0, (), rfl, hp, by rw [ht]; exact hP, va_K.moved hW.alike hK, hD⟩, hS.F ht⟩) hS.2.2 eX3_hasFruit_0.2.2.2.2.2.2.2.2.2
    · have hp := hp.2 hc
      refine lv_iconst (v := 1) hx hb eX3_hasFruit_0.2.2.2.2.2.2.1 (by decide) ?_
      refine lv_goto (tgt := 17) hx hb eX3_hasFruit_0.2.2.2.2.2.2.2.1 (by decide) ?_
      exact W.zret (v := 1) hx hb hr rfl (fun t ht hW => ⟨⟨1, (), rfl, hp, by rw [ht]; exact hP, va_K.moved hW.alike hK, hD⟩, hS.F ht⟩) hS.2.2 eX3_hasFruit_0.2.2.2.2.2.2.2.2.2
abbrev wd_X3_allFruits (cI cC cZ cB cJ : ClassId) (a_tr : Nat) (a_tr_x : Nat) (a_tr_height : Nat) (a_tr_worth : Nat) (a_tr_ripe : Nat) (a_tr_foot : Nat) (a_tr_fork : Nat) (a_tr_settings : Nat) (tr_fruits : Int32) (tr_standings : Int32) (tr_comingFruits : Int32) (tr_comingStandings : Int32) : va_W := [(a_tr, .inr (3, [.ref a_tr_x, .ref a_tr_height, .ref a_tr_worth, .ref a_tr_ripe, .ref a_tr_foot, .ref a_tr_fork, .ref a_tr_settings, .int tr_fruits, .int tr_standings, .int tr_comingFruits, .int tr_comingStandings]))]
abbrev q_X3_allFruits (dC : Nat → ClassId) (dI : Nat → Nat → Nat) (cI cC cZ cB cJ : ClassId) (A : Nat → Prop) (a_tr : Nat) (a_tr_x : Nat) (a_tr_height : Nat) (a_tr_worth : Nat) (a_tr_ripe : Nat) (a_tr_foot : Nat) (a_tr_fork : Nat) (a_tr_settings : Nat) (tr_fruits : Int32) (tr_standings : Int32) (tr_comingFruits : Int32) (tr_comingStandings : Int32) (post : Int32 → Prop) : Array Value → State → Outcome → State → Prop := va_Qi (fun (r : Int32) (u : Unit) => post r) (fun u t => gB (dC, dI) (tyl cI cC cZ cB cJ) A (wd_X3_allFruits cI cC cZ cB cJ a_tr a_tr_x a_tr_height a_tr_worth a_tr_ripe a_tr_foot a_tr_fork a_tr_settings tr_fruits tr_standings tr_comingFruits tr_comingStandings) t) A
abbrev rm_X3_allFruits : Room := { frames := 0, cells := 0, slots := 0, locals := 0 }
def wp_X3_allFruits (post : Int32 → Prop) (tr_fruits : Int32) : Prop := ∀ v_1 : Int32, v_1 = 1 <<< (tr_fruits &&& 31) → post (v_1 - 1)
set_option maxHeartbeats 4000000 in
set_option maxRecDepth 100000 in
theorem c_X3_allFruits (l : Launch) (dC : Nat → ClassId) (dI : Nat → Nat → Nat) (cI cC cZ cB cJ : ClassId) (a_tr : Nat) (a_tr_x : Nat) (a_tr_height : Nat) (a_tr_worth : Nat) (a_tr_ripe : Nat) (a_tr_foot : Nat) (a_tr_fork : Nat) (a_tr_settings : Nat) (sz : Nat) (tr_fruits : Int32) (tr_standings : Int32) (tr_comingFruits : Int32) (tr_comingStandings : Int32) (post : Int32 → Prop) (hw : wp_X3_allFruits post tr_fruits) : Met l yX3_allFruits (gw yX3_allFruits cX3_allFruits 1 (some .int)) rm_X3_allFruits (va_Pc [.ref a_tr] (gPre (dC, dI) (tyl cI cC cZ cB cJ) (wd_X3_allFruits cI cC cZ cB cJ a_tr a_tr_x a_tr_height a_tr_worth a_tr_ripe a_tr_foot a_tr_fork a_tr_settings tr_fruits tr_standings tr_comingFruits tr_comingStandings) sz)) (q_X3_allFruits dC dI cI cC cZ cB cJ (va_A (wd_X3_allFruits cI cC cZ cB cJ a_tr a_tr_x a_tr_height a_tr_worth a_tr_ripe a_tr_foot a_tr_fork a_tr_settings tr_fruits tr_standings tr_comingFruits tr_comingStandings) sz) a_tr a_tr_x a_tr_height a_tr_worth a_tr_ripe a_tr_foot a_tr_fork a_tr_settings tr_fruits tr_standings tr_comingFruits tr_comingStandings post) 0 0 (va_A (wd_X3_allFruits cI cC cZ cB cJ a_tr a_tr_x a_tr_height a_tr_worth a_tr_ripe a_tr_foot a_tr_fork a_tr_settings tr_fruits tr_standings tr_comingFruits tr_comingStandings) sz) := by
  refine g_enter (own := RX3) (dC, dI) (tyl cI cC cZ cB cJ) (wd_X3_allFruits cI cC cZ cB cJ a_tr a_tr_x a_tr_height a_tr_worth a_tr_ripe a_tr_foot a_tr_fork a_tr_settings tr_fruits tr_standings tr_comingFruits tr_comingStandings) sz [.ref a_tr] (fun A => q_X3_allFruits dC dI cI cC cZ cB cJ A a_tr a_tr_x a_tr_height a_tr_worth a_tr_ripe a_tr_foot a_tr_fork a_tr_settings tr_fruits tr_standings tr_comingFruits tr_comingStandings post) (by decide) rfl (Nat.le_of_ble_eq_true rfl) ?_
  intro p e s m args below meth c A H locs ls C0 hP hD hS hl
  have hl : lv_has ls 1 [(0, .ref a_tr)] := hl
  obtain ⟨hx, hb, hr, hml, hown, hts, hlocks, hA, hK, hN, tL, tM, hZL, hTL, hZM, hTM, hZX⟩ := id C0
  have hp := hw
  unfold wp_X3_allFruits at hp
  refine lv_iconst (v := 1) hx hb eX3_allFruits_0.1 (by decide) ?_
  refine lv_aload_n hx hb eX3_allFruits_0.2.1 rfl (lv_at hl 0 rfl) ?_
  refine va_get (D := (dC, dI)) (ci := 3) (v := .int tr_fruits) (C := RX3) (T := TX3) (N := 11) hx hb hts i_X3 hown hK hP 0 rfl rfl 7 (Nat.le_of_ble_eq_true rfl) (hts _ q_20) (fun _ h9 => h9) rfl eX3_allFruits_0.2.2.1 ?_
  refine lv_ishl hx hb eX3_allFruits_0.2.2.2.1 ?_
  refine lv_topi (fun v_1 ev_1 => ?_)
  have hp := hp v_1 ev_1
  refine lv_iconst (v := 1) hx hb eX3_allFruits_0.2.2.2.2.1 (by decide) ?_
  refine lv_isub hx hb eX3_allFruits_0.2.2.2.2.2.1 ?_
  exact W.iret (v := v_1 - 1) hx hb hr (fun t ht hW => ⟨⟨v_1 - 1, (), rfl, hp, by rw [ht]; exact hP, va_K.moved hW.alike hK, hD⟩, hS.F ht⟩) hS.2.2 eX3_allFruits_0.2.2.2.2.2.2
abbrev wd_X0_hanging (cI cC cZ cB cJ : ClassId) (a_ga : Nat) (a_tr : Nat) (a_no : Nat) (a_ru : Nat) (a_tr_x : Nat) (a_tr_height : Nat) (a_tr_worth : Nat) (a_tr_ripe : Nat) (a_tr_foot : Nat) (a_tr_fork : Nat) (a_tr_settings : Nat) (tr_fruits : Int32) (tr_standings : Int32) (tr_comingFruits : Int32) (tr_comingStandings : Int32) (no_apron : Int32) (no_basket : Int32) (no_ground : Int32) (no_bruised : Int32) (no_ladder : Int32) (no_helper : Int32) (no_today : Int32) (no_clock : Int32) : va_W := [(a_ga, .inr (0, [.ref a_tr, .ref a_no, .ref a_ru])), (a_tr, .inr (3, [.ref a_tr_x, .ref a_tr_height, .ref a_tr_worth, .ref a_tr_ripe, .ref a_tr_foot, .ref a_tr_fork, .ref a_tr_settings, .int tr_fruits, .int tr_standings, .int tr_comingFruits, .int tr_comingStandings])), (a_no, .inr (2, [.int no_apron, .int no_basket, .int no_ground, .int no_bruised, .int no_ladder, .int no_helper, .int no_today, .int no_clock]))]
abbrev q_X0_hanging (dC : Nat → ClassId) (dI : Nat → Nat → Nat) (cI cC cZ cB cJ : ClassId) (A : Nat → Prop) (a_ga : Nat) (a_tr : Nat) (a_no : Nat) (a_ru : Nat) (a_tr_x : Nat) (a_tr_height : Nat) (a_tr_worth : Nat) (a_tr_ripe : Nat) (a_tr_foot : Nat) (a_tr_fork : Nat) (a_tr_settings : Nat) (tr_fruits : Int32) (tr_standings : Int32) (tr_comingFruits : Int32) (tr_comingStandings : Int32) (no_apron : Int32) (no_basket : Int32) (no_ground : Int32) (no_bruised : Int32) (no_ladder : Int32) (no_helper : Int32) (no_today : Int32) (no_clock : Int32) (post : Int32 → Prop) : Array Value → State → Outcome → State → Prop := va_Qi (fun (r : Int32) (u : Unit) => post r) (fun u t => gB (dC, dI) (tyl cI cC cZ cB cJ) A (wd_X0_hanging cI cC cZ cB cJ a_ga a_tr a_no a_ru a_tr_x a_tr_height a_tr_worth a_tr_ripe a_tr_foot a_tr_fork a_tr_settings tr_fruits tr_standings tr_comingFruits tr_comingStandings no_apron no_basket no_ground no_bruised no_ladder no_helper no_today no_clock) t) A
abbrev rm_X0_hanging : Room := { frames := 1, cells := 0, slots := 0, locals := 20 }
def wp_X0_hanging (post : Int32 → Prop) (tr_fruits : Int32) (no_apron : Int32) (no_basket : Int32) (no_ground : Int32) : Prop := wp_X3_allFruits (fun r_1 => ∀ v_2 : Int32, v_2 = no_apron ||| no_basket → ∀ v_3 : Int32, v_3 = v_2 ||| no_ground → post (r_1 &&& (v_3 ^^^ (-1)))) tr_fruits
set_option maxHeartbeats 4000000 in
set_option maxRecDepth 100000 in
theorem c_X0_hanging (l : Launch) (dC : Nat → ClassId) (dI : Nat → Nat → Nat) (cI cC cZ cB cJ : ClassId) (a_ga : Nat) (a_tr : Nat) (a_no : Nat) (a_ru : Nat) (a_tr_x : Nat) (a_tr_height : Nat) (a_tr_worth : Nat) (a_tr_ripe : Nat) (a_tr_foot : Nat) (a_tr_fork : Nat) (a_tr_settings : Nat) (sz : Nat) (tr_fruits : Int32) (tr_standings : Int32) (tr_comingFruits : Int32) (tr_comingStandings : Int32) (no_apron : Int32) (no_basket : Int32) (no_ground : Int32) (no_bruised : Int32) (no_ladder : Int32) (no_helper : Int32) (no_today : Int32) (no_clock : Int32) (post : Int32 → Prop) (hw : wp_X0_hanging post tr_fruits no_apron no_basket no_ground) : Met l yX0_hanging (gw yX0_hanging cX0_hanging 1 (some .int)) rm_X0_hanging (va_Pc [.ref a_ga] (gPre (dC, dI) (tyl cI cC cZ cB cJ) (wd_X0_hanging cI cC cZ cB cJ a_ga a_tr a_no a_ru a_tr_x a_tr_height a_tr_worth a_tr_ripe a_tr_foot a_tr_fork a_tr_settings tr_fruits tr_standings tr_comingFruits tr_comingStandings no_apron no_basket no_ground no_bruised no_ladder no_helper no_today no_clock) sz)) (q_X0_hanging dC dI cI cC cZ cB cJ (va_A (wd_X0_hanging cI cC cZ cB cJ a_ga a_tr a_no a_ru a_tr_x a_tr_height a_tr_worth a_tr_ripe a_tr_foot a_tr_fork a_tr_settings tr_fruits tr_standings tr_comingFruits tr_comingStandings no_apron no_basket no_ground no_bruised no_ladder no_helper no_today no_clock) sz) a_ga a_tr a_no a_ru a_tr_x a_tr_height a_tr_worth a_tr_ripe a_tr_foot a_tr_fork a_tr_settings tr_fruits tr_standings tr_comingFruits tr_comingStandings no_apron no_basket no_ground no_bruised no_ladder no_helper no_today no_clock post) 0 0 (va_A (wd_X0_hanging cI cC cZ cB cJ a_ga a_tr a_no a_ru a_tr_x a_tr_height a_tr_worth a_tr_ripe a_tr_foot a_tr_fork a_tr_settings tr_fruits tr_standings tr_comingFruits tr_comingStandings no_apron no_basket no_ground no_bruised no_ladder no_helper no_today no_clock) sz) := by
  refine g_enter (own := RX0) (dC, dI) (tyl cI cC cZ cB cJ) (wd_X0_hanging cI cC cZ cB cJ a_ga a_tr a_no a_ru a_tr_x a_tr_height a_tr_worth a_tr_ripe a_tr_foot a_tr_fork a_tr_settings tr_fruits tr_standings tr_comingFruits tr_comingStandings no_apron no_basket no_ground no_bruised no_ladder no_helper no_today no_clock) sz [.ref a_ga] (fun A => q_X0_hanging dC dI cI cC cZ cB cJ A a_ga a_tr a_no a_ru a_tr_x a_tr_height a_tr_worth a_tr_ripe a_tr_foot a_tr_fork a_tr_settings tr_fruits tr_standings tr_comingFruits tr_comingStandings no_apron no_basket no_ground no_bruised no_ladder no_helper no_today no_clock post) (by decide) rfl (Nat.le_of_ble_eq_true rfl) ?_
  intro p e s m args below meth c A H locs ls C0 hP hD hS hl
  have hl : lv_has ls 1 [(0, .ref a_ga)] := hl
  obtain ⟨hx, hb, hr, hml, hown, hts, hlocks, hA, hK, hN, tL, tM, hZL, hTL, hZM, hTM, hZX⟩ := id C0
  have hp := hw
  unfold wp_X0_hanging at hp
  refine lv_aload_n hx hb eX0_hanging_0.1 rfl (lv_at hl 0 rfl) ?_
  refine va_get (D := (dC, dI)) (ci := 0) (v := .ref a_tr) (C := RX0) (T := TX0) (N := 3) hx hb hts i_X0 hown hK hP 0 rfl rfl 0 (Nat.le_of_ble_eq_true rfl) (hts _ q_156) (fun _ h9 => h9) rfl eX0_hanging_0.2.1 ?_
  refine g_calli (wc := (wd_X3_allFruits cI cC cZ cB cJ a_tr a_tr_x a_tr_height a_tr_worth a_tr_ripe a_tr_foot a_tr_fork a_tr_settings tr_fruits tr_standings tr_comingFruits tr_comingStandings)) hP hD hS hA [1] [0, 2] rfl rfl rfl rfl (g_runV (As := []) (rest := []) C0 hP hD hS [1] rfl rfl 1 3 rfl rfl (c_X3_allFruits l dC dI cI cC cZ cB cJ a_tr a_tr_x a_tr_height a_tr_worth a_tr_ripe a_tr_foot a_tr_fork a_tr_settings H.size tr_fruits tr_standings tr_comingFruits tr_comingStandings _ hp) q_157 q_160 q_158 q_159 q_48 h_X3_allFruits rfl rfl ⟨Nat.le_of_ble_eq_true rfl, Nat.le_of_ble_eq_true rfl⟩ rfl rfl hl.1 rfl (lv_room (Nat.le_of_ble_eq_true rfl)) eX0_hanging_0.2.2.1 ⟨Nat.zero_le _, Nat.zero_le _⟩) (fun r_1 u H locs hp hP hD hS => ?_)
  have hPD := PDs (ws' := (wd_X0_hanging cI cC cZ cB cJ a_ga a_tr a_no a_ru a_tr_x a_tr_height a_tr_worth a_tr_ripe a_tr_foot a_tr_fork a_tr_settings tr_fruits tr_standings tr_comingFruits tr_comingStandings no_apron no_basket no_ground no_bruised no_ladder no_helper no_today no_clock)) hP hD [0, 2, 1] (by decide) rfl
  have hP := hPD.1
  have hD := hPD.2
  refine lv_aload_n hx hb eX0_hanging_0.2.2.2.1 rfl (lv_at hl 0 rfl) ?_
  refine va_get (D := (dC, dI)) (ci := 0) (v := .ref a_no) (C := RX0) (T := TX0) (N := 3) hx hb hts i_X0 hown hK hP 0 rfl rfl 1 (Nat.le_of_ble_eq_true rfl) (hts _ q_161) (fun _ h9 => h9) rfl eX0_hanging_0.2.2.2.2.1 ?_
  refine va_get (D := (dC, dI)) (ci := 2) (v := .int no_apron) (C := RX2) (T := TX2) (N := 8) hx hb hts i_X2 hown hK hP 2 rfl rfl 0 (Nat.le_of_ble_eq_true rfl) (hts _ q_162) (fun _ h9 => h9) rfl eX0_hanging_0.2.2.2.2.2.1 ?_
  refine lv_aload_n hx hb eX0_hanging_0.2.2.2.2.2.2.1 rfl (lv_at hl 0 rfl) ?_
  refine va_get (D := (dC, dI)) (ci := 0) (v := .ref a_no) (C := RX0) (T := TX0) (N := 3) hx hb hts i_X0 hown hK hP 0 rfl rfl 1 (Nat.le_of_ble_eq_true rfl) (hts _ q_161) (fun _ h9 => h9) rfl eX0_hanging_0.2.2.2.2.2.2.2.1 ?_
  refine va_get (D := (dC, dI)) (ci := 2) (v := .int no_basket) (C := RX2) (T := TX2) (N := 8) hx hb hts i_X2 hown hK hP 2 rfl rfl 1 (Nat.le_of_ble_eq_true rfl) (hts _ q_163) (fun _ h9 => h9) rfl eX0_hanging_0.2.2.2.2.2.2.2.2.1 ?_
  refine lv_ior hx hb eX0_hanging_0.2.2.2.2.2.2.2.2.2.1 ?_
  refine lv_topi (fun v_2 ev_2 => ?_)
  have hp := hp v_2 ev_2
  refine lv_aload_n hx hb eX0_hanging_0.2.2.2.2.2.2.2.2.2.2.1 rfl (lv_at hl 0 rfl) ?_
  refine va_get (D := (dC, dI)) (ci := 0) (v := .ref a_no) (C := RX0) (T := TX0) (N := 3) hx hb hts i_X0 hown hK hP 0 rfl rfl 1 (Nat.le_of_ble_eq_true rfl) (hts _ q_161) (fun _ h9 => h9) rfl eX0_hanging_0.2.2.2.2.2.2.2.2.2.2.2.1 ?_
  refine va_get (D := (dC, dI)) (ci := 2) (v := .int no_ground) (C := RX2) (T := TX2) (N := 8) hx hb hts i_X2 hown hK hP 2 rfl rfl 2 (Nat.le_of_ble_eq_true rfl) (hts _ q_164) (fun _ h9 => h9) rfl eX0_hanging_0.2.2.2.2.2.2.2.2.2.2.2.2.1 ?_
  refine lv_ior hx hb eX0_hanging_0.2.2.2.2.2.2.2.2.2.2.2.2.2.1 ?_
  refine lv_topi (fun v_3 ev_3 => ?_)
  have hp := hp v_3 ev_3
  refine lv_iconst (v := (-1)) hx hb eX0_hanging_0.2.2.2.2.2.2.2.2.2.2.2.2.2.2.1 (by decide) ?_
  refine lv_ixor hx hb eX0_hanging_0.2.2.2.2.2.2.2.2.2.2.2.2.2.2.2 ?_
  refine lv_iand hx hb eX0_hanging_32.1 ?_
  exact W.iret (v := r_1 &&& (v_3 ^^^ (-1))) hx hb hr (fun t ht hW => ⟨⟨r_1 &&& (v_3 ^^^ (-1)), (), rfl, hp, by rw [ht]; exact hP, va_K.moved hW.alike hK, hD⟩, hS.F ht⟩) hS.2.2 eX0_hanging_32.2
abbrev wd_X3_lowerThan (cI cC cZ cB cJ : ClassId) (a_tr : Nat) (a_tr_x : Nat) (a_tr_height : Nat) (a_tr_worth : Nat) (a_tr_ripe : Nat) (a_tr_foot : Nat) (a_tr_fork : Nat) (a_tr_settings : Nat) (tr_fruits : Int32) (tr_standings : Int32) (tr_comingFruits : Int32) (tr_comingStandings : Int32) (tr_x : Nat → Int32) (tr_height : Nat → Int32) : va_W := [(a_tr, .inr (3, [.ref a_tr_x, .ref a_tr_height, .ref a_tr_worth, .ref a_tr_ripe, .ref a_tr_foot, .ref a_tr_fork, .ref a_tr_settings, .int tr_fruits, .int tr_standings, .int tr_comingFruits, .int tr_comingStandings])), (a_tr_x, .inl (cI, 16, .inl tr_x)), (a_tr_height, .inl (cI, 16, .inl tr_height))]
abbrev q_X3_lowerThan (dC : Nat → ClassId) (dI : Nat → Nat → Nat) (cI cC cZ cB cJ : ClassId) (A : Nat → Prop) (a_tr : Nat) (a_tr_x : Nat) (a_tr_height : Nat) (a_tr_worth : Nat) (a_tr_ripe : Nat) (a_tr_foot : Nat) (a_tr_fork : Nat) (a_tr_settings : Nat) (tr_fruits : Int32) (tr_standings : Int32) (tr_comingFruits : Int32) (tr_comingStandings : Int32) (tr_x : Nat → Int32) (tr_height : Nat → Int32) (post : Int32 → Prop) : Array Value → State → Outcome → State → Prop := va_Qi (fun (r : Int32) (u : Unit) => post r) (fun u t => gB (dC, dI) (tyl cI cC cZ cB cJ) A (wd_X3_lowerThan cI cC cZ cB cJ a_tr a_tr_x a_tr_height a_tr_worth a_tr_ripe a_tr_foot a_tr_fork a_tr_settings tr_fruits tr_standings tr_comingFruits tr_comingStandings tr_x tr_height) t) A
abbrev rm_X3_lowerThan : Room := { frames := 1, cells := 0, slots := 0, locals := 21 }
section S_X3_lowerThan
variable {p : Program} {l : Launch} {e : Env} {s : State} {m : MethodId} {args : Array Value} {below : List Frame} {meth : Method} {c : Code} {dC : Nat → ClassId} {dI : Nat → Nat → Nat} {cI cC cZ cB cJ : ClassId} {A : Nat → Prop} {a_tr : Nat} {a_tr_x : Nat} {a_tr_height : Nat} {a_tr_worth : Nat} {a_tr_ripe : Nat} {a_tr_foot : Nat} {a_tr_fork : Nat} {a_tr_settings : Nat} {tr_fruits : Int32} {tr_standings : Int32} {tr_comingFruits : Int32} {tr_comingStandings : Int32} {tr_x : Nat → Int32} {tr_height : Nat → Int32} {post : Int32 → Prop}
def ws_X3_lowerThan_89 (post : Int32 → Prop) (K15 : Int32 → Int32 → Int32 → Int32 → Prop) (tr_fruits : Int32) (tr_x : Nat → Int32) (tr_height : Nat → Int32) (x1 : Int32) (x2 : Int32) (x3 : Int32) (x4 : Int32) : Prop := ∀ v_5 : Int32, v_5 = x4 + 1 → K15 x1 x2 x3 v_5
set_option maxHeartbeats 4000000 in
set_option maxRecDepth 100000 in
theorem ks_X3_lowerThan_89 (C0 : gc cX3_lowerThan (some .int) 6 RX3 (dC, dI) (tyl cI cC cZ cB cJ) A p s m args meth c) {K15 : Int32 → Int32 → Int32 → Int32 → Prop} (hK15 : ∀ (x1 : Int32) (x2 : Int32) (x3 : Int32) (x4 : Int32) (H : Heap) (locs : List Loc) (ls : Array Slot), K15 x1 x2 x3 x4 → va_P (dC, dI) classes (wd_X3_lowerThan cI cC cZ cB cJ a_tr a_tr_x a_tr_height a_tr_worth a_tr_ripe a_tr_foot a_tr_fork a_tr_settings tr_fruits tr_standings tr_comingFruits tr_comingStandings tr_x tr_height) H → va_D A (wd_X3_lowerThan cI cC cZ cB cJ a_tr a_tr_x a_tr_height a_tr_worth a_tr_ripe a_tr_foot a_tr_fork a_tr_settings tr_fruits tr_standings tr_comingFruits tr_comingStandings tr_x tr_height) → va_S A s.heap H locs → lv_has ls 6 [(0, .ref a_tr), (1, .int x1), (2, .int x2), (3, .int x3), (4, .int x4)] → W p l e rm_X3_lowerThan s m args below meth c H locs 0 0 (MQ below (q_X3_lowerThan dC dI cI cC cZ cB cJ A a_tr a_tr_x a_tr_height a_tr_worth a_tr_ripe a_tr_foot a_tr_fork a_tr_settings tr_fruits tr_standings tr_comingFruits tr_comingStandings tr_x tr_height post) args s 0 0 A) (F0 m 15 ls [])) : ∀ (x1 : Int32) (x2 : Int32) (x3 : Int32) (x4 : Int32) (H : Heap) (locs : List Loc) (ls : Array Slot), (ws_X3_lowerThan_89 post K15 tr_fruits tr_x tr_height) x1 x2 x3 x4 → va_P (dC, dI) classes (wd_X3_lowerThan cI cC cZ cB cJ a_tr a_tr_x a_tr_height a_tr_worth a_tr_ripe a_tr_foot a_tr_fork a_tr_settings tr_fruits tr_standings tr_comingFruits tr_comingStandings tr_x tr_height) H → va_D A (wd_X3_lowerThan cI cC cZ cB cJ a_tr a_tr_x a_tr_height a_tr_worth a_tr_ripe a_tr_foot a_tr_fork a_tr_settings tr_fruits tr_standings tr_comingFruits tr_comingStandings tr_x tr_height) → va_S A s.heap H locs → lv_has ls 6 [(0, .ref a_tr), (1, .int x1), (2, .int x2), (3, .int x3), (4, .int x4)] → W p l e rm_X3_lowerThan s m args below meth c H locs 0 0 (MQ below (q_X3_lowerThan dC dI cI cC cZ cB cJ A a_tr a_tr_x a_tr_height a_tr_worth a_tr_ripe a_tr_foot a_tr_fork a_tr_settings tr_fruits tr_standings tr_comingFruits tr_comingStandings tr_x tr_height post) args s 0 0 A) (F0 m 89 ls []) := by
  obtain ⟨hx, hb, hr, hml, hown, hts, hlocks, hA, hK, hN, tL, tM, hZL, hTL, hZM, hTM, hZX⟩ := id C0
  intro x1 x2 x3 x4 H locs ls hp hP hD hS hl
  unfold ws_X3_lowerThan_89 at hp
  obtain ⟨v_5, ev_5⟩ : ∃ y : Int32, y = x4 + 1 := ⟨_, rfl⟩
  refine lv_iinc (v := v_5) (lv' := [(4, .int v_5), (0, .ref a_tr), (1, .int x1), (2, .int x2), (3, .int x3)]) hx hb eX3_lowerThan_79.2.2.2.2.2.2.2.1 hl (k := 4) rfl (by rw [ev_5]; rfl) (by decide) rfl (fun ls hl => ?_)
  have hp := hp v_5 ev_5
  refine lv_goto (tgt := 15) hx hb eX3_lowerThan_79.2.2.2.2.2.2.2.2.1 (by decide) ?_
  exact hK15 x1 x2 x3 v_5 H locs ls hp hP hD hS (lv_sub hl [1, 2, 3, 4, 0] rfl)
def ws_X3_lowerThan_66 (post : Int32 → Prop) (K15 : Int32 → Int32 → Int32 → Int32 → Prop) (tr_fruits : Int32) (tr_x : Nat → Int32) (tr_height : Nat → Int32) (x1 : Int32) (x2 : Int32) (x3 : Int32) (x4 : Int32) (k0 : Int32) : Prop := (k0 = 0 → ws_X3_lowerThan_89 post K15 tr_fruits tr_x tr_height x1 x2 x3 x4) ∧ (¬ k0 = 0 → ∀ v_6 : Int32, v_6 = x2 >>> (x4 &&& 31) → ((v_6 &&& 1) = 0 → ws_X3_lowerThan_89 post K15 tr_fruits tr_x tr_height x1 x2 x3 x4) ∧ (¬ (v_6 &&& 1) = 0 → ∀ v_7 : Int32, v_7 = x3 ||| (1 <<< (x4 &&& 31)) → ws_X3_lowerThan_89 post K15 tr_fruits tr_x tr_height x1 x2 v_7 x4))
set_option maxHeartbeats 4000000 in
set_option maxRecDepth 100000 in
theorem ks_X3_lowerThan_66 (C0 : gc cX3_lowerThan (some .int) 6 RX3 (dC, dI) (tyl cI cC cZ cB cJ) A p s m args meth c) {K15 : Int32 → Int32 → Int32 → Int32 → Prop} (hK15 : ∀ (x1 : Int32) (x2 : Int32) (x3 : Int32) (x4 : Int32) (H : Heap) (locs : List Loc) (ls : Array Slot), K15 x1 x2 x3 x4 → va_P (dC, dI) classes (wd_X3_lowerThan cI cC cZ cB cJ a_tr a_tr_x a_tr_height a_tr_worth a_tr_ripe a_tr_foot a_tr_fork a_tr_settings tr_fruits tr_standings tr_comingFruits tr_comingStandings tr_x tr_height) H → va_D A (wd_X3_lowerThan cI cC cZ cB cJ a_tr a_tr_x a_tr_height a_tr_worth a_tr_ripe a_tr_foot a_tr_fork a_tr_settings tr_fruits tr_standings tr_comingFruits tr_comingStandings tr_x tr_height) → va_S A s.heap H locs → lv_has ls 6 [(0, .ref a_tr), (1, .int x1), (2, .int x2), (3, .int x3), (4, .int x4)] → W p l e rm_X3_lowerThan s m args below meth c H locs 0 0 (MQ below (q_X3_lowerThan dC dI cI cC cZ cB cJ A a_tr a_tr_x a_tr_height a_tr_worth a_tr_ripe a_tr_foot a_tr_fork a_tr_settings tr_fruits tr_standings tr_comingFruits tr_comingStandings tr_x tr_height post) args s 0 0 A) (F0 m 15 ls [])) : ∀ (x1 : Int32) (x2 : Int32) (x3 : Int32) (x4 : Int32) (k0 : Int32) (H : Heap) (locs : List Loc) (ls : Array Slot), (ws_X3_lowerThan_66 post K15 tr_fruits tr_x tr_height) x1 x2 x3 x4 k0 → va_P (dC, dI) classes (wd_X3_lowerThan cI cC cZ cB cJ a_tr a_tr_x a_tr_height a_tr_worth a_tr_ripe a_tr_foot a_tr_fork a_tr_settings tr_fruits tr_standings tr_comingFruits tr_comingStandings tr_x tr_height) H → va_D A (wd_X3_lowerThan cI cC cZ cB cJ a_tr a_tr_x a_tr_height a_tr_worth a_tr_ripe a_tr_foot a_tr_fork a_tr_settings tr_fruits tr_standings tr_comingFruits tr_comingStandings tr_x tr_height) → va_S A s.heap H locs → lv_has ls 6 [(0, .ref a_tr), (1, .int x1), (2, .int x2), (3, .int x3), (4, .int x4)] → W p l e rm_X3_lowerThan s m args below meth c H locs 0 0 (MQ below (q_X3_lowerThan dC dI cI cC cZ cB cJ A a_tr a_tr_x a_tr_height a_tr_worth a_tr_ripe a_tr_foot a_tr_fork a_tr_settings tr_fruits tr_standings tr_comingFruits tr_comingStandings tr_x tr_height post) args s 0 0 A) (F0 m 66 ls [.int k0]) := by
  obtain ⟨hx, hb, hr, hml, hown, hts, hlocks, hA, hK, hN, tL, tM, hZL, hTL, hZM, hTM, hZX⟩ := id C0
  intro x1 x2 x3 x4 k0 H locs ls hp hP hD hS hl
  unfold ws_X3_lowerThan_66 at hp
  refine lv_istore (lv' := [(5, .int k0), (0, .ref a_tr), (1, .int x1), (2, .int x2), (3, .int x3), (4, .int x4)]) hx hb eX3_lowerThan_52.2.2.2.2.2.2.2.2.1 hl (by decide) rfl (fun ls hl => ?_)
  refine lv_iload hx hb eX3_lowerThan_52.2.2.2.2.2.2.2.2.2.1 (lv_at hl 0 rfl) ?_
  refine lv_if_eq (tgt := 89) hx hb eX3_lowerThan_52.2.2.2.2.2.2.2.2.2.2.1 (by decide) (fun hc => ?_) (fun hc => ?_)
  · have hp := hp.1 hc
    exact ks_X3_lowerThan_89 C0 hK15 x1 x2 x3 x4 H locs ls hp hP hD hS (lv_sub hl [1, 2, 3, 4, 5] rfl)
  · have hp := hp.2 hc
    refine lv_iload_n hx hb eX3_lowerThan_52.2.2.2.2.2.2.2.2.2.2.2.1 rfl (lv_at hl 3 rfl) ?_
    refine lv_iload hx hb eX3_lowerThan_52.2.2.2.2.2.2.2.2.2.2.2.2.1 (lv_at hl 5 rfl) ?_
    refine lv_ishr hx hb eX3_lowerThan_52.2.2.2.2.2.2.2.2.2.2.2.2.2.1 ?_
    refine lv_topi (fun v_6 ev_6 => ?_)
    have hp := hp v_6 ev_6
    refine lv_iconst (v := 1) hx hb eX3_lowerThan_52.2.2.2.2.2.2.2.2.2.2.2.2.2.2.1 (by decide) ?_
    refine lv_iand hx hb eX3_lowerThan_52.2.2.2.2.2.2.2.2.2.2.2.2.2.2.2 ?_
    refine lv_if_eq (tgt := 89) hx hb eX3_lowerThan_79.1 (by decide) (fun hc => ?_) (fun hc => ?_)
    · have hp := hp.1 hc
      exact ks_X3_lowerThan_89 C0 hK15 x1 x2 x3 x4 H locs ls hp hP hD hS (lv_sub hl [1, 2, 3, 4, 5] rfl)
    · have hp := hp.2 hc
      refine lv_iload_n hx hb eX3_lowerThan_79.2.1 rfl (lv_at hl 4 rfl) ?_
      refine lv_iconst (v := 1) hx hb eX3_lowerThan_79.2.2.1 (by decide) ?_
      refine lv_iload hx hb eX3_lowerThan_79.2.2.2.1 (lv_at hl 5 rfl) ?_
      refine lv_ishl hx hb eX3_lowerThan_79.2.2.2.2.1 ?_
      refine lv_ior hx hb eX3_lowerThan_79.2.2.2.2.2.1 ?_
      refine lv_topi (fun v_7 ev_7 => ?_)
      have hp := hp v_7 ev_7
      refine lv_istore_n (lv' := [(3, .int v_7), (5, .int k0), (0, .ref a_tr), (1, .int x1), (2, .int x2), (4, .int x4)]) hx hb eX3_lowerThan_79.2.2.2.2.2.2.1 rfl hl (by decide) rfl (fun ls hl => ?_)
      exact ks_X3_lowerThan_89 C0 hK15 x1 x2 v_7 x4 H locs ls hp hP hD hS (lv_sub hl [2, 3, 4, 0, 5] rfl)
def ws_X3_lowerThan_65 (post : Int32 → Prop) (K15 : Int32 → Int32 → Int32 → Int32 → Prop) (tr_fruits : Int32) (tr_x : Nat → Int32) (tr_height : Nat → Int32) (x1 : Int32) (x2 : Int32) (x3 : Int32) (x4 : Int32) : Prop := ws_X3_lowerThan_66 post K15 tr_fruits tr_x tr_height x1 x2 x3 x4 0
set_option maxHeartbeats 4000000 in
set_option maxRecDepth 100000 in
theorem ks_X3_lowerThan_65 (C0 : gc cX3_lowerThan (some .int) 6 RX3 (dC, dI) (tyl cI cC cZ cB cJ) A p s m args meth c) {K15 : Int32 → Int32 → Int32 → Int32 → Prop} (hK15 : ∀ (x1 : Int32) (x2 : Int32) (x3 : Int32) (x4 : Int32) (H : Heap) (locs : List Loc) (ls : Array Slot), K15 x1 x2 x3 x4 → va_P (dC, dI) classes (wd_X3_lowerThan cI cC cZ cB cJ a_tr a_tr_x a_tr_height a_tr_worth a_tr_ripe a_tr_foot a_tr_fork a_tr_settings tr_fruits tr_standings tr_comingFruits tr_comingStandings tr_x tr_height) H → va_D A (wd_X3_lowerThan cI cC cZ cB cJ a_tr a_tr_x a_tr_height a_tr_worth a_tr_ripe a_tr_foot a_tr_fork a_tr_settings tr_fruits tr_standings tr_comingFruits tr_comingStandings tr_x tr_height) → va_S A s.heap H locs → lv_has ls 6 [(0, .ref a_tr), (1, .int x1), (2, .int x2), (3, .int x3), (4, .int x4)] → W p l e rm_X3_lowerThan s m args below meth c H locs 0 0 (MQ below (q_X3_lowerThan dC dI cI cC cZ cB cJ A a_tr a_tr_x a_tr_height a_tr_worth a_tr_ripe a_tr_foot a_tr_fork a_tr_settings tr_fruits tr_standings tr_comingFruits tr_comingStandings tr_x tr_height post) args s 0 0 A) (F0 m 15 ls [])) : ∀ (x1 : Int32) (x2 : Int32) (x3 : Int32) (x4 : Int32) (H : Heap) (locs : List Loc) (ls : Array Slot), (ws_X3_lowerThan_65 post K15 tr_fruits tr_x tr_height) x1 x2 x3 x4 → va_P (dC, dI) classes (wd_X3_lowerThan cI cC cZ cB cJ a_tr a_tr_x a_tr_height a_tr_worth a_tr_ripe a_tr_foot a_tr_fork a_tr_settings tr_fruits tr_standings tr_comingFruits tr_comingStandings tr_x tr_height) H → va_D A (wd_X3_lowerThan cI cC cZ cB cJ a_tr a_tr_x a_tr_height a_tr_worth a_tr_ripe a_tr_foot a_tr_fork a_tr_settings tr_fruits tr_standings tr_comingFruits tr_comingStandings tr_x tr_height) → va_S A s.heap H locs → lv_has ls 6 [(0, .ref a_tr), (1, .int x1), (2, .int x2), (3, .int x3), (4, .int x4)] → W p l e rm_X3_lowerThan s m args below meth c H locs 0 0 (MQ below (q_X3_lowerThan dC dI cI cC cZ cB cJ A a_tr a_tr_x a_tr_height a_tr_worth a_tr_ripe a_tr_foot a_tr_fork a_tr_settings tr_fruits tr_standings tr_comingFruits tr_comingStandings tr_x tr_height post) args s 0 0 A) (F0 m 65 ls []) := by
  obtain ⟨hx, hb, hr, hml, hown, hts, hlocks, hA, hK, hN, tL, tM, hZL, hTL, hZM, hTM, hZX⟩ := id C0
  intro x1 x2 x3 x4 H locs ls hp hP hD hS hl
  unfold ws_X3_lowerThan_65 at hp
  refine lv_iconst (v := 0) hx hb eX3_lowerThan_52.2.2.2.2.2.2.2.1 (by decide) ?_
  exact ks_X3_lowerThan_66 C0 hK15 x1 x2 x3 x4 0 H locs ls hp hP hD hS (lv_sub hl [0, 1, 2, 3, 4] rfl)
def ws_X3_lowerThan_15 (post : Int32 → Prop) (next : Int32 → Int32 → Int32 → Int32 → Prop) (tr_fruits : Int32) (tr_x : Nat → Int32) (tr_height : Nat → Int32) (x1 : Int32) (x2 : Int32) (x3 : Int32) (x4 : Int32) : Prop := (tr_fruits ≤ x4 → post x3) ∧ (¬ tr_fruits ≤ x4 → vp_in x4 16 ∧ (∀ v_2 : Int32, v_2 = tr_x x4.toNatClampNeg → vp_in x1 16 ∧ (∀ v_3 : Int32, v_3 = v_2 - (tr_x x1.toNatClampNeg) → ∀ v_4 : Int32, v_4 = (if 0 ≤ v_3 then v_3 else 0 - v_3) → (1 < v_4 → ws_X3_lowerThan_65 post next tr_fruits tr_x tr_height x1 x2 x3 x4) ∧ (¬ 1 < v_4 → vp_in x4 16 ∧ (∀ v_8 : Int32, v_8 = tr_height x4.toNatClampNeg → vp_in x1 16 ∧ (((tr_height x1.toNatClampNeg) ≤ v_8 → ws_X3_lowerThan_65 post next tr_fruits tr_x tr_height x1 x2 x3 x4) ∧ (¬ (tr_height x1.toNatClampNeg) ≤ v_8 → ws_X3_lowerThan_66 post next tr_fruits tr_x tr_height x1 x2 x3 x4 1)))))))
noncomputable def wb_X3_lowerThan_15 (post : Int32 → Prop) (tr_fruits : Int32) (tr_x : Nat → Int32) (tr_height : Nat → Int32) : Nat → Int32 → Int32 → Int32 → Int32 → Prop := fun n => Nat.rec (motive := fun _ => Int32 → Int32 → Int32 → Int32 → Prop) (fun _ _ _ _ => False) (fun _ ih => ws_X3_lowerThan_15 post ih tr_fruits tr_x tr_height) n
set_option maxHeartbeats 4000000 in
set_option maxRecDepth 100000 in
theorem ks_X3_lowerThan_15 (C0 : gc cX3_lowerThan (some .int) 6 RX3 (dC, dI) (tyl cI cC cZ cB cJ) A p s m args meth c) {next : Int32 → Int32 → Int32 → Int32 → Prop} (hKn : ∀ (x1 : Int32) (x2 : Int32) (x3 : Int32) (x4 : Int32) (H : Heap) (locs : List Loc) (ls : Array Slot), next x1 x2 x3 x4 → va_P (dC, dI) classes (wd_X3_lowerThan cI cC cZ cB cJ a_tr a_tr_x a_tr_height a_tr_worth a_tr_ripe a_tr_foot a_tr_fork a_tr_settings tr_fruits tr_standings tr_comingFruits tr_comingStandings tr_x tr_height) H → va_D A (wd_X3_lowerThan cI cC cZ cB cJ a_tr a_tr_x a_tr_height a_tr_worth a_tr_ripe a_tr_foot a_tr_fork a_tr_settings tr_fruits tr_standings tr_comingFruits tr_comingStandings tr_x tr_height) → va_S A s.heap H locs → lv_has ls 6 [(0, .ref a_tr), (1, .int x1), (2, .int x2), (3, .int x3), (4, .int x4)] → W p l e rm_X3_lowerThan s m args below meth c H locs 0 0 (MQ below (q_X3_lowerThan dC dI cI cC cZ cB cJ A a_tr a_tr_x a_tr_height a_tr_worth a_tr_ripe a_tr_foot a_tr_fork a_tr_settings tr_fruits tr_standings tr_comingFruits tr_comingStandings tr_x tr_height post) args s 0 0 A) (F0 m 15 ls [])) : ∀ (x1 : Int32) (x2 : Int32) (x3 : Int32) (x4 : Int32) (H : Heap) (locs : List Loc) (ls : Array Slot), (ws_X3_lowerThan_15 post next tr_fruits tr_x tr_height) x1 x2 x3 x4 → va_P (dC, dI) classes (wd_X3_lowerThan cI cC cZ cB cJ a_tr a_tr_x a_tr_height a_tr_worth a_tr_ripe a_tr_foot a_tr_fork a_tr_settings tr_fruits tr_standings tr_comingFruits tr_comingStandings tr_x tr_height) H → va_D A (wd_X3_lowerThan cI cC cZ cB cJ a_tr a_tr_x a_tr_height a_tr_worth a_tr_ripe a_tr_foot a_tr_fork a_tr_settings tr_fruits tr_standings tr_comingFruits tr_comingStandings tr_x tr_height) → va_S A s.heap H locs → lv_has ls 6 [(0, .ref a_tr), (1, .int x1), (2, .int x2), (3, .int x3), (4, .int x4)] → W p l e rm_X3_lowerThan s m args below meth c H locs 0 0 (MQ below (q_X3_lowerThan dC dI cI cC cZ cB cJ A a_tr a_tr_x a_tr_height a_tr_worth a_tr_ripe a_tr_foot a_tr_fork a_tr_settings tr_fruits tr_standings tr_comingFruits tr_comingStandings tr_x tr_height post) args s 0 0 A) (F0 m 15 ls []) := by
  obtain ⟨hx, hb, hr, hml, hown, hts, hlocks, hA, hK, hN, tL, tM, hZL, hTL, hZM, hTM, hZX⟩ := id C0
  intro x1 x2 x3 x4 H locs ls hp hP hD hS hl
  unfold ws_X3_lowerThan_15 at hp
  refine lv_iload hx hb eX3_lowerThan_0.2.2.2.2.2.2.2.2.2.2.2.2.1 (lv_at hl 4 rfl) ?_
  refine lv_aload_n hx hb eX3_lowerThan_0.2.2.2.2.2.2.2.2.2.2.2.2.2.1 rfl (lv_at hl 0 rfl) ?_
  refine va_get (D := (dC, dI)) (ci := 3) (v := .int tr_fruits) (C := RX3) (T := TX3) (N := 11) hx hb hts i_X3 hown hK hP 0 rfl rfl 7 (Nat.le_of_ble_eq_true rfl) (hts _ q_20) (fun _ h9 => h9) rfl eX3_lowerThan_0.2.2.2.2.2.2.2.2.2.2.2.2.2.2.1 ?_
  refine lv_icmp_ge (tgt := 95) hx hb eX3_lowerThan_0.2.2.2.2.2.2.2.2.2.2.2.2.2.2.2 (by decide) (fun hc => ?_) (fun hc => ?_)
  · have hp := hp.1 hc
    refine lv_iload_n hx hb eX3_lowerThan_79.2.2.2.2.2.2.2.2.2.1 rfl (lv_at hl 3 rfl) ?_
    exact W.iret (v := x3) hx hb hr (fun t ht hW => ⟨⟨x3, (), rfl, hp, by rw [ht]; exact hP, va_K.moved hW.alike hK, hD⟩, hS.F ht⟩) hS.2.2 eX3_lowerThan_79.2.2.2.2.2.2.2.2.2.2
  · have hp := hp.2 hc
    refine lv_aload_n hx hb eX3_lowerThan_24.1 rfl (lv_at hl 0 rfl) ?_
    refine va_get (D := (dC, dI)) (ci := 3) (v := .ref a_tr_x) (C := RX3) (T := TX3) (N := 11) hx hb hts i_X3 hown hK hP 0 rfl rfl 0 (Nat.le_of_ble_eq_true rfl) (hts _ q_45) (fun _ h9 => h9) rfl eX3_lowerThan_24.2.1 ?_
    refine lv_iload hx hb eX3_lowerThan_24.2.2.1 (lv_at hl 4 rfl) ?_
    have hin := hp.1
    have hp := hp.2
    refine va_iald hx hb hK hP 1 0 rfl rfl hin eX3_lowerThan_24.2.2.2.1 ?_
    refine lv_topi (fun v_2 ev_2 => ?_)
    have hp := hp v_2 ev_2
    refine lv_aload_n hx hb eX3_lowerThan_24.2.2.2.2.1 rfl (lv_at hl 0 rfl) ?_
    refine va_get (D := (dC, dI)) (ci := 3) (v := .ref a_tr_x) (C := RX3) (T := TX3) (N := 11) hx hb hts i_X3 hown hK hP 0 rfl rfl 0 (Nat.le_of_ble_eq_true rfl) (hts _ q_45) (fun _ h9 => h9) rfl eX3_lowerThan_24.2.2.2.2.2.1 ?_
    refine lv_iload_n hx hb eX3_lowerThan_24.2.2.2.2.2.2.1 rfl (lv_at hl 1 rfl) ?_
    have hin := hp.1
    have hp := hp.2
    refine va_iald hx hb hK hP 1 0 rfl rfl hin eX3_lowerThan_24.2.2.2.2.2.2.2.1 ?_
    refine lv_isub hx hb eX3_lowerThan_24.2.2.2.2.2.2.2.2.1 ?_
    refine lv_topi (fun v_3 ev_3 => ?_)
    have hp := hp v_3 ev_3
    refine va_mabs hx hb (by rw [hml]; exact hl.1.symm) hown (hts _ q_165) (hts _ q_166) (hts _ q_16) (hts _ q_167) (Nat.le_of_ble_eq_true rfl) (Nat.le_of_ble_eq_true rfl) (Nat.zero_le _) (Nat.zero_le _) eX3_lowerThan_24.2.2.2.2.2.2.2.2.2.1 ?_
    refine lv_topi (fun v_4 ev_4 => ?_)
    have hp := hp v_4 ev_4
    refine lv_iconst (v := 1) hx hb eX3_lowerThan_24.2.2.2.2.2.2.2.2.2.2.1 (by decide) ?_
    refine lv_icmp_gt (tgt := 65) hx hb eX3_lowerThan_24.2.2.2.2.2.2.2.2.2.2.2.1 (by decide) (fun hc => ?_) (fun hc => ?_)
    · have hp := hp.1 hc
      exact ks_X3_lowerThan_65 C0 hKn x1 x2 x3 x4 H locs ls hp hP hD hS (lv_sub hl [0, 1, 2, 3, 4] rfl)
    · have hp := hp.2 hc
      refine lv_aload_n hx hb eX3_lowerThan_24.2.2.2.2.2.2.2.2.2.2.2.2.1 rfl (lv_at hl 0 rfl) ?_
      refine va_get (D := (dC, dI)) (ci := 3) (v := .ref a_tr_height) (C := RX3) (T := TX3) (N := 11) hx hb hts i_X3 hown hK hP 0 rfl rfl 1 (Nat.le_of_ble_eq_true rfl) (hts _ q_46) (fun _ h9 => h9) rfl eX3_lowerThan_24.2.2.2.2.2.2.2.2.2.2.2.2.2.1 ?_
      refine lv_iload hx hb eX3_lowerThan_24.2.2.2.2.2.2.2.2.2.2.2.2.2.2.1 (lv_at hl 4 rfl) ?_
      have hin := hp.1
      have hp := hp.2
      refine va_iald hx hb hK hP 2 0 rfl rfl hin eX3_lowerThan_24.2.2.2.2.2.2.2.2.2.2.2.2.2.2.2 ?_
      refine lv_topi (fun v_8 ev_8 => ?_)
      have hp := hp v_8 ev_8
      refine lv_aload_n hx hb eX3_lowerThan_52.1 rfl (lv_at hl 0 rfl) ?_
      refine va_get (D := (dC, dI)) (ci := 3) (v := .ref a_tr_height) (C := RX3) (T := TX3) (N := 11) hx hb hts i_X3 hown hK hP 0 rfl rfl 1 (Nat.le_of_ble_eq_true rfl) (hts _ q_46) (fun _ h9 => h9) rfl eX3_lowerThan_52.2.1 ?_
      refine lv_iload_n hx hb eX3_lowerThan_52.2.2.1 rfl (lv_at hl 1 rfl) ?_
      have hin := hp.1
      have hp := hp.2
      refine va_iald hx hb hK hP 2 0 rfl rfl hin eX3_lowerThan_52.2.2.2.1 ?_
      refine lv_icmp_ge (tgt := 65) hx hb eX3_lowerThan_52.2.2.2.2.1 (by decide) (fun hc => ?_) (fun hc => ?_)
      · have hp := hp.1 hc
        exact ks_X3_lowerThan_65 C0 hKn x1 x2 x3 x4 H locs ls hp hP hD hS (lv_sub hl [0, 1, 2, 3, 4] rfl)
      · have hp := hp.2 hc
        refine lv_iconst (v := 1) hx hb eX3_lowerThan_52.2.2.2.2.2.1 (by decide) ?_
        refine lv_goto (tgt := 66) hx hb eX3_lowerThan_52.2.2.2.2.2.2.1 (by decide) ?_
        exact ks_X3_lowerThan_66 C0 hKn x1 x2 x3 x4 1 H locs ls hp hP hD hS (lv_sub hl [0, 1, 2, 3, 4] rfl)
set_option maxHeartbeats 4000000 in
set_option maxRecDepth 100000 in
theorem kb_X3_lowerThan_15 (C0 : gc cX3_lowerThan (some .int) 6 RX3 (dC, dI) (tyl cI cC cZ cB cJ) A p s m args meth c) : ∀ (n : Nat), ∀ (x1 : Int32) (x2 : Int32) (x3 : Int32) (x4 : Int32) (H : Heap) (locs : List Loc) (ls : Array Slot), (wb_X3_lowerThan_15 post tr_fruits tr_x tr_height n) x1 x2 x3 x4 → va_P (dC, dI) classes (wd_X3_lowerThan cI cC cZ cB cJ a_tr a_tr_x a_tr_height a_tr_worth a_tr_ripe a_tr_foot a_tr_fork a_tr_settings tr_fruits tr_standings tr_comingFruits tr_comingStandings tr_x tr_height) H → va_D A (wd_X3_lowerThan cI cC cZ cB cJ a_tr a_tr_x a_tr_height a_tr_worth a_tr_ripe a_tr_foot a_tr_fork a_tr_settings tr_fruits tr_standings tr_comingFruits tr_comingStandings tr_x tr_height) → va_S A s.heap H locs → lv_has ls 6 [(0, .ref a_tr), (1, .int x1), (2, .int x2), (3, .int x3), (4, .int x4)] → W p l e rm_X3_lowerThan s m args below meth c H locs 0 0 (MQ below (q_X3_lowerThan dC dI cI cC cZ cB cJ A a_tr a_tr_x a_tr_height a_tr_worth a_tr_ripe a_tr_foot a_tr_fork a_tr_settings tr_fruits tr_standings tr_comingFruits tr_comingStandings tr_x tr_height post) args s 0 0 A) (F0 m 15 ls []) := by
  intro n
  induction n with
  | zero =>
    intro x1 x2 x3 x4 H locs ls hp
    exact False.elim hp
  | succ n ih =>
    intro x1 x2 x3 x4 H locs ls hp
    exact ks_X3_lowerThan_15 C0 ih x1 x2 x3 x4 H locs ls hp
end S_X3_lowerThan
def wp_X3_lowerThan (post : Int32 → Prop) (p0 : Int32) (p1 : Int32) (tr_fruits : Int32) (tr_x : Nat → Int32) (tr_height : Nat → Int32) : Prop := ∀ v_1 : Int32, v_1 = p1 >>> (p0 &&& 31) → (¬ (v_1 &&& 1) = 0 → ∃ n : Nat, wb_X3_lowerThan_15 post tr_fruits tr_x tr_height n p0 p1 0 0) ∧ ((v_1 &&& 1) = 0 → post 0)
set_option maxHeartbeats 4000000 in
set_option maxRecDepth 100000 in
theorem c_X3_lowerThan (l : Launch) (dC : Nat → ClassId) (dI : Nat → Nat → Nat) (cI cC cZ cB cJ : ClassId) (a_tr : Nat) (a_tr_x : Nat) (a_tr_height : Nat) (a_tr_worth : Nat) (a_tr_ripe : Nat) (a_tr_foot : Nat) (a_tr_fork : Nat) (a_tr_settings : Nat) (sz : Nat) (p0 : Int32) (p1 : Int32) (tr_fruits : Int32) (tr_standings : Int32) (tr_comingFruits : Int32) (tr_comingStandings : Int32) (tr_x : Nat → Int32) (tr_height : Nat → Int32) (post : Int32 → Prop) (hw : wp_X3_lowerThan post p0 p1 tr_fruits tr_x tr_height) : Met l yX3_lowerThan (gw yX3_lowerThan cX3_lowerThan 6 (some .int)) rm_X3_lowerThan (va_Pc [.ref a_tr, .int p0, .int p1] (gPre (dC, dI) (tyl cI cC cZ cB cJ) (wd_X3_lowerThan cI cC cZ cB cJ a_tr a_tr_x a_tr_height a_tr_worth a_tr_ripe a_tr_foot a_tr_fork a_tr_settings tr_fruits tr_standings tr_comingFruits tr_comingStandings tr_x tr_height) sz)) (q_X3_lowerThan dC dI cI cC cZ cB cJ (va_A (wd_X3_lowerThan cI cC cZ cB cJ a_tr a_tr_x a_tr_height a_tr_worth a_tr_ripe a_tr_foot a_tr_fork a_tr_settings tr_fruits tr_standings tr_comingFruits tr_comingStandings tr_x tr_height) sz) a_tr a_tr_x a_tr_height a_tr_worth a_tr_ripe a_tr_foot a_tr_fork a_tr_settings tr_fruits tr_standings tr_comingFruits tr_comingStandings tr_x tr_height post) 0 0 (va_A (wd_X3_lowerThan cI cC cZ cB cJ a_tr a_tr_x a_tr_height a_tr_worth a_tr_ripe a_tr_foot a_tr_fork a_tr_settings tr_fruits tr_standings tr_comingFruits tr_comingStandings tr_x tr_height) sz) := by
  refine g_enter (own := RX3) (dC, dI) (tyl cI cC cZ cB cJ) (wd_X3_lowerThan cI cC cZ cB cJ a_tr a_tr_x a_tr_height a_tr_worth a_tr_ripe a_tr_foot a_tr_fork a_tr_settings tr_fruits tr_standings tr_comingFruits tr_comingStandings tr_x tr_height) sz [.ref a_tr, .int p0, .int p1] (fun A => q_X3_lowerThan dC dI cI cC cZ cB cJ A a_tr a_tr_x a_tr_height a_tr_worth a_tr_ripe a_tr_foot a_tr_fork a_tr_settings tr_fruits tr_standings tr_comingFruits tr_comingStandings tr_x tr_height post) (by decide) rfl (Nat.le_of_ble_eq_true rfl) ?_
  intro p e s m args below meth c A H locs ls C0 hP hD hS hl
  have hl : lv_has ls 6 [(0, .ref a_tr), (1, .int p0), (2, .int p1)] := hl
  obtain ⟨hx, hb, hr, hml, hown, hts, hlocks, hA, hK, hN, tL, tM, hZL, hTL, hZM, hTM, hZX⟩ := id C0
  have hp := hw
  unfold wp_X3_lowerThan at hp
  refine lv_iload_n hx hb eX3_lowerThan_0.1 rfl (lv_at hl 2 rfl) ?_
  refine lv_iload_n hx hb eX3_lowerThan_0.2.1 rfl (lv_at hl 1 rfl) ?_
  refine lv_ishr hx hb eX3_lowerThan_0.2.2.1 ?_
  refine lv_topi (fun v_1 ev_1 => ?_)
  have hp := hp v_1 ev_1
  refine lv_iconst (v := 1) hx hb eX3_lowerThan_0.2.2.2.1 (by decide) ?_
  refine lv_iand hx hb eX3_lowerThan_0.2.2.2.2.1 ?_
  refine lv_if_ne (tgt := 10) hx hb eX3_lowerThan_0.2.2.2.2.2.1 (by decide) (fun hc => ?_) (fun hc => ?_)
  · have hp := hp.1 hc
    refine lv_iconst (v := 0) hx hb eX3_lowerThan_0.2.2.2.2.2.2.2.2.1 (by decide) ?_
    refine lv_istore_n (lv' := [(3, .int 0), (0, .ref a_tr), (1, .int p0), (2, .int p1)]) hx hb eX3_lowerThan_0.2.2.2.2.2.2.2.2.2.1 rfl hl (by decide) rfl (fun ls hl => ?_)
    refine lv_iconst (v := 0) hx hb eX3_lowerThan_0.2.2.2.2.2.2.2.2.2.2.1 (by decide) ?_
    refine lv_istore (lv' := [(4, .int 0), (3, .int 0), (0, .ref a_tr), (1, .int p0), (2, .int p1)]) hx hb eX3_lowerThan_0.2.2.2.2.2.2.2.2.2.2.2.1 hl (by decide) rfl (fun ls hl => ?_)
    obtain ⟨n9, hp⟩ := hp
    exact kb_X3_lowerThan_15 C0 n9 p0 p1 0 0 H locs ls hp hP hD hS (lv_sub hl [2, 3, 4, 1, 0] rfl)
  · have hp := hp.2 hc
    refine lv_iconst (v := 0) hx hb eX3_lowerThan_0.2.2.2.2.2.2.1 (by decide) ?_
    exact W.iret (v := 0) hx hb hr (fun t ht hW => ⟨⟨0, (), rfl, hp, by rw [ht]; exact hP, va_K.moved hW.alike hK, hD⟩, hS.F ht⟩) hS.2.2 eX3_lowerThan_0.2.2.2.2.2.2.2.1
abbrev wd_X2_whereIs (cI cC cZ cB cJ : ClassId) (a_no : Nat) (no_apron : Int32) (no_basket : Int32) (no_ground : Int32) (no_bruised : Int32) (no_ladder : Int32) (no_helper : Int32) (no_today : Int32) (no_clock : Int32) : va_W := [(a_no, .inr (2, [.int no_apron, .int no_basket, .int no_ground, .int no_bruised, .int no_ladder, .int no_helper, .int no_today, .int no_clock]))]
abbrev q_X2_whereIs (dC : Nat → ClassId) (dI : Nat → Nat → Nat) (cI cC cZ cB cJ : ClassId) (A : Nat → Prop) (a_no : Nat) (no_apron : Int32) (no_basket : Int32) (no_ground : Int32) (no_bruised : Int32) (no_ladder : Int32) (no_helper : Int32) (no_today : Int32) (no_clock : Int32) (post : Int32 → Prop) : Array Value → State → Outcome → State → Prop := va_Qi (fun (r : Int32) (u : Unit) => post r) (fun u t => gB (dC, dI) (tyl cI cC cZ cB cJ) A (wd_X2_whereIs cI cC cZ cB cJ a_no no_apron no_basket no_ground no_bruised no_ladder no_helper no_today no_clock) t) A
abbrev rm_X2_whereIs : Room := { frames := 0, cells := 0, slots := 0, locals := 0 }
def wp_X2_whereIs (post : Int32 → Prop) (p0 : Int32) (no_apron : Int32) (no_basket : Int32) (no_ground : Int32) : Prop := ∀ v_1 : Int32, v_1 = no_apron >>> (p0 &&& 31) → ∀ v_2 : Int32, v_2 = v_1 &&& 1 → ∀ v_3 : Int32, v_3 = no_basket >>> (p0 &&& 31) → ∀ v_4 : Int32, v_4 = v_2 + (2 * (v_3 &&& 1)) → ∀ v_5 : Int32, v_5 = no_ground >>> (p0 &&& 31) → post (v_4 + (3 * (v_5 &&& 1)))
set_option maxHeartbeats 4000000 in
set_option maxRecDepth 100000 in
theorem c_X2_whereIs (l : Launch) (dC : Nat → ClassId) (dI : Nat → Nat → Nat) (cI cC cZ cB cJ : ClassId) (a_no : Nat) (sz : Nat) (p0 : Int32) (no_apron : Int32) (no_basket : Int32) (no_ground : Int32) (no_bruised : Int32) (no_ladder : Int32) (no_helper : Int32) (no_today : Int32) (no_clock : Int32) (post : Int32 → Prop) (hw : wp_X2_whereIs post p0 no_apron no_basket no_ground) : Met l yX2_whereIs (gw yX2_whereIs cX2_whereIs 2 (some .int)) rm_X2_whereIs (va_Pc [.ref a_no, .int p0] (gPre (dC, dI) (tyl cI cC cZ cB cJ) (wd_X2_whereIs cI cC cZ cB cJ a_no no_apron no_basket no_ground no_bruised no_ladder no_helper no_today no_clock) sz)) (q_X2_whereIs dC dI cI cC cZ cB cJ (va_A (wd_X2_whereIs cI cC cZ cB cJ a_no no_apron no_basket no_ground no_bruised no_ladder no_helper no_today no_clock) sz) a_no no_apron no_basket no_ground no_bruised no_ladder no_helper no_today no_clock post) 0 0 (va_A (wd_X2_whereIs cI cC cZ cB cJ a_no no_apron no_basket no_ground no_bruised no_ladder no_helper no_today no_clock) sz) := by
  refine g_enter (own := RX2) (dC, dI) (tyl cI cC cZ cB cJ) (wd_X2_whereIs cI cC cZ cB cJ a_no no_apron no_basket no_ground no_bruised no_ladder no_helper no_today no_clock) sz [.ref a_no, .int p0] (fun A => q_X2_whereIs dC dI cI cC cZ cB cJ A a_no no_apron no_basket no_ground no_bruised no_ladder no_helper no_today no_clock post) (by decide) rfl (Nat.le_of_ble_eq_true rfl) ?_
  intro p e s m args below meth c A H locs ls C0 hP hD hS hl
  have hl : lv_has ls 2 [(0, .ref a_no), (1, .int p0)] := hl
  obtain ⟨hx, hb, hr, hml, hown, hts, hlocks, hA, hK, hN, tL, tM, hZL, hTL, hZM, hTM, hZX⟩ := id C0
  have hp := hw
  unfold wp_X2_whereIs at hp
  refine lv_aload_n hx hb eX2_whereIs_0.1 rfl (lv_at hl 0 rfl) ?_
  refine va_get (D := (dC, dI)) (ci := 2) (v := .int no_apron) (C := RX2) (T := TX2) (N := 8) hx hb hts i_X2 hown hK hP 0 rfl rfl 0 (Nat.le_of_ble_eq_true rfl) (hts _ q_168) (fun _ h9 => h9) rfl eX2_whereIs_0.2.1 ?_
  refine lv_iload_n hx hb eX2_whereIs_0.2.2.1 rfl (lv_at hl 1 rfl) ?_
  refine lv_ishr hx hb eX2_whereIs_0.2.2.2.1 ?_
  refine lv_topi (fun v_1 ev_1 => ?_)
  have hp := hp v_1 ev_1
  refine lv_iconst (v := 1) hx hb eX2_whereIs_0.2.2.2.2.1 (by decide) ?_
  refine lv_iand hx hb eX2_whereIs_0.2.2.2.2.2.1 ?_
  refine lv_topi (fun v_2 ev_2 => ?_)
  have hp := hp v_2 ev_2
  refine lv_iconst (v := 2) hx hb eX2_whereIs_0.2.2.2.2.2.2.1 (by decide) ?_
  refine lv_aload_n hx hb eX2_whereIs_0.2.2.2.2.2.2.2.1 rfl (lv_at hl 0 rfl) ?_
  refine va_get (D := (dC, dI)) (ci := 2) (v := .int no_basket) (C := RX2) (T := TX2) (N := 8) hx hb hts i_X2 hown hK hP 0 rfl rfl 1 (Nat.le_of_ble_eq_true rfl) (hts _ q_169) (fun _ h9 => h9) rfl eX2_whereIs_0.2.2.2.2.2.2.2.2.1 ?_
  refine lv_iload_n hx hb eX2_whereIs_0.2.2.2.2.2.2.2.2.2.1 rfl (lv_at hl 1 rfl) ?_
  refine lv_ishr hx hb eX2_whereIs_0.2.2.2.2.2.2.2.2.2.2.1 ?_
  refine lv_topi (fun v_3 ev_3 => ?_)
  have hp := hp v_3 ev_3
  refine lv_iconst (v := 1) hx hb eX2_whereIs_0.2.2.2.2.2.2.2.2.2.2.2.1 (by decide) ?_
  refine lv_iand hx hb eX2_whereIs_0.2.2.2.2.2.2.2.2.2.2.2.2.1 ?_
  refine lv_imul hx hb eX2_whereIs_0.2.2.2.2.2.2.2.2.2.2.2.2.2.1 ?_
  refine lv_iadd hx hb eX2_whereIs_0.2.2.2.2.2.2.2.2.2.2.2.2.2.2.1 ?_
  refine lv_topi (fun v_4 ev_4 => ?_)
  have hp := hp v_4 ev_4
  refine lv_iconst (v := 3) hx hb eX2_whereIs_0.2.2.2.2.2.2.2.2.2.2.2.2.2.2.2 (by decide) ?_
  refine lv_aload_n hx hb eX2_whereIs_20.1 rfl (lv_at hl 0 rfl) ?_
  refine va_get (D := (dC, dI)) (ci := 2) (v := .int no_ground) (C := RX2) (T := TX2) (N := 8) hx hb hts i_X2 hown hK hP 0 rfl rfl 2 (Nat.le_of_ble_eq_true rfl) (hts _ q_170) (fun _ h9 => h9) rfl eX2_whereIs_20.2.1 ?_
  refine lv_iload_n hx hb eX2_whereIs_20.2.2.1 rfl (lv_at hl 1 rfl) ?_
  refine lv_ishr hx hb eX2_whereIs_20.2.2.2.1 ?_
  refine lv_topi (fun v_5 ev_5 => ?_)
  have hp := hp v_5 ev_5
  refine lv_iconst (v := 1) hx hb eX2_whereIs_20.2.2.2.2.1 (by decide) ?_
  refine lv_iand hx hb eX2_whereIs_20.2.2.2.2.2.1 ?_
  refine lv_imul hx hb eX2_whereIs_20.2.2.2.2.2.2.1 ?_
  refine lv_iadd hx hb eX2_whereIs_20.2.2.2.2.2.2.2.1 ?_
  exact W.iret (v := v_4 + (3 * (v_5 &&& 1))) hx hb hr (fun t ht hW => ⟨⟨v_4 + (3 * (v_5 &&& 1)), (), rfl, hp, by rw [ht]; exact hP, va_K.moved hW.alike hK, hD⟩, hS.F ht⟩) hS.2.2 eX2_whereIs_20.2.2.2.2.2.2.2.2
abbrev wd_X9_fruit (cI cC cZ cB cJ : ClassId) (a_x : Nat) (a_tx : Nat) (a_pl : Nat) (a_ga : Nat) (a_tr : Nat) (a_no : Nat) (a_pa : Nat) (a_ro : Nat) (a_mk : Nat) (a_x_acts : Nat) (a_ru : Nat) (a_tr_x : Nat) (a_tr_height : Nat) (a_tr_worth : Nat) (a_tr_ripe : Nat) (a_tr_foot : Nat) (a_tr_fork : Nat) (a_tr_settings : Nat) (tr_fruits : Int32) (tr_standings : Int32) (tr_comingFruits : Int32) (tr_comingStandings : Int32) (tr_x : Nat → Int32) (tr_height : Nat → Int32) (tr_worth : Nat → Int32) (tr_ripe : Nat → Int32) (no_apron : Int32) (no_basket : Int32) (no_ground : Int32) (no_bruised : Int32) (no_ladder : Int32) (no_helper : Int32) (no_today : Int32) (no_clock : Int32) : va_W := [(a_x, .inr (9, [.ref a_tx, .ref a_pl, .ref a_ga, .ref a_tr, .ref a_no, .ref a_pa, .ref a_ro, .ref a_mk, .ref a_x_acts])), (a_ga, .inr (0, [.ref a_tr, .ref a_no, .ref a_ru])), (a_tr, .inr (3, [.ref a_tr_x, .ref a_tr_height, .ref a_tr_worth, .ref a_tr_ripe, .ref a_tr_foot, .ref a_tr_fork, .ref a_tr_settings, .int tr_fruits, .int tr_standings, .int tr_comingFruits, .int tr_comingStandings])), (a_tr_x, .inl (cI, 16, .inl tr_x)), (a_tr_height, .inl (cI, 16, .inl tr_height)), (a_tr_worth, .inl (cI, 16, .inl tr_worth)), (a_tr_ripe, .inl (cI, 16, .inl tr_ripe)), (a_no, .inr (2, [.int no_apron, .int no_basket, .int no_ground, .int no_bruised, .int no_ladder, .int no_helper, .int no_today, .int no_clock]))]
abbrev q_X9_fruit (dC : Nat → ClassId) (dI : Nat → Nat → Nat) (cI cC cZ cB cJ : ClassId) (A : Nat → Prop) (a_x : Nat) (a_tx : Nat) (a_pl : Nat) (a_ga : Nat) (a_tr : Nat) (a_no : Nat) (a_pa : Nat) (a_ro : Nat) (a_mk : Nat) (a_x_acts : Nat) (a_ru : Nat) (a_tr_x : Nat) (a_tr_height : Nat) (a_tr_worth : Nat) (a_tr_ripe : Nat) (a_tr_foot : Nat) (a_tr_fork : Nat) (a_tr_settings : Nat) (tr_fruits : Int32) (tr_standings : Int32) (tr_comingFruits : Int32) (tr_comingStandings : Int32) (tr_x : Nat → Int32) (tr_height : Nat → Int32) (tr_worth : Nat → Int32) (tr_ripe : Nat → Int32) (no_apron : Int32) (no_basket : Int32) (no_ground : Int32) (no_bruised : Int32) (no_ladder : Int32) (no_helper : Int32) (no_today : Int32) (no_clock : Int32) (post : Int32 → Prop) : Array Value → State → Outcome → State → Prop := va_Qi (fun (r : Int32) (u : Unit) => post r) (fun u t => gB (dC, dI) (tyl cI cC cZ cB cJ) A (wd_X9_fruit cI cC cZ cB cJ a_x a_tx a_pl a_ga a_tr a_no a_pa a_ro a_mk a_x_acts a_ru a_tr_x a_tr_height a_tr_worth a_tr_ripe a_tr_foot a_tr_fork a_tr_settings tr_fruits tr_standings tr_comingFruits tr_comingStandings tr_x tr_height tr_worth tr_ripe no_apron no_basket no_ground no_bruised no_ladder no_helper no_today no_clock) t) A
abbrev rm_X9_fruit : Room := { frames := 6, cells := 1, slots := 6, locals := 100 }
def wp_X9_fruit (post : Int32 → Prop) (postx : Prop) (p0 : Int32) (p1 : Int32) (tr_fruits : Int32) (tr_x : Nat → Int32) (tr_height : Nat → Int32) (tr_worth : Nat → Int32) (tr_ripe : Nat → Int32) (no_apron : Int32) (no_basket : Int32) (no_ground : Int32) (no_bruised : Int32) : Prop := wp_X3_hasFruit (fun r_1 => (¬ r_1 = 0 → (p1 = 0 → vp_in p0 16 ∧ (post (tr_x p0.toNatClampNeg))) ∧ (p1 = 1 → vp_in p0 16 ∧ (post (tr_height p0.toNatClampNeg))) ∧ (p1 = 2 → vp_in p0 16 ∧ (post (tr_worth p0.toNatClampNeg))) ∧ (p1 = 3 → vp_in p0 16 ∧ (post (tr_ripe p0.toNatClampNeg))) ∧ (p1 = 4 → wp_X2_whereIs (fun r_2 => post r_2) p0 no_apron no_basket no_ground) ∧ (p1 = 5 → ∀ v_3 : Int32, v_3 = no_bruised >>> (p0 &&& 31) → post (v_3 &&& 1)) ∧ (p1 = 6 → wp_X0_hanging (fun r_4 => wp_X3_lowerThan (fun r_5 => post r_5) p0 r_4 tr_fruits tr_x tr_height) tr_fruits no_apron no_basket no_ground) ∧ (¬ p1 = 0 → ¬ p1 = 1 → ¬ p1 = 2 → ¬ p1 = 3 → ¬ p1 = 4 → ¬ p1 = 5 → ¬ p1 = 6 → postx)) ∧ (r_1 = 0 → postx)) p0 tr_fruits
set_option maxHeartbeats 4000000 in
set_option maxRecDepth 100000 in
theorem c_X9_fruit (l : Launch) (hl9 : l.stackTraces = false) (dC : Nat → ClassId) (dI : Nat → Nat → Nat) (cI cC cZ cB cJ : ClassId) (a_x : Nat) (a_tx : Nat) (a_pl : Nat) (a_ga : Nat) (a_tr : Nat) (a_no : Nat) (a_pa : Nat) (a_ro : Nat) (a_mk : Nat) (a_x_acts : Nat) (a_ru : Nat) (a_tr_x : Nat) (a_tr_height : Nat) (a_tr_worth : Nat) (a_tr_ripe : Nat) (a_tr_foot : Nat) (a_tr_fork : Nat) (a_tr_settings : Nat) (sz : Nat) (p0 : Int32) (p1 : Int32) (tr_fruits : Int32) (tr_standings : Int32) (tr_comingFruits : Int32) (tr_comingStandings : Int32) (tr_x : Nat → Int32) (tr_height : Nat → Int32) (tr_worth : Nat → Int32) (tr_ripe : Nat → Int32) (no_apron : Int32) (no_basket : Int32) (no_ground : Int32) (no_bruised : Int32) (no_ladder : Int32) (no_helper : Int32) (no_today : Int32) (no_clock : Int32) (post : Int32 → Prop) (postx : Prop) (hw : wp_X9_fruit post postx p0 p1 tr_fruits tr_x tr_height tr_worth tr_ripe no_apron no_basket no_ground no_bruised) : vx_Met l yX9_fruit (gw yX9_fruit cX9_fruit 3 (some .int)) rm_X9_fruit (va_Pc [.ref a_x, .int p0, .int p1] (gPre (dC, dI) (tyl cI cC cZ cB cJ) (wd_X9_fruit cI cC cZ cB cJ a_x a_tx a_pl a_ga a_tr a_no a_pa a_ro a_mk a_x_acts a_ru a_tr_x a_tr_height a_tr_worth a_tr_ripe a_tr_foot a_tr_fork a_tr_settings tr_fruits tr_standings tr_comingFruits tr_comingStandings tr_x tr_height tr_worth tr_ripe no_apron no_basket no_ground no_bruised no_ladder no_helper no_today no_clock) sz)) (q_X9_fruit dC dI cI cC cZ cB cJ (va_A (wd_X9_fruit cI cC cZ cB cJ a_x a_tx a_pl a_ga a_tr a_no a_pa a_ro a_mk a_x_acts a_ru a_tr_x a_tr_height a_tr_worth a_tr_ripe a_tr_foot a_tr_fork a_tr_settings tr_fruits tr_standings tr_comingFruits tr_comingStandings tr_x tr_height tr_worth tr_ripe no_apron no_basket no_ground no_bruised no_ladder no_helper no_today no_clock) sz) a_x a_tx a_pl a_ga a_tr a_no a_pa a_ro a_mk a_x_acts a_ru a_tr_x a_tr_height a_tr_worth a_tr_ripe a_tr_foot a_tr_fork a_tr_settings tr_fruits tr_standings tr_comingFruits tr_comingStandings tr_x tr_height tr_worth tr_ripe no_apron no_basket no_ground no_bruised no_ladder no_helper no_today no_clock post) (gXC (dC, dI) (tyl cI cC cZ cB cJ) (va_A (wd_X9_fruit cI cC cZ cB cJ a_x a_tx a_pl a_ga a_tr a_no a_pa a_ro a_mk a_x_acts a_ru a_tr_x a_tr_height a_tr_worth a_tr_ripe a_tr_foot a_tr_fork a_tr_settings tr_fruits tr_standings tr_comingFruits tr_comingStandings tr_x tr_height tr_worth tr_ripe no_apron no_basket no_ground no_bruised no_ladder no_helper no_today no_clock) sz) (wd_X9_fruit cI cC cZ cB cJ a_x a_tx a_pl a_ga a_tr a_no a_pa a_ro a_mk a_x_acts a_ru a_tr_x a_tr_height a_tr_worth a_tr_ripe a_tr_foot a_tr_fork a_tr_settings tr_fruits tr_standings tr_comingFruits tr_comingStandings tr_x tr_height tr_worth tr_ripe no_apron no_basket no_ground no_bruised no_ladder no_helper no_today no_clock) postx) 1 6 (va_A (wd_X9_fruit cI cC cZ cB cJ a_x a_tx a_pl a_ga a_tr a_no a_pa a_ro a_mk a_x_acts a_ru a_tr_x a_tr_height a_tr_worth a_tr_ripe a_tr_foot a_tr_fork a_tr_settings tr_fruits tr_standings tr_comingFruits tr_comingStandings tr_x tr_height tr_worth tr_ripe no_apron no_basket no_ground no_bruised no_ladder no_helper no_today no_clock) sz) := by
  refine g_enterX (own := RX9) (dC, dI) (tyl cI cC cZ cB cJ) (wd_X9_fruit cI cC cZ cB cJ a_x a_tx a_pl a_ga a_tr a_no a_pa a_ro a_mk a_x_acts a_ru a_tr_x a_tr_height a_tr_worth a_tr_ripe a_tr_foot a_tr_fork a_tr_settings tr_fruits tr_standings tr_comingFruits tr_comingStandings tr_x tr_height tr_worth tr_ripe no_apron no_basket no_ground no_bruised no_ladder no_helper no_today no_clock) sz [.ref a_x, .int p0, .int p1] (fun A => q_X9_fruit dC dI cI cC cZ cB cJ A a_x a_tx a_pl a_ga a_tr a_no a_pa a_ro a_mk a_x_acts a_ru a_tr_x a_tr_height a_tr_worth a_tr_ripe a_tr_foot a_tr_fork a_tr_settings tr_fruits tr_standings tr_comingFruits tr_comingStandings tr_x tr_height tr_worth tr_ripe no_apron no_basket no_ground no_bruised no_ladder no_helper no_today no_clock post) (fun A => (gXC (dC, dI) (tyl cI cC cZ cB cJ) A (wd_X9_fruit cI cC cZ cB cJ a_x a_tx a_pl a_ga a_tr a_no a_pa a_ro a_mk a_x_acts a_ru a_tr_x a_tr_height a_tr_worth a_tr_ripe a_tr_foot a_tr_fork a_tr_settings tr_fruits tr_standings tr_comingFruits tr_comingStandings tr_x tr_height tr_worth tr_ripe no_apron no_basket no_ground no_bruised no_ladder no_helper no_today no_clock) postx)) (by decide) rfl (Nat.le_of_ble_eq_true rfl) ?_
  intro p e s m args below meth c A H locs ls C0 htab hP hD hS hl
  have hl : lv_has ls 3 [(0, .ref a_x), (1, .int p0), (2, .int p1)] := hl
  obtain ⟨hx, hb, hr, hml, hown, hts, hlocks, hA, hK, hN, tL, tM, hZL, hTL, hZM, hTM, hZX⟩ := id C0
  have hp := hw
  unfold wp_X9_fruit at hp
  refine lv_aload_n hx hb eX9_fruit_0.1 rfl (lv_at hl 0 rfl) ?_
  refine va_get (D := (dC, dI)) (ci := 9) (v := .ref a_tr) (C := RX9) (T := TX9) (N := 9) hx hb hts i_X9 hown hK hP 0 rfl rfl 3 (Nat.le_of_ble_eq_true rfl) (hts _ q_74) (fun _ h9 => h9) rfl eX9_fruit_0.2.1 ?_
  refine lv_iload_n hx hb eX9_fruit_0.2.2.1 rfl (lv_at hl 1 rfl) ?_
  refine g_calli (wc := (wd_X3_hasFruit cI cC cZ cB cJ a_tr a_tr_x a_tr_height a_tr_worth a_tr_ripe a_tr_foot a_tr_fork a_tr_settings tr_fruits tr_standings tr_comingFruits tr_comingStandings)) hP hD hS hA [2] [0, 1, 3, 4, 5, 6, 7] rfl rfl rfl rfl (g_runV (As := [.int p0]) (rest := []) C0 hP hD hS [2] rfl rfl 2 3 rfl rfl (c_X3_hasFruit l dC dI cI cC cZ cB cJ a_tr a_tr_x a_tr_height a_tr_worth a_tr_ripe a_tr_foot a_tr_fork a_tr_settings H.size p0 tr_fruits tr_standings tr_comingFruits tr_comingStandings _ hp) q_171 q_174 q_172 q_173 q_48 h_X3_hasFruit rfl rfl ⟨Nat.le_of_ble_eq_true rfl, Nat.le_of_ble_eq_true rfl⟩ rfl rfl hl.1 rfl (lv_room (Nat.le_of_ble_eq_true rfl)) eX9_fruit_0.2.2.2.1 ⟨Nat.zero_le _, Nat.zero_le _⟩) (fun r_1 u H locs hp hP hD hS => ?_)
  have hPD := PDs (ws' := (wd_X9_fruit cI cC cZ cB cJ a_x a_tx a_pl a_ga a_tr a_no a_pa a_ro a_mk a_x_acts a_ru a_tr_x a_tr_height a_tr_worth a_tr_ripe a_tr_foot a_tr_fork a_tr_settings tr_fruits tr_standings tr_comingFruits tr_comingStandings tr_x tr_height tr_worth tr_ripe no_apron no_basket no_ground no_bruised no_ladder no_helper no_today no_clock)) hP hD [0, 1, 7, 2, 3, 4, 5, 6] (by decide) rfl
  have hP := hPD.1
  have hD := hPD.2
  refine lv_if_ne (tgt := 19) hx hb eX9_fruit_0.2.2.2.2.1 (by decide) (fun hc => ?_) (fun hc => ?_)
  · have hp := hp.1 hc
    refine lv_iload_n hx hb eX9_fruit_0.2.2.2.2.2.2.2.2.2.1 rfl (lv_at hl 2 rfl) ?_
    by_cases hc0 : p1 = 0
    · have hp := hp.1 hc0
      refine lv_tableIn (tgt := 64) hx hb eX9_fruit_0.2.2.2.2.2.2.2.2.2.2.1 (by first | (rw [hc0]; done) | (rw [hc0]; decide)) (by first | (rw [hc0]; done) | (rw [hc0]; decide)) (by first | (rw [hc0]; done) | (rw [hc0]; rfl)) (by decide) ?_
      refine lv_aload_n hx hb eX9_fruit_0.2.2.2.2.2.2.2.2.2.2.2.1 rfl (lv_at hl 0 rfl) ?_
      refine va_get (D := (dC, dI)) (ci := 9) (v := .ref a_tr) (C := RX9) (T := TX9) (N := 9) hx hb hts i_X9 hown hK hP 0 rfl rfl 3 (Nat.le_of_ble_eq_true rfl) (hts _ q_74) (fun _ h9 => h9) rfl eX9_fruit_0.2.2.2.2.2.2.2.2.2.2.2.2.1 ?_
      refine va_get (D := (dC, dI)) (ci := 3) (v := .ref a_tr_x) (C := RX3) (T := TX3) (N := 11) hx hb hts i_X3 hown hK hP 2 rfl rfl 0 (Nat.le_of_ble_eq_true rfl) (hts _ q_175) (fun _ h9 => h9) rfl eX9_fruit_0.2.2.2.2.2.2.2.2.2.2.2.2.2.1 ?_
      refine lv_iload_n hx hb eX9_fruit_0.2.2.2.2.2.2.2.2.2.2.2.2.2.2.1 rfl (lv_at hl 1 rfl) ?_
      have hin := hp.1
      have hp := hp.2
      refine va_iald hx hb hK hP 3 0 rfl rfl hin eX9_fruit_0.2.2.2.2.2.2.2.2.2.2.2.2.2.2.2 ?_
      refine vx_ret (W.widen (k := 1) (n := 6) (Nat.zero_le _) (Nat.zero_le _) ?_)
      exact W.iret (v := tr_x p0.toNatClampNeg) hx hb hr (fun t ht hW => ⟨⟨tr_x p0.toNatClampNeg, (), rfl, hp, by rw [ht]; exact hP, va_K.moved hW.alike hK, hD⟩, hS.F ht⟩) hS.2.2 eX9_fruit_73.1
    by_cases hc1 : p1 = 1
    · have hp := hp.2.1 hc1
      refine lv_tableIn (tgt := 74) hx hb eX9_fruit_0.2.2.2.2.2.2.2.2.2.2.1 (by first | (rw [hc1]; done) | (rw [hc1]; decide)) (by first | (rw [hc1]; done) | (rw [hc1]; decide)) (by first | (rw [hc1]; done) | (rw [hc1]; rfl)) (by decide) ?_
      refine lv_aload_n hx hb eX9_fruit_73.2.1 rfl (lv_at hl 0 rfl) ?_
      refine va_get (D := (dC, dI)) (ci := 9) (v := .ref a_tr) (C := RX9) (T := TX9) (N := 9) hx hb hts i_X9 hown hK hP 0 rfl rfl 3 (Nat.le_of_ble_eq_true rfl) (hts _ q_74) (fun _ h9 => h9) rfl eX9_fruit_73.2.2.1 ?_
      refine va_get (D := (dC, dI)) (ci := 3) (v := .ref a_tr_height) (C := RX3) (T := TX3) (N := 11) hx hb hts i_X3 hown hK hP 2 rfl rfl 1 (Nat.le_of_ble_eq_true rfl) (hts _ q_176) (fun _ h9 => h9) rfl eX9_fruit_73.2.2.2.1 ?_
      refine lv_iload_n hx hb eX9_fruit_73.2.2.2.2.1 rfl (lv_at hl 1 rfl) ?_
      have hin := hp.1
      have hp := hp.2
      refine va_iald hx hb hK hP 4 0 rfl rfl hin eX9_fruit_73.2.2.2.2.2.1 ?_
      refine vx_ret (W.widen (k := 1) (n := 6) (Nat.zero_le _) (Nat.zero_le _) ?_)
      exact W.iret (v := tr_height p0.toNatClampNeg) hx hb hr (fun t ht hW => ⟨⟨tr_height p0.toNatClampNeg, (), rfl, hp, by rw [ht]; exact hP, va_K.moved hW.alike hK, hD⟩, hS.F ht⟩) hS.2.2 eX9_fruit_73.2.2.2.2.2.2.1
    by_cases hc2 : p1 = 2
    · have hp := hp.2.2.1 hc2
      refine lv_tableIn (tgt := 84) hx hb eX9_fruit_0.2.2.2.2.2.2.2.2.2.2.1 (by first | (rw [hc2]; done) | (rw [hc2]; decide)) (by first | (rw [hc2]; done) | (rw [hc2]; decide)) (by first | (rw [hc2]; done) | (rw [hc2]; rfl)) (by decide) ?_
      refine lv_aload_n hx hb eX9_fruit_73.2.2.2.2.2.2.2.1 rfl (lv_at hl 0 rfl) ?_
      refine va_get (D := (dC, dI)) (ci := 9) (v := .ref a_tr) (C := RX9) (T := TX9) (N := 9) hx hb hts i_X9 hown hK hP 0 rfl rfl 3 (Nat.le_of_ble_eq_true rfl) (hts _ q_74) (fun _ h9 => h9) rfl eX9_fruit_73.2.2.2.2.2.2.2.2.1 ?_
      refine va_get (D := (dC, dI)) (ci := 3) (v := .ref a_tr_worth) (C := RX3) (T := TX3) (N := 11) hx hb hts i_X3 hown hK hP 2 rfl rfl 2 (Nat.le_of_ble_eq_true rfl) (hts _ q_177) (fun _ h9 => h9) rfl eX9_fruit_73.2.2.2.2.2.2.2.2.2.1 ?_
      refine lv_iload_n hx hb eX9_fruit_73.2.2.2.2.2.2.2.2.2.2.1 rfl (lv_at hl 1 rfl) ?_
      have hin := hp.1
      have hp := hp.2
      refine va_iald hx hb hK hP 5 0 rfl rfl hin eX9_fruit_73.2.2.2.2.2.2.2.2.2.2.2.1 ?_
      refine vx_ret (W.widen (k := 1) (n := 6) (Nat.zero_le _) (Nat.zero_le _) ?_)
      exact W.iret (v := tr_worth p0.toNatClampNeg) hx hb hr (fun t ht hW => ⟨⟨tr_worth p0.toNatClampNeg, (), rfl, hp, by rw [ht]; exact hP, va_K.moved hW.alike hK, hD⟩, hS.F ht⟩) hS.2.2 eX9_fruit_73.2.2.2.2.2.2.2.2.2.2.2.2.1
    by_cases hc3 : p1 = 3
    · have hp := hp.2.2.2.1 hc3
      refine lv_tableIn (tgt := 94) hx hb eX9_fruit_0.2.2.2.2.2.2.2.2.2.2.1 (by first | (rw [hc3]; done) | (rw [hc3]; decide)) (by first | (rw [hc3]; done) | (rw [hc3]; decide)) (by first | (rw [hc3]; done) | (rw [hc3]; rfl)) (by decide) ?_
      refine lv_aload_n hx hb eX9_fruit_73.2.2.2.2.2.2.2.2.2.2.2.2.2.1 rfl (lv_at hl 0 rfl) ?_
      refine va_get (D := (dC, dI)) (ci := 9) (v := .ref a_tr) (C := RX9) (T := TX9) (N := 9) hx hb hts i_X9 hown hK hP 0 rfl rfl 3 (Nat.le_of_ble_eq_true rfl) (hts _ q_74) (fun _ h9 => h9) rfl eX9_fruit_73.2.2.2.2.2.2.2.2.2.2.2.2.2.2.1 ?_
      refine va_get (D := (dC, dI)) (ci := 3) (v := .ref a_tr_ripe) (C := RX3) (T := TX3) (N := 11) hx hb hts i_X3 hown hK hP 2 rfl rfl 3 (Nat.le_of_ble_eq_true rfl) (hts _ q_178) (fun _ h9 => h9) rfl eX9_fruit_73.2.2.2.2.2.2.2.2.2.2.2.2.2.2.2 ?_
      refine lv_iload_n hx hb eX9_fruit_101.1 rfl (lv_at hl 1 rfl) ?_
      have hin := hp.1
      have hp := hp.2
      refine va_iald hx hb hK hP 6 0 rfl rfl hin eX9_fruit_101.2.1 ?_
      refine vx_ret (W.widen (k := 1) (n := 6) (Nat.zero_le _) (Nat.zero_le _) ?_)
      exact W.iret (v := tr_ripe p0.toNatClampNeg) hx hb hr (fun t ht hW => ⟨⟨tr_ripe p0.toNatClampNeg, (), rfl, hp, by rw [ht]; exact hP, va_K.moved hW.alike hK, hD⟩, hS.F ht⟩) hS.2.2 eX9_fruit_101.2.2.1
    by_cases hc4 : p1 = 4
    · have hp := hp.2.2.2.2.1 hc4
      refine lv_tableIn (tgt := 104) hx hb eX9_fruit_0.2.2.2.2.2.2.2.2.2.2.1 (by first | (rw [hc4]; done) | (rw [hc4]; decide)) (by first | (rw [hc4]; done) | (rw [hc4]; decide)) (by first | (rw [hc4]; done) | (rw [hc4]; rfl)) (by decide) ?_
      refine lv_aload_n hx hb eX9_fruit_101.2.2.2.1 rfl (lv_at hl 0 rfl) ?_
      refine va_get (D := (dC, dI)) (ci := 9) (v := .ref a_no) (C := RX9) (T := TX9) (N := 9) hx hb hts i_X9 hown hK hP 0 rfl rfl 4 (Nat.le_of_ble_eq_true rfl) (hts _ q_179) (fun _ h9 => h9) rfl eX9_fruit_101.2.2.2.2.1 ?_
      refine lv_iload_n hx hb eX9_fruit_101.2.2.2.2.2.1 rfl (lv_at hl 1 rfl) ?_
      refine g_calli (wc := (wd_X2_whereIs cI cC cZ cB cJ a_no no_apron no_basket no_ground no_bruised no_ladder no_helper no_today no_clock)) hP hD hS hA [7] [0, 1, 2, 3, 4, 5, 6] rfl rfl rfl rfl (g_runV (As := [.int p0]) (rest := []) C0 hP hD hS [7] rfl rfl 7 2 rfl rfl (c_X2_whereIs l dC dI cI cC cZ cB cJ a_no H.size p0 no_apron no_basket no_ground no_bruised no_ladder no_helper no_today no_clock _ hp) q_180 q_184 q_182 q_183 q_181 h_X2_whereIs rfl rfl ⟨Nat.le_of_ble_eq_true rfl, Nat.le_of_ble_eq_true rfl⟩ rfl rfl hl.1 rfl (lv_room (Nat.le_of_ble_eq_true rfl)) eX9_fruit_101.2.2.2.2.2.2.1 ⟨Nat.zero_le _, Nat.zero_le _⟩) (fun r_2 u H locs hp hP hD hS => ?_)
      have hPD := PDs (ws' := (wd_X9_fruit cI cC cZ cB cJ a_x a_tx a_pl a_ga a_tr a_no a_pa a_ro a_mk a_x_acts a_ru a_tr_x a_tr_height a_tr_worth a_tr_ripe a_tr_foot a_tr_fork a_tr_settings tr_fruits tr_standings tr_comingFruits tr_comingStandings tr_x tr_height tr_worth tr_ripe no_apron no_basket no_ground no_bruised no_ladder no_helper no_today no_clock)) hP hD [0, 1, 2, 3, 4, 5, 6, 7] (by decide) rfl
      have hP := hPD.1
      have hD := hPD.2
      refine vx_ret (W.widen (k := 1) (n := 6) (Nat.zero_le _) (Nat.zero_le _) ?_)
      exact W.iret (v := r_2) hx hb hr (fun t ht hW => ⟨⟨r_2, (), rfl, hp, by rw [ht]; exact hP, va_K.moved hW.alike hK, hD⟩, hS.F ht⟩) hS.2.2 eX9_fruit_101.2.2.2.2.2.2.2.1
    by_cases hc5 : p1 = 5
    · have hp := hp.2.2.2.2.2.1 hc5
      refine lv_tableIn (tgt := 113) hx hb eX9_fruit_0.2.2.2.2.2.2.2.2.2.2.1 (by first | (rw [hc5]; done) | (rw [hc5]; decide)) (by first | (rw [hc5]; done) | (rw [hc5]; decide)) (by first | (rw [hc5]; done) | (rw [hc5]; rfl)) (by decide) ?_
      refine lv_aload_n hx hb eX9_fruit_101.2.2.2.2.2.2.2.2.1 rfl (lv_at hl 0 rfl) ?_
      refine va_get (D := (dC, dI)) (ci := 9) (v := .ref a_no) (C := RX9) (T := TX9) (N := 9) hx hb hts i_X9 hown hK hP 0 rfl rfl 4 (Nat.le_of_ble_eq_true rfl) (hts _ q_179) (fun _ h9 => h9) rfl eX9_fruit_101.2.2.2.2.2.2.2.2.2.1 ?_
      refine va_get (D := (dC, dI)) (ci := 2) (v := .int no_bruised) (C := RX2) (T := TX2) (N := 8) hx hb hts i_X2 hown hK hP 7 rfl rfl 3 (Nat.le_of_ble_eq_true rfl) (hts _ q_185) (fun _ h9 => h9) rfl eX9_fruit_101.2.2.2.2.2.2.2.2.2.2.1 ?_
      refine lv_iload_n hx hb eX9_fruit_101.2.2.2.2.2.2.2.2.2.2.2.1 rfl (lv_at hl 1 rfl) ?_
      refine lv_ishr hx hb eX9_fruit_101.2.2.2.2.2.2.2.2.2.2.2.2.1 ?_
      refine lv_topi (fun v_3 ev_3 => ?_)
      have hp := hp v_3 ev_3
      refine lv_iconst (v := 1) hx hb eX9_fruit_101.2.2.2.2.2.2.2.2.2.2.2.2.2.1 (by decide) ?_
      refine lv_iand hx hb eX9_fruit_101.2.2.2.2.2.2.2.2.2.2.2.2.2.2.1 ?_
      refine vx_ret (W.widen (k := 1) (n := 6) (Nat.zero_le _) (Nat.zero_le _) ?_)
      exact W.iret (v := v_3 &&& 1) hx hb hr (fun t ht hW => ⟨⟨v_3 &&& 1, (), rfl, hp, by rw [ht]; exact hP, va_K.moved hW.alike hK, hD⟩, hS.F ht⟩) hS.2.2 eX9_fruit_101.2.2.2.2.2.2.2.2.2.2.2.2.2.2.2
    by_cases hc6 : p1 = 6
    · have hp := hp.2.2.2.2.2.2.1 hc6
      refine lv_tableIn (tgt := 125) hx hb eX9_fruit_0.2.2.2.2.2.2.2.2.2.2.1 (by first | (rw [hc6]; done) | (rw [hc6]; decide)) (by first | (rw [hc6]; done) | (rw [hc6]; decide)) (by first | (rw [hc6]; done) | (rw [hc6]; rfl)) (by decide) ?_
      refine lv_aload_n hx hb eX9_fruit_125.1 rfl (lv_at hl 0 rfl) ?_
      refine va_get (D := (dC, dI)) (ci := 9) (v := .ref a_tr) (C := RX9) (T := TX9) (N := 9) hx hb hts i_X9 hown hK hP 0 rfl rfl 3 (Nat.le_of_ble_eq_true rfl) (hts _ q_74) (fun _ h9 => h9) rfl eX9_fruit_125.2.1 ?_
      refine lv_iload_n hx hb eX9_fruit_125.2.2.1 rfl (lv_at hl 1 rfl) ?_
      refine lv_aload_n hx hb eX9_fruit_125.2.2.2.1 rfl (lv_at hl 0 rfl) ?_
      refine va_get (D := (dC, dI)) (ci := 9) (v := .ref a_ga) (C := RX9) (T := TX9) (N := 9) hx hb hts i_X9 hown hK hP 0 rfl rfl 2 (Nat.le_of_ble_eq_true rfl) (hts _ q_146) (fun _ h9 => h9) rfl eX9_fruit_125.2.2.2.2.1 ?_
      refine g_calli (wc := (wd_X0_hanging cI cC cZ cB cJ a_ga a_tr a_no a_ru a_tr_x a_tr_height a_tr_worth a_tr_ripe a_tr_foot a_tr_fork a_tr_settings tr_fruits tr_standings tr_comingFruits tr_comingStandings no_apron no_basket no_ground no_bruised no_ladder no_helper no_today no_clock)) hP hD hS hA [1, 2, 7] [0, 3, 4, 5, 6] rfl rfl rfl rfl (g_runV (As := []) (rest := [.int p0, .ref a_tr]) C0 hP hD hS [1, 2, 7] rfl rfl 1 0 rfl rfl (c_X0_hanging l dC dI cI cC cZ cB cJ a_ga a_tr a_no a_ru a_tr_x a_tr_height a_tr_worth a_tr_ripe a_tr_foot a_tr_fork a_tr_settings H.size tr_fruits tr_standings tr_comingFruits tr_comingStandings no_apron no_basket no_ground no_bruised no_ladder no_helper no_today no_clock _ hp) q_186 q_190 q_188 q_189 q_187 h_X0_hanging rfl rfl ⟨Nat.le_of_ble_eq_true rfl, Nat.le_of_ble_eq_true rfl⟩ rfl rfl hl.1 rfl (lv_room (Nat.le_of_ble_eq_true rfl)) eX9_fruit_125.2.2.2.2.2.1 ⟨Nat.zero_le _, Nat.zero_le _⟩) (fun r_4 u H locs hp hP hD hS => ?_)
      have hPD := PDs (ws' := (wd_X9_fruit cI cC cZ cB cJ a_x a_tx a_pl a_ga a_tr a_no a_pa a_ro a_mk a_x_acts a_ru a_tr_x a_tr_height a_tr_worth a_tr_ripe a_tr_foot a_tr_fork a_tr_settings tr_fruits tr_standings tr_comingFruits tr_comingStandings tr_x tr_height tr_worth tr_ripe no_apron no_basket no_ground no_bruised no_ladder no_helper no_today no_clock)) hP hD [0, 5, 6, 1, 2, 3, 4, 7] (by decide) rfl
      have hP := hPD.1
      have hD := hPD.2
      refine g_calli (wc := (wd_X3_lowerThan cI cC cZ cB cJ a_tr a_tr_x a_tr_height a_tr_worth a_tr_ripe a_tr_foot a_tr_fork a_tr_settings tr_fruits tr_standings tr_comingFruits tr_comingStandings tr_x tr_height)) hP hD hS hA [2, 3, 4] [0, 1, 5, 6, 7] rfl rfl rfl rfl (g_runV (As := [.int p0, .int r_4]) (rest := []) C0 hP hD hS [2, 3, 4] rfl rfl 2 3 rfl rfl (c_X3_lowerThan l dC dI cI cC cZ cB cJ a_tr a_tr_x a_tr_height a_tr_worth a_tr_ripe a_tr_foot a_tr_fork a_tr_settings H.size p0 r_4 tr_fruits tr_standings tr_comingFruits tr_comingStandings tr_x tr_height _ hp) q_191 q_194 q_192 q_193 q_48 h_X3_lowerThan rfl rfl ⟨Nat.le_of_ble_eq_true rfl, Nat.le_of_ble_eq_true rfl⟩ rfl rfl hl.1 rfl (lv_room (Nat.le_of_ble_eq_true rfl)) eX9_fruit_125.2.2.2.2.2.2.1 ⟨Nat.zero_le _, Nat.zero_le _⟩) (fun r_5 u H locs hp hP hD hS => ?_)
      have hPD := PDs (ws' := (wd_X9_fruit cI cC cZ cB cJ a_x a_tx a_pl a_ga a_tr a_no a_pa a_ro a_mk a_x_acts a_ru a_tr_x a_tr_height a_tr_worth a_tr_ripe a_tr_foot a_tr_fork a_tr_settings tr_fruits tr_standings tr_comingFruits tr_comingStandings tr_x tr_height tr_worth tr_ripe no_apron no_basket no_ground no_bruised no_ladder no_helper no_today no_clock)) hP hD [0, 1, 5, 6, 7, 2, 3, 4] (by decide) rfl
      have hP := hPD.1
      have hD := hPD.2
      refine vx_ret (W.widen (k := 1) (n := 6) (Nat.zero_le _) (Nat.zero_le _) ?_)
      exact W.iret (v := r_5) hx hb hr (fun t ht hW => ⟨⟨r_5, (), rfl, hp, by rw [ht]; exact hP, va_K.moved hW.alike hK, hD⟩, hS.F ht⟩) hS.2.2 eX9_fruit_125.2.2.2.2.2.2.2
    have hp := hp.2.2.2.2.2.2.2 hc0 hc1 hc2 hc3 hc4 hc5 hc6
    have key : W p l e rm_X9_fruit s m args below meth c H locs 0 0 (vx_MQ below (q_X9_fruit dC dI cI cC cZ cB cJ A a_x a_tx a_pl a_ga a_tr a_no a_pa a_ro a_mk a_x_acts a_ru a_tr_x a_tr_height a_tr_worth a_tr_ripe a_tr_foot a_tr_fork a_tr_settings tr_fruits tr_standings tr_comingFruits tr_comingStandings tr_x tr_height tr_worth tr_ripe no_apron no_basket no_ground no_bruised no_ladder no_helper no_today no_clock post) (gXC (dC, dI) (tyl cI cC cZ cB cJ) A (wd_X9_fruit cI cC cZ cB cJ a_x a_tx a_pl a_ga a_tr a_no a_pa a_ro a_mk a_x_acts a_ru a_tr_x a_tr_height a_tr_worth a_tr_ripe a_tr_foot a_tr_fork a_tr_settings tr_fruits tr_standings tr_comingFruits tr_comingStandings tr_x tr_height tr_worth tr_ripe no_apron no_basket no_ground no_bruised no_ladder no_helper no_today no_clock) postx) args s 1 6 A) (F0 m 141 ls []) := by
      exact g_throw C0 hl9 htab hP hD hS hl.1 eX9_fruit_141.1 eX9_fruit_141.2.1 eX9_fruit_141.2.2.1 eX9_fruit_141.2.2.2 (Nat.le_of_ble_eq_true rfl) (Nat.le_of_ble_eq_true rfl) (Nat.le_of_ble_eq_true rfl) (Nat.le_of_ble_eq_true rfl) hp
    exact lv_tableOut (tgt := 141) hx hb eX9_fruit_0.2.2.2.2.2.2.2.2.2.2.1 (by have g0 := lv_neT (a := 0) hc0 rfl; have g1 := lv_neT (a := 1) hc1 rfl; have g2 := lv_neT (a := 2) hc2 rfl; have g3 := lv_neT (a := 3) hc3 rfl; have g4 := lv_neT (a := 4) hc4 rfl; have g5 := lv_neT (a := 5) hc5 rfl; have g6 := lv_neT (a := 6) hc6 rfl; omega) (by decide) key
  · have hp := hp.2 hc
    exact g_throw C0 hl9 htab hP hD hS hl.1 eX9_fruit_0.2.2.2.2.2.1 eX9_fruit_0.2.2.2.2.2.2.1 eX9_fruit_0.2.2.2.2.2.2.2.1 eX9_fruit_0.2.2.2.2.2.2.2.2.1 (Nat.le_of_ble_eq_true rfl) (Nat.le_of_ble_eq_true rfl) (Nat.le_of_ble_eq_true rfl) (Nat.le_of_ble_eq_true rfl) hp
abbrev wd_X3_hasStanding (cI cC cZ cB cJ : ClassId) (a_tr : Nat) (a_tr_x : Nat) (a_tr_height : Nat) (a_tr_worth : Nat) (a_tr_ripe : Nat) (a_tr_foot : Nat) (a_tr_fork : Nat) (a_tr_settings : Nat) (tr_fruits : Int32) (tr_standings : Int32) (tr_comingFruits : Int32) (tr_comingStandings : Int32) : va_W := [(a_tr, .inr (3, [.ref a_tr_x, .ref a_tr_height, .ref a_tr_worth, .ref a_tr_ripe, .ref a_tr_foot, .ref a_tr_fork, .ref a_tr_settings, .int tr_fruits, .int tr_standings, .int tr_comingFruits, .int tr_comingStandings]))]
abbrev q_X3_hasStanding (dC : Nat → ClassId) (dI : Nat → Nat → Nat) (cI cC cZ cB cJ : ClassId) (A : Nat → Prop) (a_tr : Nat) (a_tr_x : Nat) (a_tr_height : Nat) (a_tr_worth : Nat) (a_tr_ripe : Nat) (a_tr_foot : Nat) (a_tr_fork : Nat) (a_tr_settings : Nat) (tr_fruits : Int32) (tr_standings : Int32) (tr_comingFruits : Int32) (tr_comingStandings : Int32) (post : Int32 → Prop) : Array Value → State → Outcome → State → Prop := va_Qi (fun (r : Int32) (u : Unit) => post r) (fun u t => gB (dC, dI) (tyl cI cC cZ cB cJ) A (wd_X3_hasStanding cI cC cZ cB cJ a_tr a_tr_x a_tr_height a_tr_worth a_tr_ripe a_tr_foot a_tr_fork a_tr_settings tr_fruits tr_standings tr_comingFruits tr_comingStandings) t) A
abbrev rm_X3_hasStanding : Room := { frames := 0, cells := 0, slots := 0, locals := 0 }
def wp_X3_hasStanding (post : Int32 → Prop) (p0 : Int32) (tr_standings : Int32) : Prop := (p0 < 0 → post 0) ∧ (¬ p0 < 0 → (tr_standings ≤ p0 → post 0) ∧ (¬ tr_standings ≤ p0 → post 1))
set_option maxHeartbeats 4000000 in
set_option maxRecDepth 100000 in
theorem c_X3_hasStanding (l : Launch) (dC : Nat → ClassId) (dI : Nat → Nat → Nat) (cI cC cZ cB cJ : ClassId) (a_tr : Nat) (a_tr_x : Nat) (a_tr_height : Nat) (a_tr_worth : Nat) (a_tr_ripe : Nat) (a_tr_foot : Nat) (a_tr_fork : Nat) (a_tr_settings : Nat) (sz : Nat) (p0 : Int32) (tr_fruits : Int32) (tr_standings : Int32) (tr_comingFruits : Int32) (tr_comingStandings : Int32) (post : Int32 → Prop) (hw : wp_X3_hasStanding post p0 tr_standings) : Met l yX3_hasStanding (gw yX3_hasStanding cX3_hasStanding 2 (some .boolean)) rm_X3_hasStanding (va_Pc [.ref a_tr, .int p0] (gPre (dC, dI) (tyl cI cC cZ cB cJ) (wd_X3_hasStanding cI cC cZ cB cJ a_tr a_tr_x a_tr_height a_tr_worth a_tr_ripe a_tr_foot a_tr_fork a_tr_settings tr_fruits tr_standings tr_comingFruits tr_comingStandings) sz)) (q_X3_hasStanding dC dI cI cC cZ cB cJ (va_A (wd_X3_hasStanding cI cC cZ cB cJ a_tr a_tr_x a_tr_height a_tr_worth a_tr_ripe a_tr_foot a_tr_fork a_tr_settings tr_fruits tr_standings tr_comingFruits tr_comingStandings) sz) a_tr a_tr_x a_tr_height a_tr_worth a_tr_ripe a_tr_foot a_tr_fork a_tr_settings tr_fruits tr_standings tr_comingFruits tr_comingStandings post) 0 0 (va_A (wd_X3_hasStanding cI cC cZ cB cJ a_tr a_tr_x a_tr_height a_tr_worth a_tr_ripe a_tr_foot a_tr_fork a_tr_settings tr_fruits tr_standings tr_comingFruits tr_comingStandings) sz) := by
  refine g_enter (own := RX3) (dC, dI) (tyl cI cC cZ cB cJ) (wd_X3_hasStanding cI cC cZ cB cJ a_tr a_tr_x a_tr_height a_tr_worth a_tr_ripe a_tr_foot a_tr_fork a_tr_settings tr_fruits tr_standings tr_comingFruits tr_comingStandings) sz [.ref a_tr, .int p0] (fun A => q_X3_hasStanding dC dI cI cC cZ cB cJ A a_tr a_tr_x a_tr_height a_tr_worth a_tr_ripe a_tr_foot a_tr_fork a_tr_settings tr_fruits tr_standings tr_comingFruits tr_comingStandings post) (by decide) rfl (Nat.le_of_ble_eq_true rfl) ?_
  intro p e s m args below meth c A H locs ls C0 hP hD hS hl
  have hl : lv_has ls 2 [(0, .ref a_tr), (1, .int p0)] := hl
  obtain ⟨hx, hb, hr, hml, hown, hts, hlocks, hA, hK, hN, tL, tM, hZL, hTL, hZM, hTM, hZX⟩ := id C0
  have hp := hw
  unfold wp_X3_hasStanding at hp
  refine lv_iload_n hx hb eX3_hasStanding_0.1 rfl (lv_at hl 1 rfl) ?_
  refine lv_if_lt (tgt := 16) hx hb eX3_hasStanding_0.2.1 (by decide) (fun hc => ?_) (fun hc => ?_)
  · have hp := hp.1 hc
    refine lv_iconst (v := 0) hx hb eX3_hasStanding_0.2.2.2.2.2.2.2.2.1 (by decide) ?_
    exact W.zret (v := 0) hx hb hr rfl (fun t ht hW => ⟨⟨0, (), rfl, hp, by rw [ht]; exact hP, va_K.moved hW.alike hK, hD⟩, hS.F ht⟩) hS.2.2 eX3_hasStanding_0.2.2.2.2.2.2.2.2.2
  · have hp := hp.2 hc
    refine lv_iload_n hx hb eX3_hasStanding_0.2.2.1 rfl (lv_at hl 1 rfl) ?_
    refine lv_aload_n hx hb eX3_hasStanding_0.2.2.2.1 rfl (lv_at hl 0 rfl) ?_
    refine va_get (D := (dC, dI)) (ci := 3) (v := .int tr_standings) (C := RX3) (T := TX3) (N := 11) hx hb hts i_X3 hown hK hP 0 rfl rfl 8 (Nat.le_of_ble_eq_true rfl) (hts _ q_22) (fun _ h9 => h9) rfl eX3_hasStanding_0.2.2.2.2.1 ?_
    refine lv_icmp_ge (tgt := 16) hx hb eX3_hasStanding_0.2.2.2.2.2.1 (by decide) (fun hc => ?_) (fun hc => ?_)
    · have hp := hp.1 hc
      refine lv_iconst (v := 0) hx hb eX3_hasStanding_0.2.2.2.2.2.2.2.2.1 (by decide) ?_
      exact W.zret (v := 0) hx hb hr rfl (fun t ht hW => ⟨⟨0, (), rfl, hp, by rw [ht]; exact hP, va_K.moved hW.alike hK, hD⟩, hS.F ht⟩) hS.2.2 eX3_hasStanding_0.2.2.2.2.2.2.2.2.2
    · have hp := hp.2 hc
      refine lv_iconst (v := 1) hx hb eX3_hasStanding_0.2.2.2.2.2.2.1 (by decide) ?_
      refine lv_goto (tgt := 17) hx hb eX3_hasStanding_0.2.2.2.2.2.2.2.1 (by decide) ?_
      exact W.zret (v := 1) hx hb hr rfl (fun t ht hW => ⟨⟨1, (), rfl, hp, by rw [ht]; exact hP, va_K.moved hW.alike hK, hD⟩, hS.F ht⟩) hS.2.2 eX3_hasStanding_0.2.2.2.2.2.2.2.2.2
abbrev wd_X3_downSeconds (cI cC cZ cB cJ : ClassId) (a_tr : Nat) (a_tr_x : Nat) (a_tr_height : Nat) (a_tr_worth : Nat) (a_tr_ripe : Nat) (a_tr_foot : Nat) (a_tr_fork : Nat) (a_tr_settings : Nat) (tr_fruits : Int32) (tr_standings : Int32) (tr_comingFruits : Int32) (tr_comingStandings : Int32) (tr_fork : Nat → Int32) : va_W := [(a_tr, .inr (3, [.ref a_tr_x, .ref a_tr_height, .ref a_tr_worth, .ref a_tr_ripe, .ref a_tr_foot, .ref a_tr_fork, .ref a_tr_settings, .int tr_fruits, .int tr_standings, .int tr_comingFruits, .int tr_comingStandings])), (a_tr_fork, .inl (cI, 8, .inl tr_fork))]
abbrev q_X3_downSeconds (dC : Nat → ClassId) (dI : Nat → Nat → Nat) (cI cC cZ cB cJ : ClassId) (A : Nat → Prop) (a_tr : Nat) (a_tr_x : Nat) (a_tr_height : Nat) (a_tr_worth : Nat) (a_tr_ripe : Nat) (a_tr_foot : Nat) (a_tr_fork : Nat) (a_tr_settings : Nat) (tr_fruits : Int32) (tr_standings : Int32) (tr_comingFruits : Int32) (tr_comingStandings : Int32) (tr_fork : Nat → Int32) (post : Int32 → Prop) : Array Value → State → Outcome → State → Prop := va_Qi (fun (r : Int32) (u : Unit) => post r) (fun u t => gB (dC, dI) (tyl cI cC cZ cB cJ) A (wd_X3_downSeconds cI cC cZ cB cJ a_tr a_tr_x a_tr_height a_tr_worth a_tr_ripe a_tr_foot a_tr_fork a_tr_settings tr_fruits tr_standings tr_comingFruits tr_comingStandings tr_fork) t) A
abbrev rm_X3_downSeconds : Room := { frames := 0, cells := 0, slots := 0, locals := 0 }
def wp_X3_downSeconds (post : Int32 → Prop) (p0 : Int32) (tr_fork : Nat → Int32) : Prop := vp_in p0 8 ∧ (∀ v_1 : Int32, v_1 = tr_fork p0.toNatClampNeg → ∀ v_2 : Int32, v_2 = v_1 + 9 → post (3 + (v_2 / 10)))
set_option maxHeartbeats 4000000 in
set_option maxRecDepth 100000 in
theorem c_X3_downSeconds (l : Launch) (dC : Nat → ClassId) (dI : Nat → Nat → Nat) (cI cC cZ cB cJ : ClassId) (a_tr : Nat) (a_tr_x : Nat) (a_tr_height : Nat) (a_tr_worth : Nat) (a_tr_ripe : Nat) (a_tr_foot : Nat) (a_tr_fork : Nat) (a_tr_settings : Nat) (sz : Nat) (p0 : Int32) (tr_fruits : Int32) (tr_standings : Int32) (tr_comingFruits : Int32) (tr_comingStandings : Int32) (tr_fork : Nat → Int32) (post : Int32 → Prop) (hw : wp_X3_downSeconds post p0 tr_fork) : Met l yX3_downSeconds (gw yX3_downSeconds cX3_downSeconds 2 (some .int)) rm_X3_downSeconds (va_Pc [.ref a_tr, .int p0] (gPre (dC, dI) (tyl cI cC cZ cB cJ) (wd_X3_downSeconds cI cC cZ cB cJ a_tr a_tr_x a_tr_height a_tr_worth a_tr_ripe a_tr_foot a_tr_fork a_tr_settings tr_fruits tr_standings tr_comingFruits tr_comingStandings tr_fork) sz)) (q_X3_downSeconds dC dI cI cC cZ cB cJ (va_A (wd_X3_downSeconds cI cC cZ cB cJ a_tr a_tr_x a_tr_height a_tr_worth a_tr_ripe a_tr_foot a_tr_fork a_tr_settings tr_fruits tr_standings tr_comingFruits tr_comingStandings tr_fork) sz) a_tr a_tr_x a_tr_height a_tr_worth a_tr_ripe a_tr_foot a_tr_fork a_tr_settings tr_fruits tr_standings tr_comingFruits tr_comingStandings tr_fork post) 0 0 (va_A (wd_X3_downSeconds cI cC cZ cB cJ a_tr a_tr_x a_tr_height a_tr_worth a_tr_ripe a_tr_foot a_tr_fork a_tr_settings tr_fruits tr_standings tr_comingFruits tr_comingStandings tr_fork) sz) := by
  refine g_enter (own := RX3) (dC, dI) (tyl cI cC cZ cB cJ) (wd_X3_downSeconds cI cC cZ cB cJ a_tr a_tr_x a_tr_height a_tr_worth a_tr_ripe a_tr_foot a_tr_fork a_tr_settings tr_fruits tr_standings tr_comingFruits tr_comingStandings tr_fork) sz [.ref a_tr, .int p0] (fun A => q_X3_downSeconds dC dI cI cC cZ cB cJ A a_tr a_tr_x a_tr_height a_tr_worth a_tr_ripe a_tr_foot a_tr_fork a_tr_settings tr_fruits tr_standings tr_comingFruits tr_comingStandings tr_fork post) (by decide) rfl (Nat.le_of_ble_eq_true rfl) ?_
  intro p e s m args below meth c A H locs ls C0 hP hD hS hl
  have hl : lv_has ls 2 [(0, .ref a_tr), (1, .int p0)] := hl
  obtain ⟨hx, hb, hr, hml, hown, hts, hlocks, hA, hK, hN, tL, tM, hZL, hTL, hZM, hTM, hZX⟩ := id C0
  have hp := hw
  unfold wp_X3_downSeconds at hp
  refine lv_iconst (v := 3) hx hb eX3_downSeconds_0.1 (by decide) ?_
  refine lv_aload_n hx hb eX3_downSeconds_0.2.1 rfl (lv_at hl 0 rfl) ?_
  refine va_get (D := (dC, dI)) (ci := 3) (v := .ref a_tr_fork) (C := RX3) (T := TX3) (N := 11) hx hb hts i_X3 hown hK hP 0 rfl rfl 5 (Nat.le_of_ble_eq_true rfl) (hts _ q_54) (fun _ h9 => h9) rfl eX3_downSeconds_0.2.2.1 ?_
  refine lv_iload_n hx hb eX3_downSeconds_0.2.2.2.1 rfl (lv_at hl 1 rfl) ?_
  have hin := hp.1
  have hp := hp.2
  refine va_iald hx hb hK hP 1 0 rfl rfl hin eX3_downSeconds_0.2.2.2.2.1 ?_
  refine lv_topi (fun v_1 ev_1 => ?_)
  have hp := hp v_1 ev_1
  refine lv_bipush (v := 9) hx hb eX3_downSeconds_0.2.2.2.2.2.1 (by decide) ?_
  refine lv_iadd hx hb eX3_downSeconds_0.2.2.2.2.2.2.1 ?_
  refine lv_topi (fun v_2 ev_2 => ?_)
  have hp := hp v_2 ev_2
  refine lv_bipush (v := 10) hx hb eX3_downSeconds_0.2.2.2.2.2.2.2.1 (by decide) ?_
  refine lv_idiv hx hb eX3_downSeconds_0.2.2.2.2.2.2.2.2.1 (by decide) ?_
  refine lv_iadd hx hb eX3_downSeconds_0.2.2.2.2.2.2.2.2.2.1 ?_
  exact W.iret (v := 3 + (v_2 / 10)) hx hb hr (fun t ht hW => ⟨⟨3 + (v_2 / 10), (), rfl, hp, by rw [ht]; exact hP, va_K.moved hW.alike hK, hD⟩, hS.F ht⟩) hS.2.2 eX3_downSeconds_0.2.2.2.2.2.2.2.2.2.2
abbrev wd_X9_standing (cI cC cZ cB cJ : ClassId) (a_x : Nat) (a_tx : Nat) (a_pl : Nat) (a_ga : Nat) (a_tr : Nat) (a_no : Nat) (a_pa : Nat) (a_ro : Nat) (a_mk : Nat) (a_x_acts : Nat) (a_tr_x : Nat) (a_tr_height : Nat) (a_tr_worth : Nat) (a_tr_ripe : Nat) (a_tr_foot : Nat) (a_tr_fork : Nat) (a_tr_settings : Nat) (tr_fruits : Int32) (tr_standings : Int32) (tr_comingFruits : Int32) (tr_comingStandings : Int32) (tr_foot : Nat → Int32) (tr_fork : Nat → Int32) : va_W := [(a_x, .inr (9, [.ref a_tx, .ref a_pl, .ref a_ga, .ref a_tr, .ref a_no, .ref a_pa, .ref a_ro, .ref a_mk, .ref a_x_acts])), (a_tr, .inr (3, [.ref a_tr_x, .ref a_tr_height, .ref a_tr_worth, .ref a_tr_ripe, .ref a_tr_foot, .ref a_tr_fork, .ref a_tr_settings, .int tr_fruits, .int tr_standings, .int tr_comingFruits, .int tr_comingStandings])), (a_tr_foot, .inl (cI, 8, .inl tr_foot)), (a_tr_fork, .inl (cI, 8, .inl tr_fork))]
abbrev q_X9_standing (dC : Nat → ClassId) (dI : Nat → Nat → Nat) (cI cC cZ cB cJ : ClassId) (A : Nat → Prop) (a_x : Nat) (a_tx : Nat) (a_pl : Nat) (a_ga : Nat) (a_tr : Nat) (a_no : Nat) (a_pa : Nat) (a_ro : Nat) (a_mk : Nat) (a_x_acts : Nat) (a_tr_x : Nat) (a_tr_height : Nat) (a_tr_worth : Nat) (a_tr_ripe : Nat) (a_tr_foot : Nat) (a_tr_fork : Nat) (a_tr_settings : Nat) (tr_fruits : Int32) (tr_standings : Int32) (tr_comingFruits : Int32) (tr_comingStandings : Int32) (tr_foot : Nat → Int32) (tr_fork : Nat → Int32) (post : Int32 → Prop) : Array Value → State → Outcome → State → Prop := va_Qi (fun (r : Int32) (u : Unit) => post r) (fun u t => gB (dC, dI) (tyl cI cC cZ cB cJ) A (wd_X9_standing cI cC cZ cB cJ a_x a_tx a_pl a_ga a_tr a_no a_pa a_ro a_mk a_x_acts a_tr_x a_tr_height a_tr_worth a_tr_ripe a_tr_foot a_tr_fork a_tr_settings tr_fruits tr_standings tr_comingFruits tr_comingStandings tr_foot tr_fork) t) A
abbrev rm_X9_standing : Room := { frames := 6, cells := 1, slots := 6, locals := 100 }
def wp_X9_standing (post : Int32 → Prop) (postx : Prop) (p0 : Int32) (p1 : Int32) (tr_standings : Int32) (tr_foot : Nat → Int32) (tr_fork : Nat → Int32) : Prop := wp_X3_hasStanding (fun r_1 => (¬ r_1 = 0 → (p1 = 0 → vp_in p0 8 ∧ (post (tr_foot p0.toNatClampNeg))) ∧ (p1 = 1 → vp_in p0 8 ∧ (post (tr_fork p0.toNatClampNeg))) ∧ (p1 = 2 → wp_X3_downSeconds (fun r_2 => post r_2) p0 tr_fork) ∧ (¬ p1 = 0 → ¬ p1 = 1 → ¬ p1 = 2 → postx)) ∧ (r_1 = 0 → postx)) p0 tr_standings
set_option maxHeartbeats 4000000 in
set_option maxRecDepth 100000 in
theorem c_X9_standing (l : Launch) (hl9 : l.stackTraces = false) (dC : Nat → ClassId) (dI : Nat → Nat → Nat) (cI cC cZ cB cJ : ClassId) (a_x : Nat) (a_tx : Nat) (a_pl : Nat) (a_ga : Nat) (a_tr : Nat) (a_no : Nat) (a_pa : Nat) (a_ro : Nat) (a_mk : Nat) (a_x_acts : Nat) (a_tr_x : Nat) (a_tr_height : Nat) (a_tr_worth : Nat) (a_tr_ripe : Nat) (a_tr_foot : Nat) (a_tr_fork : Nat) (a_tr_settings : Nat) (sz : Nat) (p0 : Int32) (p1 : Int32) (tr_fruits : Int32) (tr_standings : Int32) (tr_comingFruits : Int32) (tr_comingStandings : Int32) (tr_foot : Nat → Int32) (tr_fork : Nat → Int32) (post : Int32 → Prop) (postx : Prop) (hw : wp_X9_standing post postx p0 p1 tr_standings tr_foot tr_fork) : vx_Met l yX9_standing (gw yX9_standing cX9_standing 3 (some .int)) rm_X9_standing (va_Pc [.ref a_x, .int p0, .int p1] (gPre (dC, dI) (tyl cI cC cZ cB cJ) (wd_X9_standing cI cC cZ cB cJ a_x a_tx a_pl a_ga a_tr a_no a_pa a_ro a_mk a_x_acts a_tr_x a_tr_height a_tr_worth a_tr_ripe a_tr_foot a_tr_fork a_tr_settings tr_fruits tr_standings tr_comingFruits tr_comingStandings tr_foot tr_fork) sz)) (q_X9_standing dC dI cI cC cZ cB cJ (va_A (wd_X9_standing cI cC cZ cB cJ a_x a_tx a_pl a_ga a_tr a_no a_pa a_ro a_mk a_x_acts a_tr_x a_tr_height a_tr_worth a_tr_ripe a_tr_foot a_tr_fork a_tr_settings tr_fruits tr_standings tr_comingFruits tr_comingStandings tr_foot tr_fork) sz) a_x a_tx a_pl a_ga a_tr a_no a_pa a_ro a_mk a_x_acts a_tr_x a_tr_height a_tr_worth a_tr_ripe a_tr_foot a_tr_fork a_tr_settings tr_fruits tr_standings tr_comingFruits tr_comingStandings tr_foot tr_fork post) (gXC (dC, dI) (tyl cI cC cZ cB cJ) (va_A (wd_X9_standing cI cC cZ cB cJ a_x a_tx a_pl a_ga a_tr a_no a_pa a_ro a_mk a_x_acts a_tr_x a_tr_height a_tr_worth a_tr_ripe a_tr_foot a_tr_fork a_tr_settings tr_fruits tr_standings tr_comingFruits tr_comingStandings tr_foot tr_fork) sz) (wd_X9_standing cI cC cZ cB cJ a_x a_tx a_pl a_ga a_tr a_no a_pa a_ro a_mk a_x_acts a_tr_x a_tr_height a_tr_worth a_tr_ripe a_tr_foot a_tr_fork a_tr_settings tr_fruits tr_standings tr_comingFruits tr_comingStandings tr_foot tr_fork) postx) 1 6 (va_A (wd_X9_standing cI cC cZ cB cJ a_x a_tx a_pl a_ga a_tr a_no a_pa a_ro a_mk a_x_acts a_tr_x a_tr_height a_tr_worth a_tr_ripe a_tr_foot a_tr_fork a_tr_settings tr_fruits tr_standings tr_comingFruits tr_comingStandings tr_foot tr_fork) sz) := by
  refine g_enterX (own := RX9) (dC, dI) (tyl cI cC cZ cB cJ) (wd_X9_standing cI cC cZ cB cJ a_x a_tx a_pl a_ga a_tr a_no a_pa a_ro a_mk a_x_acts a_tr_x a_tr_height a_tr_worth a_tr_ripe a_tr_foot a_tr_fork a_tr_settings tr_fruits tr_standings tr_comingFruits tr_comingStandings tr_foot tr_fork) sz [.ref a_x, .int p0, .int p1] (fun A => q_X9_standing dC dI cI cC cZ cB cJ A a_x a_tx a_pl a_ga a_tr a_no a_pa a_ro a_mk a_x_acts a_tr_x a_tr_height a_tr_worth a_tr_ripe a_tr_foot a_tr_fork a_tr_settings tr_fruits tr_standings tr_comingFruits tr_comingStandings tr_foot tr_fork post) (fun A => (gXC (dC, dI) (tyl cI cC cZ cB cJ) A (wd_X9_standing cI cC cZ cB cJ a_x a_tx a_pl a_ga a_tr a_no a_pa a_ro a_mk a_x_acts a_tr_x a_tr_height a_tr_worth a_tr_ripe a_tr_foot a_tr_fork a_tr_settings tr_fruits tr_standings tr_comingFruits tr_comingStandings tr_foot tr_fork) postx)) (by decide) rfl (Nat.le_of_ble_eq_true rfl) ?_
  intro p e s m args below meth c A H locs ls C0 htab hP hD hS hl
  have hl : lv_has ls 3 [(0, .ref a_x), (1, .int p0), (2, .int p1)] := hl
  obtain ⟨hx, hb, hr, hml, hown, hts, hlocks, hA, hK, hN, tL, tM, hZL, hTL, hZM, hTM, hZX⟩ := id C0
  have hp := hw
  unfold wp_X9_standing at hp
  refine lv_aload_n hx hb eX9_standing_0.1 rfl (lv_at hl 0 rfl) ?_
  refine va_get (D := (dC, dI)) (ci := 9) (v := .ref a_tr) (C := RX9) (T := TX9) (N := 9) hx hb hts i_X9 hown hK hP 0 rfl rfl 3 (Nat.le_of_ble_eq_true rfl) (hts _ q_74) (fun _ h9 => h9) rfl eX9_standing_0.2.1 ?_
  refine lv_iload_n hx hb eX9_standing_0.2.2.1 rfl (lv_at hl 1 rfl) ?_
  refine g_calli (wc := (wd_X3_hasStanding cI cC cZ cB cJ a_tr a_tr_x a_tr_height a_tr_worth a_tr_ripe a_tr_foot a_tr_fork a_tr_settings tr_fruits tr_standings tr_comingFruits tr_comingStandings)) hP hD hS hA [1] [0, 2, 3] rfl rfl rfl rfl (g_runV (As := [.int p0]) (rest := []) C0 hP hD hS [1] rfl rfl 1 3 rfl rfl (c_X3_hasStanding l dC dI cI cC cZ cB cJ a_tr a_tr_x a_tr_height a_tr_worth a_tr_ripe a_tr_foot a_tr_fork a_tr_settings H.size p0 tr_fruits tr_standings tr_comingFruits tr_comingStandings _ hp) q_195 q_198 q_196 q_197 q_48 h_X3_hasStanding rfl rfl ⟨Nat.le_of_ble_eq_true rfl, Nat.le_of_ble_eq_true rfl⟩ rfl rfl hl.1 rfl (lv_room (Nat.le_of_ble_eq_true rfl)) eX9_standing_0.2.2.2.1 ⟨Nat.zero_le _, Nat.zero_le _⟩) (fun r_1 u H locs hp hP hD hS => ?_)
  have hPD := PDs (ws' := (wd_X9_standing cI cC cZ cB cJ a_x a_tx a_pl a_ga a_tr a_no a_pa a_ro a_mk a_x_acts a_tr_x a_tr_height a_tr_worth a_tr_ripe a_tr_foot a_tr_fork a_tr_settings tr_fruits tr_standings tr_comingFruits tr_comingStandings tr_foot tr_fork)) hP hD [0, 3, 1, 2] (by decide) rfl
  have hP := hPD.1
  have hD := hPD.2
  refine lv_if_ne (tgt := 19) hx hb eX9_standing_0.2.2.2.2.1 (by decide) (fun hc => ?_) (fun hc => ?_)
  · have hp := hp.1 hc
    refine lv_iload_n hx hb eX9_standing_0.2.2.2.2.2.2.2.2.2.1 rfl (lv_at hl 2 rfl) ?_
    by_cases hc0 : p1 = 0
    · have hp := hp.1 hc0
      refine lv_tableIn (tgt := 48) hx hb eX9_standing_0.2.2.2.2.2.2.2.2.2.2.1 (by first | (rw [hc0]; done) | (rw [hc0]; decide)) (by first | (rw [hc0]; done) | (rw [hc0]; decide)) (by first | (rw [hc0]; done) | (rw [hc0]; rfl)) (by decide) ?_
      refine lv_aload_n hx hb eX9_standing_0.2.2.2.2.2.2.2.2.2.2.2.1 rfl (lv_at hl 0 rfl) ?_
      refine va_get (D := (dC, dI)) (ci := 9) (v := .ref a_tr) (C := RX9) (T := TX9) (N := 9) hx hb hts i_X9 hown hK hP 0 rfl rfl 3 (Nat.le_of_ble_eq_true rfl) (hts _ q_74) (fun _ h9 => h9) rfl eX9_standing_0.2.2.2.2.2.2.2.2.2.2.2.2.1 ?_
      refine va_get (D := (dC, dI)) (ci := 3) (v := .ref a_tr_foot) (C := RX3) (T := TX3) (N := 11) hx hb hts i_X3 hown hK hP 1 rfl rfl 4 (Nat.le_of_ble_eq_true rfl) (hts _ q_199) (fun _ h9 => h9) rfl eX9_standing_0.2.2.2.2.2.2.2.2.2.2.2.2.2.1 ?_
      refine lv_iload_n hx hb eX9_standing_0.2.2.2.2.2.2.2.2.2.2.2.2.2.2.1 rfl (lv_at hl 1 rfl) ?_
      have hin := hp.1
      have hp := hp.2
      refine va_iald hx hb hK hP 2 0 rfl rfl hin eX9_standing_0.2.2.2.2.2.2.2.2.2.2.2.2.2.2.2 ?_
      refine vx_ret (W.widen (k := 1) (n := 6) (Nat.zero_le _) (Nat.zero_le _) ?_)
      exact W.iret (v := tr_foot p0.toNatClampNeg) hx hb hr (fun t ht hW => ⟨⟨tr_foot p0.toNatClampNeg, (), rfl, hp, by rw [ht]; exact hP, va_K.moved hW.alike hK, hD⟩, hS.F ht⟩) hS.2.2 eX9_standing_57.1
    by_cases hc1 : p1 = 1
    · have hp := hp.2.1 hc1
      refine lv_tableIn (tgt := 58) hx hb eX9_standing_0.2.2.2.2.2.2.2.2.2.2.1 (by first | (rw [hc1]; done) | (rw [hc1]; decide)) (by first | (rw [hc1]; done) | (rw [hc1]; decide)) (by first | (rw [hc1]; done) | (rw [hc1]; rfl)) (by decide) ?_
      refine lv_aload_n hx hb eX9_standing_57.2.1 rfl (lv_at hl 0 rfl) ?_
      refine va_get (D := (dC, dI)) (ci := 9) (v := .ref a_tr) (C := RX9) (T := TX9) (N := 9) hx hb hts i_X9 hown hK hP 0 rfl rfl 3 (Nat.le_of_ble_eq_true rfl) (hts _ q_74) (fun _ h9 => h9) rfl eX9_standing_57.2.2.1 ?_
      refine va_get (D := (dC, dI)) (ci := 3) (v := .ref a_tr_fork) (C := RX3) (T := TX3) (N := 11) hx hb hts i_X3 hown hK hP 1 rfl rfl 5 (Nat.le_of_ble_eq_true rfl) (hts _ q_200) (fun _ h9 => h9) rfl eX9_standing_57.2.2.2.1 ?_
      refine lv_iload_n hx hb eX9_standing_57.2.2.2.2.1 rfl (lv_at hl 1 rfl) ?_
      have hin := hp.1
      have hp := hp.2
      refine va_iald hx hb hK hP 3 0 rfl rfl hin eX9_standing_57.2.2.2.2.2.1 ?_
      refine vx_ret (W.widen (k := 1) (n := 6) (Nat.zero_le _) (Nat.zero_le _) ?_)
      exact W.iret (v := tr_fork p0.toNatClampNeg) hx hb hr (fun t ht hW => ⟨⟨tr_fork p0.toNatClampNeg, (), rfl, hp, by rw [ht]; exact hP, va_K.moved hW.alike hK, hD⟩, hS.F ht⟩) hS.2.2 eX9_standing_57.2.2.2.2.2.2.1
    by_cases hc2 : p1 = 2
    · have hp := hp.2.2.1 hc2
      refine lv_tableIn (tgt := 68) hx hb eX9_standing_0.2.2.2.2.2.2.2.2.2.2.1 (by first | (rw [hc2]; done) | (rw [hc2]; decide)) (by first | (rw [hc2]; done) | (rw [hc2]; decide)) (by first | (rw [hc2]; done) | (rw [hc2]; rfl)) (by decide) ?_
      refine lv_aload_n hx hb eX9_standing_57.2.2.2.2.2.2.2.1 rfl (lv_at hl 0 rfl) ?_
      refine va_get (D := (dC, dI)) (ci := 9) (v := .ref a_tr) (C := RX9) (T := TX9) (N := 9) hx hb hts i_X9 hown hK hP 0 rfl rfl 3 (Nat.le_of_ble_eq_true rfl) (hts _ q_74) (fun _ h9 => h9) rfl eX9_standing_57.2.2.2.2.2.2.2.2.1 ?_
      refine lv_iload_n hx hb eX9_standing_57.2.2.2.2.2.2.2.2.2.1 rfl (lv_at hl 1 rfl) ?_
      refine g_calli (wc := (wd_X3_downSeconds cI cC cZ cB cJ a_tr a_tr_x a_tr_height a_tr_worth a_tr_ripe a_tr_foot a_tr_fork a_tr_settings tr_fruits tr_standings tr_comingFruits tr_comingStandings tr_fork)) hP hD hS hA [1, 3] [0, 2] rfl rfl rfl rfl (g_runV (As := [.int p0]) (rest := []) C0 hP hD hS [1, 3] rfl rfl 1 3 rfl rfl (c_X3_downSeconds l dC dI cI cC cZ cB cJ a_tr a_tr_x a_tr_height a_tr_worth a_tr_ripe a_tr_foot a_tr_fork a_tr_settings H.size p0 tr_fruits tr_standings tr_comingFruits tr_comingStandings tr_fork _ hp) q_201 q_204 q_202 q_203 q_48 h_X3_downSeconds rfl rfl ⟨Nat.le_of_ble_eq_true rfl, Nat.le_of_ble_eq_true rfl⟩ rfl rfl hl.1 rfl (lv_room (Nat.le_of_ble_eq_true rfl)) eX9_standing_57.2.2.2.2.2.2.2.2.2.2.1 ⟨Nat.zero_le _, Nat.zero_le _⟩) (fun r_2 u H locs hp hP hD hS => ?_)
      have hPD := PDs (ws' := (wd_X9_standing cI cC cZ cB cJ a_x a_tx a_pl a_ga a_tr a_no a_pa a_ro a_mk a_x_acts a_tr_x a_tr_height a_tr_worth a_tr_ripe a_tr_foot a_tr_fork a_tr_settings tr_fruits tr_standings tr_comingFruits tr_comingStandings tr_foot tr_fork)) hP hD [0, 2, 1, 3] (by decide) rfl
      have hP := hPD.1
      have hD := hPD.2
      refine vx_ret (W.widen (k := 1) (n := 6) (Nat.zero_le _) (Nat.zero_le _) ?_)
      exact W.iret (v := r_2) hx hb hr (fun t ht hW => ⟨⟨r_2, (), rfl, hp, by rw [ht]; exact hP, va_K.moved hW.alike hK, hD⟩, hS.F ht⟩) hS.2.2 eX9_standing_57.2.2.2.2.2.2.2.2.2.2.2.1
    have hp := hp.2.2.2 hc0 hc1 hc2
    have key : W p l e rm_X9_standing s m args below meth c H locs 0 0 (vx_MQ below (q_X9_standing dC dI cI cC cZ cB cJ A a_x a_tx a_pl a_ga a_tr a_no a_pa a_ro a_mk a_x_acts a_tr_x a_tr_height a_tr_worth a_tr_ripe a_tr_foot a_tr_fork a_tr_settings tr_fruits tr_standings tr_comingFruits tr_comingStandings tr_foot tr_fork post) (gXC (dC, dI) (tyl cI cC cZ cB cJ) A (wd_X9_standing cI cC cZ cB cJ a_x a_tx a_pl a_ga a_tr a_no a_pa a_ro a_mk a_x_acts a_tr_x a_tr_height a_tr_worth a_tr_ripe a_tr_foot a_tr_fork a_tr_settings tr_fruits tr_standings tr_comingFruits tr_comingStandings tr_foot tr_fork) postx) args s 1 6 A) (F0 m 77 ls []) := by
      exact g_throw C0 hl9 htab hP hD hS hl.1 eX9_standing_57.2.2.2.2.2.2.2.2.2.2.2.2.1 eX9_standing_57.2.2.2.2.2.2.2.2.2.2.2.2.2.1 eX9_standing_57.2.2.2.2.2.2.2.2.2.2.2.2.2.2.1 eX9_standing_57.2.2.2.2.2.2.2.2.2.2.2.2.2.2.2 (Nat.le_of_ble_eq_true rfl) (Nat.le_of_ble_eq_true rfl) (Nat.le_of_ble_eq_true rfl) (Nat.le_of_ble_eq_true rfl) hp
    exact lv_tableOut (tgt := 77) hx hb eX9_standing_0.2.2.2.2.2.2.2.2.2.2.1 (by have g0 := lv_neT (a := 0) hc0 rfl; have g1 := lv_neT (a := 1) hc1 rfl; have g2 := lv_neT (a := 2) hc2 rfl; omega) (by decide) key
  · have hp := hp.2 hc
    exact g_throw C0 hl9 htab hP hD hS hl.1 eX9_standing_0.2.2.2.2.2.1 eX9_standing_0.2.2.2.2.2.2.1 eX9_standing_0.2.2.2.2.2.2.2.1 eX9_standing_0.2.2.2.2.2.2.2.2.1 (Nat.le_of_ble_eq_true rfl) (Nat.le_of_ble_eq_true rfl) (Nat.le_of_ble_eq_true rfl) (Nat.le_of_ble_eq_true rfl) hp
