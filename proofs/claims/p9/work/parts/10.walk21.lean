abbrev wd_X9_marks (cI cC cZ cB cJ : ClassId) (a_x : Nat) (a_tx : Nat) (a_pl : Nat) (a_ga : Nat) (a_tr : Nat) (a_no : Nat) (a_pa : Nat) (a_ro : Nat) (a_mk : Nat) (a_x_acts : Nat) (a_tr_x : Nat) (a_tr_height : Nat) (a_tr_worth : Nat) (a_tr_ripe : Nat) (a_tr_foot : Nat) (a_tr_fork : Nat) (a_tr_settings : Nat) (tr_fruits : Int32) (tr_standings : Int32) (tr_comingFruits : Int32) (tr_comingStandings : Int32) (tr_foot : Nat → Int32) : va_W := [(a_x, .inr (9, [.ref a_tx, .ref a_pl, .ref a_ga, .ref a_tr, .ref a_no, .ref a_pa, .ref a_ro, .ref a_mk, .ref a_x_acts])), (a_tr, .inr (3, [.ref a_tr_x, .ref a_tr_height, .ref a_tr_worth, .ref a_tr_ripe, .ref a_tr_foot, .ref a_tr_fork, .ref a_tr_settings, .int tr_fruits, .int tr_standings, .int tr_comingFruits, .int tr_comingStandings])), (a_tr_foot, .inl (cI, 8, .inl tr_foot))]
abbrev q_X9_marks (dC : Nat → ClassId) (dI : Nat → Nat → Nat) (cI cC cZ cB cJ : ClassId) (A : Nat → Prop) (a_x : Nat) (a_tx : Nat) (a_pl : Nat) (a_ga : Nat) (a_tr : Nat) (a_no : Nat) (a_pa : Nat) (a_ro : Nat) (a_mk : Nat) (a_x_acts : Nat) (a_tr_x : Nat) (a_tr_height : Nat) (a_tr_worth : Nat) (a_tr_ripe : Nat) (a_tr_foot : Nat) (a_tr_fork : Nat) (a_tr_settings : Nat) (tr_fruits : Int32) (tr_standings : Int32) (tr_comingFruits : Int32) (tr_comingStandings : Int32) (tr_foot : Nat → Int32) (post : Int32 → Prop) : Array Value → State → Outcome → State → Prop := va_Qi (fun (r : Int32) (u : Unit) => post r) (fun u t => gB (dC, dI) (tyl cI cC cZ cB cJ) A (wd_X9_marks cI cC cZ cB cJ a_x a_tx a_pl a_ga a_tr a_no a_pa a_ro a_mk a_x_acts a_tr_x a_tr_height a_tr_worth a_tr_ripe a_tr_foot a_tr_fork a_tr_settings tr_fruits tr_standings tr_comingFruits tr_comingStandings tr_foot) t) A
abbrev rm_X9_marks : Room := { frames := 2, cells := 0, slots := 0, locals := 45 }
def wp_X9_marks (post : Int32 → Prop) (p0 : Int32) (p1 : Int32) (tr_standings : Int32) (tr_foot : Nat → Int32) : Prop := (p0 < 0 → post (-1)) ∧ (¬ p0 < 0 → (99 < p0 → post (-1)) ∧ (¬ 99 < p0 → (p1 < 0 → post (-1)) ∧ (¬ p1 < 0 → (p1 ≤ 99 → wp_X3_standingsAt (fun r_1 => post r_1) p0 p1 tr_standings tr_foot) ∧ (¬ p1 ≤ 99 → post (-1)))))
set_option maxHeartbeats 4000000 in
set_option maxRecDepth 100000 in
theorem c_X9_marks (l : Launch) (dC : Nat → ClassId) (dI : Nat → Nat → Nat) (cI cC cZ cB cJ : ClassId) (a_x : Nat) (a_tx : Nat) (a_pl : Nat) (a_ga : Nat) (a_tr : Nat) (a_no : Nat) (a_pa : Nat) (a_ro : Nat) (a_mk : Nat) (a_x_acts : Nat) (a_tr_x : Nat) (a_tr_height : Nat) (a_tr_worth : Nat) (a_tr_ripe : Nat) (a_tr_foot : Nat) (a_tr_fork : Nat) (a_tr_settings : Nat) (sz : Nat) (p0 : Int32) (p1 : Int32) (tr_fruits : Int32) (tr_standings : Int32) (tr_comingFruits : Int32) (tr_comingStandings : Int32) (tr_foot : Nat → Int32) (post : Int32 → Prop) (hw : wp_X9_marks post p0 p1 tr_standings tr_foot) : Met l yX9_marks (gw yX9_marks cX9_marks 3 (some .int)) rm_X9_marks (va_Pc [.ref a_x, .int p0, .int p1] (gPre (dC, dI) (tyl cI cC cZ cB cJ) (wd_X9_marks cI cC cZ cB cJ a_x a_tx a_pl a_ga a_tr a_no a_pa a_ro a_mk a_x_acts a_tr_x a_tr_height a_tr_worth a_tr_ripe a_tr_foot a_tr_fork a_tr_settings tr_fruits tr_standings tr_comingFruits tr_comingStandings tr_foot) sz)) (q_X9_marks dC dI cI cC cZ cB cJ (va_A (wd_X9_marks cI cC cZ cB cJ a_x a_tx a_pl a_ga a_tr a_no a_pa a_ro a_mk a_x_acts a_tr_x a_tr_height a_tr_worth a_tr_ripe a_tr_foot a_tr_fork a_tr_settings tr_fruits tr_standings tr_comingFruits tr_comingStandings tr_foot) sz) a_x a_tx a_pl a_ga a_tr a_no a_pa a_ro a_mk a_x_acts a_tr_x a_tr_height a_tr_worth a_tr_ripe a_tr_foot a_tr_fork a_tr_settings tr_fruits tr_standings tr_comingFruits tr_comingStandings tr_foot post) 0 0 (va_A (wd_X9_marks cI cC cZ cB cJ a_x a_tx a_pl a_ga a_tr a_no a_pa a_ro a_mk a_x_acts a_tr_x a_tr_height a_tr_worth a_tr_ripe a_tr_foot a_tr_fork a_tr_settings tr_fruits tr_standings tr_comingFruits tr_comingStandings tr_foot) sz) := by
  refine g_enter (own := RX9) (dC, dI) (tyl cI cC cZ cB cJ) (wd_X9_marks cI cC cZ cB cJ a_x a_tx a_pl a_ga a_tr a_no a_pa a_ro a_mk a_x_acts a_tr_x a_tr_height a_tr_worth a_tr_ripe a_tr_foot a_tr_fork a_tr_settings tr_fruits tr_standings tr_comingFruits tr_comingStandings tr_foot) sz [.ref a_x, .int p0, .int p1] (fun A => q_X9_marks dC dI cI cC cZ cB cJ A a_x a_tx a_pl a_ga a_tr a_no a_pa a_ro a_mk a_x_acts a_tr_x a_tr_height a_tr_worth a_tr_ripe a_tr_foot a_tr_fork a_tr_settings tr_fruits tr_standings tr_comingFruits tr_comingStandings tr_foot post) (by decide) rfl (Nat.le_of_ble_eq_true rfl) ?_
  intro p e s m args below meth c A H locs ls C0 hP hD hS hl
  have hl : lv_has ls 3 [(0, .ref a_x), (1, .int p0), (2, .int p1)] := hl
  obtain ⟨hx, hb, hr, hml, hown, hts, hlocks, hA, hK, hN, tL, tM, hZL, hTL, hZM, hTM, hZX⟩ := id C0
  have hp := hw
  unfold wp_X9_marks at hp
  refine lv_iload_n hx hb eX9_marks_0.1 rfl (lv_at hl 1 rfl) ?_
  refine lv_if_lt (tgt := 20) hx hb eX9_marks_0.2.1 (by decide) (fun hc => ?_) (fun hc => ?_)
  · have hp := hp.1 hc
    refine lv_iconst (v := (-1)) hx hb eX9_marks_0.2.2.2.2.2.2.2.2.2.2.1 (by decide) ?_
    exact W.iret (v := (-1)) hx hb hr (fun t ht hW => ⟨⟨(-1), (), rfl, hp, by rw [ht]; exact hP, va_K.moved hW.alike hK, hD⟩, hS.F ht⟩) hS.2.2 eX9_marks_0.2.2.2.2.2.2.2.2.2.2.2.1
  · have hp := hp.2 hc
    refine lv_iload_n hx hb eX9_marks_0.2.2.1 rfl (lv_at hl 1 rfl) ?_
    refine lv_bipush (v := 99) hx hb eX9_marks_0.2.2.2.1 (by decide) ?_
    refine lv_icmp_gt (tgt := 20) hx hb eX9_marks_0.2.2.2.2.1 (by decide) (fun hc => ?_) (fun hc => ?_)
    · have hp := hp.1 hc
      refine lv_iconst (v := (-1)) hx hb eX9_marks_0.2.2.2.2.2.2.2.2.2.2.1 (by decide) ?_
      exact W.iret (v := (-1)) hx hb hr (fun t ht hW => ⟨⟨(-1), (), rfl, hp, by rw [ht]; exact hP, va_K.moved hW.alike hK, hD⟩, hS.F ht⟩) hS.2.2 eX9_marks_0.2.2.2.2.2.2.2.2.2.2.2.1
    · have hp := hp.2 hc
      refine lv_iload_n hx hb eX9_marks_0.2.2.2.2.2.1 rfl (lv_at hl 2 rfl) ?_
      refine lv_if_lt (tgt := 20) hx hb eX9_marks_0.2.2.2.2.2.2.1 (by decide) (fun hc => ?_) (fun hc => ?_)
      · have hp := hp.1 hc
        refine lv_iconst (v := (-1)) hx hb eX9_marks_0.2.2.2.2.2.2.2.2.2.2.1 (by decide) ?_
        exact W.iret (v := (-1)) hx hb hr (fun t ht hW => ⟨⟨(-1), (), rfl, hp, by rw [ht]; exact hP, va_K.moved hW.alike hK, hD⟩, hS.F ht⟩) hS.2.2 eX9_marks_0.2.2.2.2.2.2.2.2.2.2.2.1
      · have hp := hp.2 hc
        refine lv_iload_n hx hb eX9_marks_0.2.2.2.2.2.2.2.1 rfl (lv_at hl 2 rfl) ?_
        refine lv_bipush (v := 99) hx hb eX9_marks_0.2.2.2.2.2.2.2.2.1 (by decide) ?_
        refine lv_icmp_le (tgt := 22) hx hb eX9_marks_0.2.2.2.2.2.2.2.2.2.1 (by decide) (fun hc => ?_) (fun hc => ?_)
        · have hp := hp.1 hc
          refine lv_aload_n hx hb eX9_marks_0.2.2.2.2.2.2.2.2.2.2.2.2.1 rfl (lv_at hl 0 rfl) ?_
          refine va_get (D := (dC, dI)) (ci := 9) (v := .ref a_tr) (C := RX9) (T := TX9) (N := 9) hx hb hts i_X9 hown hK hP 0 rfl rfl 3 (Nat.le_of_ble_eq_true rfl) (hts _ q_74) (fun _ h9 => h9) rfl eX9_marks_0.2.2.2.2.2.2.2.2.2.2.2.2.2.1 ?_
          refine lv_iload_n hx hb eX9_marks_0.2.2.2.2.2.2.2.2.2.2.2.2.2.2.1 rfl (lv_at hl 1 rfl) ?_
          refine lv_iload_n hx hb eX9_marks_0.2.2.2.2.2.2.2.2.2.2.2.2.2.2.2 rfl (lv_at hl 2 rfl) ?_
          refine g_calli (wc := (wd_X3_standingsAt cI cC cZ cB cJ a_tr a_tr_x a_tr_height a_tr_worth a_tr_ripe a_tr_foot a_tr_fork a_tr_settings tr_fruits tr_standings tr_comingFruits tr_comingStandings tr_foot)) hP hD hS hA [1, 2] [0] rfl rfl rfl rfl (g_runV (As := [.int p0, .int p1]) (rest := []) C0 hP hD hS [1, 2] rfl rfl 1 3 rfl rfl (c_X3_standingsAt l dC dI cI cC cZ cB cJ a_tr a_tr_x a_tr_height a_tr_worth a_tr_ripe a_tr_foot a_tr_fork a_tr_settings H.size p0 p1 tr_fruits tr_standings tr_comingFruits tr_comingStandings tr_foot _ hp) q_588 q_591 q_589 q_590 q_48 h_X3_standingsAt rfl rfl ⟨Nat.le_of_ble_eq_true rfl, Nat.le_of_ble_eq_true rfl⟩ rfl rfl hl.1 rfl (lv_room (Nat.le_of_ble_eq_true rfl)) eX9_marks_28.1 ⟨Nat.zero_le _, Nat.zero_le _⟩) (fun r_1 u H locs hp hP hD hS => ?_)
          have hPD := PDs (ws' := (wd_X9_marks cI cC cZ cB cJ a_x a_tx a_pl a_ga a_tr a_no a_pa a_ro a_mk a_x_acts a_tr_x a_tr_height a_tr_worth a_tr_ripe a_tr_foot a_tr_fork a_tr_settings tr_fruits tr_standings tr_comingFruits tr_comingStandings tr_foot)) hP hD [0, 1, 2] (by decide) rfl
          have hP := hPD.1
          have hD := hPD.2
          exact W.iret (v := r_1) hx hb hr (fun t ht hW => ⟨⟨r_1, (), rfl, hp, by rw [ht]; exact hP, va_K.moved hW.alike hK, hD⟩, hS.F ht⟩) hS.2.2 eX9_marks_28.2
        · have hp := hp.2 hc
          refine lv_iconst (v := (-1)) hx hb eX9_marks_0.2.2.2.2.2.2.2.2.2.2.1 (by decide) ?_
          exact W.iret (v := (-1)) hx hb hr (fun t ht hW => ⟨⟨(-1), (), rfl, hp, by rw [ht]; exact hP, va_K.moved hW.alike hK, hD⟩, hS.F ht⟩) hS.2.2 eX9_marks_0.2.2.2.2.2.2.2.2.2.2.2.1
abbrev wd_X1_readAll (cI cC cZ cB cJ : ClassId) (a_tx : Nat) (a_tx_signs : Nat) (a_mk : Nat) (a_mk_at : Nat) (a_mk_rows : Nat) (tx_length : Int32) (tx_place : Int32) (tx_stop : Int32) (tx_signs : Nat → Int32) (mk_many : Int32) (mk_at : Nat → Int32) : va_W := [(a_tx, .inr (8, [.ref a_tx_signs, .int tx_length, .int tx_place, .int tx_stop])), (a_tx_signs, .inl (cC, 80, .inl tx_signs)), (a_mk, .inr (1, [.ref a_mk_at, .ref a_mk_rows, .int mk_many])), (a_mk_at, .inl (cI, 6, .inl mk_at))]
abbrev q_X1_readAll (dC : Nat → ClassId) (dI : Nat → Nat → Nat) (cI cC cZ cB cJ : ClassId) (A : Nat → Prop) (a_tx : Nat) (a_tx_signs : Nat) (a_mk : Nat) (a_mk_at : Nat) (a_mk_rows : Nat) (tx_length : Int32) (tx_stop : Int32) (tx_signs : Nat → Int32) (post : Int32 → Int32 → Int32 → (Nat → Int32) → Prop) : Array Value → State → Outcome → State → Prop := va_Qi (fun (r : Int32) (u : Int32 × Int32 × (Nat → Int32)) => post r u.1 u.2.1 u.2.2) (fun u t => gB (dC, dI) (tyl cI cC cZ cB cJ) A (wd_X1_readAll cI cC cZ cB cJ a_tx a_tx_signs a_mk a_mk_at a_mk_rows tx_length u.1 tx_stop tx_signs u.2.1 u.2.2) t) A
abbrev rm_X1_readAll : Room := { frames := 2, cells := 0, slots := 0, locals := 45 }
section S_X1_readAll
variable {p : Program} {l : Launch} {e : Env} {s : State} {m : MethodId} {args : Array Value} {below : List Frame} {meth : Method} {c : Code} {dC : Nat → ClassId} {dI : Nat → Nat → Nat} {cI cC cZ cB cJ : ClassId} {A : Nat → Prop} {a_tx : Nat} {a_tx_signs : Nat} {a_mk : Nat} {a_mk_at : Nat} {a_mk_rows : Nat} {tx_length : Int32} {tx_stop : Int32} {tx_signs : Nat → Int32} {post : Int32 → Int32 → Int32 → (Nat → Int32) → Prop}
def ws_X1_readAll_5 (post : Int32 → Int32 → Int32 → (Nat → Int32) → Prop) (next : Int32 → Int32 → (Nat → Int32) → Prop) (tx_length : Int32) (tx_stop : Int32) (tx_signs : Nat → Int32) (tx_place : Int32) (mk_many : Int32) (mk_at : Nat → Int32) : Prop := (6 ≤ mk_many → post 0 tx_place mk_many mk_at) ∧ (¬ 6 ≤ mk_many → wp_X8_readNumber (fun r_1 tx_place_2 => (¬ r_1 = (-1) → vp_in mk_many 6 ∧ (wp_X8_take (fun r_3 tx_place_4 => (¬ r_3 = 0 → ∀ v_5 : Int32, v_5 = mk_many + 1 → next tx_place_4 v_5 (upd mk_at mk_many.toNatClampNeg r_1)) ∧ (r_3 = 0 → ∀ v_6 : Int32, v_6 = mk_many + 1 → wp_X8_isThrough (fun r_7 => narrow .boolean (.int r_7) = .int r_7 ∧ post r_7 tx_place_4 v_6 (upd mk_at mk_many.toNatClampNeg r_1)) tx_length tx_place_4)) 44 tx_place_2 tx_stop tx_signs)) ∧ (r_1 = (-1) → post 0 tx_place_2 mk_many mk_at)) 2 tx_place tx_stop tx_signs)
noncomputable def wb_X1_readAll_5 (post : Int32 → Int32 → Int32 → (Nat → Int32) → Prop) (tx_length : Int32) (tx_stop : Int32) (tx_signs : Nat → Int32) : Nat → Int32 → Int32 → (Nat → Int32) → Prop := fun n => Nat.rec (motive := fun _ => Int32 → Int32 → (Nat → Int32) → Prop) (fun _ _ _ => False) (fun _ ih => ws_X1_readAll_5 post ih tx_length tx_stop tx_signs) n
set_option maxHeartbeats 4000000 in
set_option maxRecDepth 100000 in
theorem ks_X1_readAll_5 (C0 : gc cX1_readAll (some .boolean) 3 RX1 (dC, dI) (tyl cI cC cZ cB cJ) A p s m args meth c) {next : Int32 → Int32 → (Nat → Int32) → Prop} (hKn : ∀ (tx_place : Int32) (mk_many : Int32) (mk_at : Nat → Int32) (H : Heap) (locs : List Loc) (ls : Array Slot), next tx_place mk_many mk_at → va_P (dC, dI) classes (wd_X1_readAll cI cC cZ cB cJ a_tx a_tx_signs a_mk a_mk_at a_mk_rows tx_length tx_place tx_stop tx_signs mk_many mk_at) H → va_D A (wd_X1_readAll cI cC cZ cB cJ a_tx a_tx_signs a_mk a_mk_at a_mk_rows tx_length tx_place tx_stop tx_signs mk_many mk_at) → va_S A s.heap H locs → lv_has ls 3 [(0, .ref a_mk), (1, .ref a_tx)] → W p l e rm_X1_readAll s m args below meth c H locs 0 0 (MQ below (q_X1_readAll dC dI cI cC cZ cB cJ A a_tx a_tx_signs a_mk a_mk_at a_mk_rows tx_length tx_stop tx_signs post) args s 0 0 A) (F0 m 5 ls [])) : ∀ (tx_place : Int32) (mk_many : Int32) (mk_at : Nat → Int32) (H : Heap) (locs : List Loc) (ls : Array Slot), (ws_X1_readAll_5 post next tx_length tx_stop tx_signs) tx_place mk_many mk_at → va_P (dC, dI) classes (wd_X1_readAll cI cC cZ cB cJ a_tx a_tx_signs a_mk a_mk_at a_mk_rows tx_length tx_place tx_stop tx_signs mk_many mk_at) H → va_D A (wd_X1_readAll cI cC cZ cB cJ a_tx a_tx_signs a_mk a_mk_at a_mk_rows tx_length tx_place tx_stop tx_signs mk_many mk_at) → va_S A s.heap H locs → lv_has ls 3 [(0, .ref a_mk), (1, .ref a_tx)] → W p l e rm_X1_readAll s m args below meth c H locs 0 0 (MQ below (q_X1_readAll dC dI cI cC cZ cB cJ A a_tx a_tx_signs a_mk a_mk_at a_mk_rows tx_length tx_stop tx_signs post) args s 0 0 A) (F0 m 5 ls []) := by
  obtain ⟨hx, hb, hr, hml, hown, hts, hlocks, hA, hK, hN, tL, tM, hZL, hTL, hZM, hTM, hZX⟩ := id C0
  intro tx_place mk_many mk_at H locs ls hp hP hD hS hl
  unfold ws_X1_readAll_5 at hp
  refine lv_aload_n hx hb eX1_readAll_0.2.2.2.1 rfl (lv_at hl 0 rfl) ?_
  refine va_get (D := (dC, dI)) (ci := 1) (v := .int mk_many) (C := RX1) (T := TX1) (N := 3) hx hb hts i_X1 hown hK hP 2 rfl rfl 2 (Nat.le_of_ble_eq_true rfl) (hts _ q_592) (fun _ h9 => h9) rfl eX1_readAll_0.2.2.2.2.1 ?_
  refine lv_bipush (v := 6) hx hb eX1_readAll_0.2.2.2.2.2.1 (by decide) ?_
  refine lv_icmp_ge (tgt := 74) hx hb eX1_readAll_0.2.2.2.2.2.2.1 (by decide) (fun hc => ?_) (fun hc => ?_)
  · have hp := hp.1 hc
    refine lv_iconst (v := 0) hx hb eX1_readAll_56.2.2.2.2.2.2.2.2.2.2.1 (by decide) ?_
    exact W.zret (v := 0) hx hb hr rfl (fun t ht hW => ⟨⟨0, (tx_place, mk_many, mk_at), rfl, hp, by rw [ht]; exact hP, va_K.moved hW.alike hK, hD⟩, hS.F ht⟩) hS.2.2 eX1_readAll_56.2.2.2.2.2.2.2.2.2.2.2
  · have hp := hp.2 hc
    refine lv_aload_n hx hb eX1_readAll_0.2.2.2.2.2.2.2.1 rfl (lv_at hl 1 rfl) ?_
    refine lv_iconst (v := 2) hx hb eX1_readAll_0.2.2.2.2.2.2.2.2.1 (by decide) ?_
    refine g_calli (wc := (wd_X8_readNumber cI cC cZ cB cJ a_tx a_tx_signs tx_length tx_place tx_stop tx_signs)) hP hD hS hA [0, 1] [2, 3] rfl rfl rfl rfl (g_runV (As := [.int 2]) (rest := []) C0 hP hD hS [0, 1] rfl rfl 0 8 rfl rfl (c_X8_readNumber l dC dI cI cC cZ cB cJ a_tx a_tx_signs H.size 2 tx_length tx_place tx_stop tx_signs _ hp) q_37 q_593 q_38 q_39 q_5 h_X8_readNumber rfl rfl ⟨Nat.le_of_ble_eq_true rfl, Nat.le_of_ble_eq_true rfl⟩ rfl rfl hl.1 rfl (lv_room (Nat.le_of_ble_eq_true rfl)) eX1_readAll_0.2.2.2.2.2.2.2.2.2.1 ⟨Nat.zero_le _, Nat.zero_le _⟩) (fun r_1 u H locs hp hP hD hS => ?_)
    obtain ⟨tx_place_2, rfl⟩ : ∃ z, z = u := ⟨_, rfl⟩
    have hPD := PDs (ws' := (wd_X1_readAll cI cC cZ cB cJ a_tx a_tx_signs a_mk a_mk_at a_mk_rows tx_length tx_place_2 tx_stop tx_signs mk_many mk_at)) hP hD [2, 3, 0, 1] (by decide) rfl
    have hP := hPD.1
    have hD := hPD.2
    refine lv_istore_n (lv' := [(2, .int r_1), (0, .ref a_mk), (1, .ref a_tx)]) hx hb eX1_readAll_0.2.2.2.2.2.2.2.2.2.2.1 rfl hl (by decide) rfl (fun ls hl => ?_)
    refine lv_iload_n hx hb eX1_readAll_0.2.2.2.2.2.2.2.2.2.2.2.1 rfl (lv_at hl 0 rfl) ?_
    refine lv_iconst (v := (-1)) hx hb eX1_readAll_0.2.2.2.2.2.2.2.2.2.2.2.2.1 (by decide) ?_
    refine lv_icmp_ne (tgt := 27) hx hb eX1_readAll_0.2.2.2.2.2.2.2.2.2.2.2.2.2.1 (by decide) (fun hc => ?_) (fun hc => ?_)
    · have hp := hp.1 hc
      refine lv_aload_n hx hb eX1_readAll_27.1 rfl (lv_at hl 1 rfl) ?_
      refine va_get (D := (dC, dI)) (ci := 1) (v := .ref a_mk_at) (C := RX1) (T := TX1) (N := 3) hx hb hts i_X1 hown hK hP 2 rfl rfl 0 (Nat.le_of_ble_eq_true rfl) (hts _ q_594) (fun _ h9 => h9) rfl eX1_readAll_27.2.1 ?_
      refine lv_aload_n hx hb eX1_readAll_27.2.2.1 rfl (lv_at hl 1 rfl) ?_
      refine va_get (D := (dC, dI)) (ci := 1) (v := .int mk_many) (C := RX1) (T := TX1) (N := 3) hx hb hts i_X1 hown hK hP 2 rfl rfl 2 (Nat.le_of_ble_eq_true rfl) (hts _ q_592) (fun _ h9 => h9) rfl eX1_readAll_27.2.2.2.1 ?_
      refine lv_iload_n hx hb eX1_readAll_27.2.2.2.2.1 rfl (lv_at hl 0 rfl) ?_
      have hin := hp.1
      have hp := hp.2
      refine va_iast hx hb hK hP hD hS 3 0 rfl rfl hin eX1_readAll_27.2.2.2.2.2.1 (fun H locs hP hD hS => ?_)
      have hP : va_P (dC, dI) classes (wd_X1_readAll cI cC cZ cB cJ a_tx a_tx_signs a_mk a_mk_at a_mk_rows tx_length tx_place_2 tx_stop tx_signs mk_many (upd mk_at mk_many.toNatClampNeg r_1)) H := hP
      have hD : va_D A (wd_X1_readAll cI cC cZ cB cJ a_tx a_tx_signs a_mk a_mk_at a_mk_rows tx_length tx_place_2 tx_stop tx_signs mk_many (upd mk_at mk_many.toNatClampNeg r_1)) := hD
      refine lv_aload_n hx hb eX1_readAll_27.2.2.2.2.2.2.1 rfl (lv_at hl 2 rfl) ?_
      refine lv_bipush (v := 44) hx hb eX1_readAll_27.2.2.2.2.2.2.2.1 (by decide) ?_
      refine g_calli (wc := (wd_X8_take cI cC cZ cB cJ a_tx a_tx_signs tx_length tx_place_2 tx_stop tx_signs)) hP hD hS hA [0, 1] [2, 3] rfl rfl rfl rfl (g_runV (As := [.int 44]) (rest := []) C0 hP hD hS [0, 1] rfl rfl 0 8 rfl rfl (c_X8_take l dC dI cI cC cZ cB cJ a_tx a_tx_signs H.size 44 tx_length tx_place_2 tx_stop tx_signs _ hp) q_41 q_595 q_42 q_43 q_5 h_X8_take rfl rfl ⟨Nat.le_of_ble_eq_true rfl, Nat.le_of_ble_eq_true rfl⟩ rfl rfl hl.1 rfl (lv_room (Nat.le_of_ble_eq_true rfl)) eX1_readAll_27.2.2.2.2.2.2.2.2.1 ⟨Nat.zero_le _, Nat.zero_le _⟩) (fun r_3 u H locs hp hP hD hS => ?_)
      obtain ⟨tx_place_4, rfl⟩ : ∃ z, z = u := ⟨_, rfl⟩
      have hPD := PDs (ws' := (wd_X1_readAll cI cC cZ cB cJ a_tx a_tx_signs a_mk a_mk_at a_mk_rows tx_length tx_place_4 tx_stop tx_signs mk_many (upd mk_at mk_many.toNatClampNeg r_1))) hP hD [2, 3, 0, 1] (by decide) rfl
      have hP := hPD.1
      have hD := hPD.2
      refine lv_if_ne (tgt := 61) hx hb eX1_readAll_27.2.2.2.2.2.2.2.2.2.1 (by decide) (fun hc => ?_) (fun hc => ?_)
      · have hp := hp.1 hc
        refine lv_aload_n hx hb eX1_readAll_56.2.2.2.1 rfl (lv_at hl 1 rfl) ?_
        refine lv_dup hx hb eX1_readAll_56.2.2.2.2.1 rfl ?_
        refine va_get (D := (dC, dI)) (ci := 1) (v := .int mk_many) (C := RX1) (T := TX1) (N := 3) hx hb hts i_X1 hown hK hP 2 rfl rfl 2 (Nat.le_of_ble_eq_true rfl) (hts _ q_592) (fun _ h9 => h9) rfl eX1_readAll_56.2.2.2.2.2.1 ?_
        refine lv_iconst (v := 1) hx hb eX1_readAll_56.2.2.2.2.2.2.1 (by decide) ?_
        refine lv_iadd hx hb eX1_readAll_56.2.2.2.2.2.2.2.1 ?_
        refine lv_topi (fun v_5 ev_5 => ?_)
        have hp := hp v_5 ev_5
        refine va_put (D := (dC, dI)) (ci := 1) (v := .int v_5) (ty := .int) (C := RX1) (T := TX1) (N := 3) hx hb hts i_X1 tyX1 tyX1_ok nmX1 hown hK hP hD hS 2 rfl rfl 2 (Nat.le_of_ble_eq_true rfl) (hts _ q_592) (fun _ h9 => h9) rfl (tyX1_ok 2 (Nat.le_of_ble_eq_true rfl)) rfl rfl (Nat.le_of_ble_eq_true rfl) eX1_readAll_56.2.2.2.2.2.2.2.2.1 (fun H locs hP hD hS => ?_)
        have hP : va_P (dC, dI) classes (wd_X1_readAll cI cC cZ cB cJ a_tx a_tx_signs a_mk a_mk_at a_mk_rows tx_length tx_place_4 tx_stop tx_signs v_5 (upd mk_at mk_many.toNatClampNeg r_1)) H := hP
        have hD : va_D A (wd_X1_readAll cI cC cZ cB cJ a_tx a_tx_signs a_mk a_mk_at a_mk_rows tx_length tx_place_4 tx_stop tx_signs v_5 (upd mk_at mk_many.toNatClampNeg r_1)) := hD
        refine lv_goto (tgt := 5) hx hb eX1_readAll_56.2.2.2.2.2.2.2.2.2.1 (by decide) ?_
        exact hKn tx_place_4 v_5 (upd mk_at mk_many.toNatClampNeg r_1) H locs ls hp hP hD hS (lv_sub hl [1, 2] rfl)
      · have hp := hp.2 hc
        refine lv_aload_n hx hb eX1_readAll_27.2.2.2.2.2.2.2.2.2.2.1 rfl (lv_at hl 1 rfl) ?_
        refine lv_dup hx hb eX1_readAll_27.2.2.2.2.2.2.2.2.2.2.2.1 rfl ?_
        refine va_get (D := (dC, dI)) (ci := 1) (v := .int mk_many) (C := RX1) (T := TX1) (N := 3) hx hb hts i_X1 hown hK hP 2 rfl rfl 2 (Nat.le_of_ble_eq_true rfl) (hts _ q_592) (fun _ h9 => h9) rfl eX1_readAll_27.2.2.2.2.2.2.2.2.2.2.2.2.1 ?_
        refine lv_iconst (v := 1) hx hb eX1_readAll_27.2.2.2.2.2.2.2.2.2.2.2.2.2.1 (by decide) ?_
        refine lv_iadd hx hb eX1_readAll_27.2.2.2.2.2.2.2.2.2.2.2.2.2.2.1 ?_
        refine lv_topi (fun v_6 ev_6 => ?_)
        have hp := hp v_6 ev_6
        refine va_put (D := (dC, dI)) (ci := 1) (v := .int v_6) (ty := .int) (C := RX1) (T := TX1) (N := 3) hx hb hts i_X1 tyX1 tyX1_ok nmX1 hown hK hP hD hS 2 rfl rfl 2 (Nat.le_of_ble_eq_true rfl) (hts _ q_592) (fun _ h9 => h9) rfl (tyX1_ok 2 (Nat.le_of_ble_eq_true rfl)) rfl rfl (Nat.le_of_ble_eq_true rfl) eX1_readAll_27.2.2.2.2.2.2.2.2.2.2.2.2.2.2.2 (fun H locs hP hD hS => ?_)
        have hP : va_P (dC, dI) classes (wd_X1_readAll cI cC cZ cB cJ a_tx a_tx_signs a_mk a_mk_at a_mk_rows tx_length tx_place_4 tx_stop tx_signs v_6 (upd mk_at mk_many.toNatClampNeg r_1)) H := hP
        have hD : va_D A (wd_X1_readAll cI cC cZ cB cJ a_tx a_tx_signs a_mk a_mk_at a_mk_rows tx_length tx_place_4 tx_stop tx_signs v_6 (upd mk_at mk_many.toNatClampNeg r_1)) := hD
        refine lv_aload_n hx hb eX1_readAll_56.1 rfl (lv_at hl 2 rfl) ?_
        refine g_calli (wc := (wd_X8_isThrough cI cC cZ cB cJ a_tx a_tx_signs tx_length tx_place_4 tx_stop)) hP hD hS hA [0] [1, 2, 3] rfl rfl rfl rfl (g_runV (As := []) (rest := []) C0 hP hD hS [0] rfl rfl 0 8 rfl rfl (c_X8_isThrough l dC dI cI cC cZ cB cJ a_tx a_tx_signs H.size tx_length tx_place_4 tx_stop _ hp) q_97 q_596 q_98 q_99 q_5 h_X8_isThrough rfl rfl ⟨Nat.le_of_ble_eq_true rfl, Nat.le_of_ble_eq_true rfl⟩ rfl rfl hl.1 rfl (lv_room (Nat.le_of_ble_eq_true rfl)) eX1_readAll_56.2.1 ⟨Nat.zero_le _, Nat.zero_le _⟩) (fun r_7 u H locs hp hP hD hS => ?_)
        have hPD := PDs (ws' := (wd_X1_readAll cI cC cZ cB cJ a_tx a_tx_signs a_mk a_mk_at a_mk_rows tx_length tx_place_4 tx_stop tx_signs v_6 (upd mk_at mk_many.toNatClampNeg r_1))) hP hD [3, 0, 1, 2] (by decide) rfl
        have hP := hPD.1
        have hD := hPD.2
        have hnz := hp.1
        have hp := hp.2
        exact W.zret (v := r_7) hx hb hr hnz (fun t ht hW => ⟨⟨r_7, (tx_place_4, v_6, (upd mk_at mk_many.toNatClampNeg r_1)), rfl, hp, by rw [ht]; exact hP, va_K.moved hW.alike hK, hD⟩, hS.F ht⟩) hS.2.2 eX1_readAll_56.2.2.1
    · have hp := hp.2 hc
      refine lv_iconst (v := 0) hx hb eX1_readAll_0.2.2.2.2.2.2.2.2.2.2.2.2.2.2.1 (by decide) ?_
      exact W.zret (v := 0) hx hb hr rfl (fun t ht hW => ⟨⟨0, (tx_place_2, mk_many, mk_at), rfl, hp, by rw [ht]; exact hP, va_K.moved hW.alike hK, hD⟩, hS.F ht⟩) hS.2.2 eX1_readAll_0.2.2.2.2.2.2.2.2.2.2.2.2.2.2.2
set_option maxHeartbeats 4000000 in
set_option maxRecDepth 100000 in
theorem kb_X1_readAll_5 (C0 : gc cX1_readAll (some .boolean) 3 RX1 (dC, dI) (tyl cI cC cZ cB cJ) A p s m args meth c) : ∀ (n : Nat), ∀ (tx_place : Int32) (mk_many : Int32) (mk_at : Nat → Int32) (H : Heap) (locs : List Loc) (ls : Array Slot), (wb_X1_readAll_5 post tx_length tx_stop tx_signs n) tx_place mk_many mk_at → va_P (dC, dI) classes (wd_X1_readAll cI cC cZ cB cJ a_tx a_tx_signs a_mk a_mk_at a_mk_rows tx_length tx_place tx_stop tx_signs mk_many mk_at) H → va_D A (wd_X1_readAll cI cC cZ cB cJ a_tx a_tx_signs a_mk a_mk_at a_mk_rows tx_length tx_place tx_stop tx_signs mk_many mk_at) → va_S A s.heap H locs → lv_has ls 3 [(0, .ref a_mk), (1, .ref a_tx)] → W p l e rm_X1_readAll s m args below meth c H locs 0 0 (MQ below (q_X1_readAll dC dI cI cC cZ cB cJ A a_tx a_tx_signs a_mk a_mk_at a_mk_rows tx_length tx_stop tx_signs post) args s 0 0 A) (F0 m 5 ls []) := by
  intro n
  induction n with
  | zero =>
    intro tx_place mk_many mk_at H locs ls hp
    exact False.elim hp
  | succ n ih =>
    intro tx_place mk_many mk_at H locs ls hp
    exact ks_X1_readAll_5 C0 ih tx_place mk_many mk_at H locs ls hp
end S_X1_readAll
def wp_X1_readAll (post : Int32 → Int32 → Int32 → (Nat → Int32) → Prop) (tx_length : Int32) (tx_place : Int32) (tx_stop : Int32) (tx_signs : Nat → Int32) (mk_many : Int32) (mk_at : Nat → Int32) : Prop := ∃ n : Nat, wb_X1_readAll_5 post tx_length tx_stop tx_signs n tx_place 0 mk_at
set_option maxHeartbeats 4000000 in
set_option maxRecDepth 100000 in
theorem c_X1_readAll (l : Launch) (dC : Nat → ClassId) (dI : Nat → Nat → Nat) (cI cC cZ cB cJ : ClassId) (a_tx : Nat) (a_tx_signs : Nat) (a_mk : Nat) (a_mk_at : Nat) (a_mk_rows : Nat) (sz : Nat) (tx_length : Int32) (tx_place : Int32) (tx_stop : Int32) (tx_signs : Nat → Int32) (mk_many : Int32) (mk_at : Nat → Int32) (post : Int32 → Int32 → Int32 → (Nat → Int32) → Prop) (hw : wp_X1_readAll post tx_length tx_place tx_stop tx_signs mk_many mk_at) : Met l yX1_readAll (gw yX1_readAll cX1_readAll 3 (some .boolean)) rm_X1_readAll (va_Pc [.ref a_mk, .ref a_tx] (gPre (dC, dI) (tyl cI cC cZ cB cJ) (wd_X1_readAll cI cC cZ cB cJ a_tx a_tx_signs a_mk a_mk_at a_mk_rows tx_length tx_place tx_stop tx_signs mk_many mk_at) sz)) (q_X1_readAll dC dI cI cC cZ cB cJ (va_A (wd_X1_readAll cI cC cZ cB cJ a_tx a_tx_signs a_mk a_mk_at a_mk_rows tx_length tx_place tx_stop tx_signs mk_many mk_at) sz) a_tx a_tx_signs a_mk a_mk_at a_mk_rows tx_length tx_stop tx_signs post) 0 0 (va_A (wd_X1_readAll cI cC cZ cB cJ a_tx a_tx_signs a_mk a_mk_at a_mk_rows tx_length tx_place tx_stop tx_signs mk_many mk_at) sz) := by
  refine g_enter (own := RX1) (dC, dI) (tyl cI cC cZ cB cJ) (wd_X1_readAll cI cC cZ cB cJ a_tx a_tx_signs a_mk a_mk_at a_mk_rows tx_length tx_place tx_stop tx_signs mk_many mk_at) sz [.ref a_mk, .ref a_tx] (fun A => q_X1_readAll dC dI cI cC cZ cB cJ A a_tx a_tx_signs a_mk a_mk_at a_mk_rows tx_length tx_stop tx_signs post) (by decide) rfl (Nat.le_of_ble_eq_true rfl) ?_
  intro p e s m args below meth c A H locs ls C0 hP hD hS hl
  have hl : lv_has ls 3 [(0, .ref a_mk), (1, .ref a_tx)] := hl
  obtain ⟨hx, hb, hr, hml, hown, hts, hlocks, hA, hK, hN, tL, tM, hZL, hTL, hZM, hTM, hZX⟩ := id C0
  have hp := hw
  unfold wp_X1_readAll at hp
  refine lv_aload_n hx hb eX1_readAll_0.1 rfl (lv_at hl 0 rfl) ?_
  refine lv_iconst (v := 0) hx hb eX1_readAll_0.2.1 (by decide) ?_
  refine va_put (D := (dC, dI)) (ci := 1) (v := .int 0) (ty := .int) (C := RX1) (T := TX1) (N := 3) hx hb hts i_X1 tyX1 tyX1_ok nmX1 hown hK hP hD hS 2 rfl rfl 2 (Nat.le_of_ble_eq_true rfl) (hts _ q_592) (fun _ h9 => h9) rfl (tyX1_ok 2 (Nat.le_of_ble_eq_true rfl)) rfl rfl (Nat.le_of_ble_eq_true rfl) eX1_readAll_0.2.2.1 (fun H locs hP hD hS => ?_)
  have hP : va_P (dC, dI) classes (wd_X1_readAll cI cC cZ cB cJ a_tx a_tx_signs a_mk a_mk_at a_mk_rows tx_length tx_place tx_stop tx_signs 0 mk_at) H := hP
  have hD : va_D A (wd_X1_readAll cI cC cZ cB cJ a_tx a_tx_signs a_mk a_mk_at a_mk_rows tx_length tx_place tx_stop tx_signs 0 mk_at) := hD
  obtain ⟨n9, hp⟩ := hp
  exact kb_X1_readAll_5 C0 n9 tx_place 0 mk_at H locs ls hp hP hD hS (lv_sub hl [0, 1] rfl)
abbrev wd_X1_countRows (cI cC cZ cB cJ : ClassId) (a_tr : Nat) (a_tr_x : Nat) (a_tr_height : Nat) (a_tr_worth : Nat) (a_tr_ripe : Nat) (a_tr_foot : Nat) (a_tr_fork : Nat) (a_tr_settings : Nat) (a_mk : Nat) (a_mk_at : Nat) (a_mk_rows : Nat) (tr_fruits : Int32) (tr_standings : Int32) (tr_comingFruits : Int32) (tr_comingStandings : Int32) (tr_foot : Nat → Int32) (mk_many : Int32) (mk_at : Nat → Int32) (mk_rows : Nat → Int32) : va_W := [(a_tr, .inr (3, [.ref a_tr_x, .ref a_tr_height, .ref a_tr_worth, .ref a_tr_ripe, .ref a_tr_foot, .ref a_tr_fork, .ref a_tr_settings, .int tr_fruits, .int tr_standings, .int tr_comingFruits, .int tr_comingStandings])), (a_tr_foot, .inl (cI, 8, .inl tr_foot)), (a_mk, .inr (1, [.ref a_mk_at, .ref a_mk_rows, .int mk_many])), (a_mk_at, .inl (cI, 6, .inl mk_at)), (a_mk_rows, .inl (cI, 48, .inl mk_rows))]
abbrev q_X1_countRows (dC : Nat → ClassId) (dI : Nat → Nat → Nat) (cI cC cZ cB cJ : ClassId) (A : Nat → Prop) (a_tr : Nat) (a_tr_x : Nat) (a_tr_height : Nat) (a_tr_worth : Nat) (a_tr_ripe : Nat) (a_tr_foot : Nat) (a_tr_fork : Nat) (a_tr_settings : Nat) (a_mk : Nat) (a_mk_at : Nat) (a_mk_rows : Nat) (tr_fruits : Int32) (tr_standings : Int32) (tr_comingFruits : Int32) (tr_comingStandings : Int32) (tr_foot : Nat → Int32) (mk_many : Int32) (mk_at : Nat → Int32) (post : Int32 → (Nat → Int32) → Prop) : Array Value → State → Outcome → State → Prop := va_Qi (fun (r : Int32) (u : (Nat → Int32)) => post r u) (fun u t => gB (dC, dI) (tyl cI cC cZ cB cJ) A (wd_X1_countRows cI cC cZ cB cJ a_tr a_tr_x a_tr_height a_tr_worth a_tr_ripe a_tr_foot a_tr_fork a_tr_settings a_mk a_mk_at a_mk_rows tr_fruits tr_standings tr_comingFruits tr_comingStandings tr_foot mk_many mk_at u) t) A
abbrev rm_X1_countRows : Room := { frames := 2, cells := 0, slots := 0, locals := 45 }
section S_X1_countRows
variable {p : Program} {l : Launch} {e : Env} {s : State} {m : MethodId} {args : Array Value} {below : List Frame} {meth : Method} {c : Code} {dC : Nat → ClassId} {dI : Nat → Nat → Nat} {cI cC cZ cB cJ : ClassId} {A : Nat → Prop} {a_tr : Nat} {a_tr_x : Nat} {a_tr_height : Nat} {a_tr_worth : Nat} {a_tr_ripe : Nat} {a_tr_foot : Nat} {a_tr_fork : Nat} {a_tr_settings : Nat} {a_mk : Nat} {a_mk_at : Nat} {a_mk_rows : Nat} {tr_fruits : Int32} {tr_standings : Int32} {tr_comingFruits : Int32} {tr_comingStandings : Int32} {tr_foot : Nat → Int32} {mk_many : Int32} {mk_at : Nat → Int32} {post : Int32 → (Nat → Int32) → Prop}
def ws_X1_countRows_92 (post : Int32 → (Nat → Int32) → Prop) (K10 : Int32 → Int32 → Int32 → (Nat → Int32) → Prop) (K37 : Int32 → Int32 → Int32 → Int32 → Int32 → Int32 → (Nat → Int32) → Prop) (tr_standings : Int32) (tr_foot : Nat → Int32) (mk_many : Int32) (mk_at : Nat → Int32) (x2 : Int32) (x3 : Int32) (x4 : Int32) (x5 : Int32) (x6 : Int32) (x7 : Int32) (x8 : Int32) (mk_rows : Nat → Int32) : Prop := ∀ v_6 : Int32, v_6 = x4 * 8 → ∀ v_7 : Int32, v_7 = v_6 + x7 → vp_in v_7 48 ∧ (∀ v_8 : Int32, v_8 = x3 + x8 → ∀ v_9 : Int32, v_9 = x7 + 1 → K37 x2 v_8 x4 x5 x6 v_9 (upd mk_rows v_7.toNatClampNeg x8))
set_option maxHeartbeats 4000000 in
set_option maxRecDepth 100000 in
theorem ks_X1_countRows_92 (C0 : gc cX1_countRows (some .int) 9 RX1 (dC, dI) (tyl cI cC cZ cB cJ) A p s m args meth c) {K10 : Int32 → Int32 → Int32 → (Nat → Int32) → Prop} {K37 : Int32 → Int32 → Int32 → Int32 → Int32 → Int32 → (Nat → Int32) → Prop} (hK10 : ∀ (x2 : Int32) (x3 : Int32) (x4 : Int32) (mk_rows : Nat → Int32) (H : Heap) (locs : List Loc) (ls : Array Slot), K10 x2 x3 x4 mk_rows → va_P (dC, dI) classes (wd_X1_countRows cI cC cZ cB cJ a_tr a_tr_x a_tr_height a_tr_worth a_tr_ripe a_tr_foot a_tr_fork a_tr_settings a_mk a_mk_at a_mk_rows tr_fruits tr_standings tr_comingFruits tr_comingStandings tr_foot mk_many mk_at mk_rows) H → va_D A (wd_X1_countRows cI cC cZ cB cJ a_tr a_tr_x a_tr_height a_tr_worth a_tr_ripe a_tr_foot a_tr_fork a_tr_settings a_mk a_mk_at a_mk_rows tr_fruits tr_standings tr_comingFruits tr_comingStandings tr_foot mk_many mk_at mk_rows) → va_S A s.heap H locs → lv_has ls 9 [(0, .ref a_mk), (1, .ref a_tr), (2, .int x2), (3, .int x3), (4, .int x4)] → W p l e rm_X1_countRows s m args below meth c H locs 0 0 (MQ below (q_X1_countRows dC dI cI cC cZ cB cJ A a_tr a_tr_x a_tr_height a_tr_worth a_tr_ripe a_tr_foot a_tr_fork a_tr_settings a_mk a_mk_at a_mk_rows tr_fruits tr_standings tr_comingFruits tr_comingStandings tr_foot mk_many mk_at post) args s 0 0 A) (F0 m 10 ls [])) (hK37 : ∀ (x2 : Int32) (x3 : Int32) (x4 : Int32) (x5 : Int32) (x6 : Int32) (x7 : Int32) (mk_rows : Nat → Int32) (H : Heap) (locs : List Loc) (ls : Array Slot), K37 x2 x3 x4 x5 x6 x7 mk_rows → va_P (dC, dI) classes (wd_X1_countRows cI cC cZ cB cJ a_tr a_tr_x a_tr_height a_tr_worth a_tr_ripe a_tr_foot a_tr_fork a_tr_settings a_mk a_mk_at a_mk_rows tr_fruits tr_standings tr_comingFruits tr_comingStandings tr_foot mk_many mk_at mk_rows) H → va_D A (wd_X1_countRows cI cC cZ cB cJ a_tr a_tr_x a_tr_height a_tr_worth a_tr_ripe a_tr_foot a_tr_fork a_tr_settings a_mk a_mk_at a_mk_rows tr_fruits tr_standings tr_comingFruits tr_comingStandings tr_foot mk_many mk_at mk_rows) → va_S A s.heap H locs → lv_has ls 9 [(0, .ref a_mk), (1, .ref a_tr), (2, .int x2), (3, .int x3), (4, .int x4), (5, .int x5), (6, .int x6), (7, .int x7)] → W p l e rm_X1_countRows s m args below meth c H locs 0 0 (MQ below (q_X1_countRows dC dI cI cC cZ cB cJ A a_tr a_tr_x a_tr_height a_tr_worth a_tr_ripe a_tr_foot a_tr_fork a_tr_settings a_mk a_mk_at a_mk_rows tr_fruits tr_standings tr_comingFruits tr_comingStandings tr_foot mk_many mk_at post) args s 0 0 A) (F0 m 37 ls [])) : ∀ (x2 : Int32) (x3 : Int32) (x4 : Int32) (x5 : Int32) (x6 : Int32) (x7 : Int32) (x8 : Int32) (mk_rows : Nat → Int32) (H : Heap) (locs : List Loc) (ls : Array Slot), (ws_X1_countRows_92 post K10 K37 tr_standings tr_foot mk_many mk_at) x2 x3 x4 x5 x6 x7 x8 mk_rows → va_P (dC, dI) classes (wd_X1_countRows cI cC cZ cB cJ a_tr a_tr_x a_tr_height a_tr_worth a_tr_ripe a_tr_foot a_tr_fork a_tr_settings a_mk a_mk_at a_mk_rows tr_fruits tr_standings tr_comingFruits tr_comingStandings tr_foot mk_many mk_at mk_rows) H → va_D A (wd_X1_countRows cI cC cZ cB cJ a_tr a_tr_x a_tr_height a_tr_worth a_tr_ripe a_tr_foot a_tr_fork a_tr_settings a_mk a_mk_at a_mk_rows tr_fruits tr_standings tr_comingFruits tr_comingStandings tr_foot mk_many mk_at mk_rows) → va_S A s.heap H locs → lv_has ls 9 [(0, .ref a_mk), (1, .ref a_tr), (2, .int x2), (3, .int x3), (4, .int x4), (5, .int x5), (6, .int x6), (7, .int x7), (8, .int x8)] → W p l e rm_X1_countRows s m args below meth c H locs 0 0 (MQ below (q_X1_countRows dC dI cI cC cZ cB cJ A a_tr a_tr_x a_tr_height a_tr_worth a_tr_ripe a_tr_foot a_tr_fork a_tr_settings a_mk a_mk_at a_mk_rows tr_fruits tr_standings tr_comingFruits tr_comingStandings tr_foot mk_many mk_at post) args s 0 0 A) (F0 m 92 ls []) := by
  obtain ⟨hx, hb, hr, hml, hown, hts, hlocks, hA, hK, hN, tL, tM, hZL, hTL, hZM, hTM, hZX⟩ := id C0
  intro x2 x3 x4 x5 x6 x7 x8 mk_rows H locs ls hp hP hD hS hl
  unfold ws_X1_countRows_92 at hp
  refine lv_aload_n hx hb eX1_countRows_82.2.2.2.2.2.2.2.1 rfl (lv_at hl 0 rfl) ?_
  refine va_get (D := (dC, dI)) (ci := 1) (v := .ref a_mk_rows) (C := RX1) (T := TX1) (N := 3) hx hb hts i_X1 hown hK hP 2 rfl rfl 1 (Nat.le_of_ble_eq_true rfl) (hts _ q_598) (fun _ h9 => h9) rfl eX1_countRows_82.2.2.2.2.2.2.2.2.1 ?_
  refine lv_iload hx hb eX1_countRows_82.2.2.2.2.2.2.2.2.2.1 (lv_at hl 4 rfl) ?_
  refine lv_bipush (v := 8) hx hb eX1_countRows_82.2.2.2.2.2.2.2.2.2.2.1 (by decide) ?_
  refine lv_imul hx hb eX1_countRows_82.2.2.2.2.2.2.2.2.2.2.2.1 ?_
  refine lv_topi (fun v_6 ev_6 => ?_)
  have hp := hp v_6 ev_6
  refine lv_iload hx hb eX1_countRows_82.2.2.2.2.2.2.2.2.2.2.2.2.1 (lv_at hl 7 rfl) ?_
  refine lv_iadd hx hb eX1_countRows_82.2.2.2.2.2.2.2.2.2.2.2.2.2.1 ?_
  refine lv_topi (fun v_7 ev_7 => ?_)
  have hp := hp v_7 ev_7
  refine lv_iload hx hb eX1_countRows_82.2.2.2.2.2.2.2.2.2.2.2.2.2.2.1 (lv_at hl 8 rfl) ?_
  have hin := hp.1
  have hp := hp.2
  refine va_iast hx hb hK hP hD hS 4 0 rfl rfl hin eX1_countRows_82.2.2.2.2.2.2.2.2.2.2.2.2.2.2.2 (fun H locs hP hD hS => ?_)
  have hP : va_P (dC, dI) classes (wd_X1_countRows cI cC cZ cB cJ a_tr a_tr_x a_tr_height a_tr_worth a_tr_ripe a_tr_foot a_tr_fork a_tr_settings a_mk a_mk_at a_mk_rows tr_fruits tr_standings tr_comingFruits tr_comingStandings tr_foot mk_many mk_at (upd mk_rows v_7.toNatClampNeg x8)) H := hP
  have hD : va_D A (wd_X1_countRows cI cC cZ cB cJ a_tr a_tr_x a_tr_height a_tr_worth a_tr_ripe a_tr_foot a_tr_fork a_tr_settings a_mk a_mk_at a_mk_rows tr_fruits tr_standings tr_comingFruits tr_comingStandings tr_foot mk_many mk_at (upd mk_rows v_7.toNatClampNeg x8)) := hD
  refine lv_iload_n hx hb eX1_countRows_107.1 rfl (lv_at hl 3 rfl) ?_
  refine lv_iload hx hb eX1_countRows_107.2.1 (lv_at hl 8 rfl) ?_
  refine lv_iadd hx hb eX1_countRows_107.2.2.1 ?_
  refine lv_topi (fun v_8 ev_8 => ?_)
  have hp := hp v_8 ev_8
  refine lv_istore_n (lv' := [(3, .int v_8), (0, .ref a_mk), (1, .ref a_tr), (2, .int x2), (4, .int x4), (5, .int x5), (6, .int x6), (7, .int x7), (8, .int x8)]) hx hb eX1_countRows_107.2.2.2.1 rfl hl (by decide) rfl (fun ls hl => ?_)
  obtain ⟨v_9, ev_9⟩ : ∃ y : Int32, y = x7 + 1 := ⟨_, rfl⟩
  refine lv_iinc (v := v_9) (lv' := [(7, .int v_9), (3, .int v_8), (0, .ref a_mk), (1, .ref a_tr), (2, .int x2), (4, .int x4), (5, .int x5), (6, .int x6), (8, .int x8)]) hx hb eX1_countRows_107.2.2.2.2.1 hl (k := 7) rfl (by rw [ev_9]; rfl) (by decide) rfl (fun ls hl => ?_)
  have hp := hp v_9 ev_9
  refine lv_goto (tgt := 37) hx hb eX1_countRows_107.2.2.2.2.2.1 (by decide) ?_
  exact hK37 x2 v_8 x4 x5 x6 v_9 (upd mk_rows v_7.toNatClampNeg x8) H locs ls hp hP hD hS (lv_sub hl [2, 3, 4, 1, 5, 6, 7, 0] rfl)
def ws_X1_countRows_90 (post : Int32 → (Nat → Int32) → Prop) (K10 : Int32 → Int32 → Int32 → (Nat → Int32) → Prop) (K37 : Int32 → Int32 → Int32 → Int32 → Int32 → Int32 → (Nat → Int32) → Prop) (tr_standings : Int32) (tr_foot : Nat → Int32) (mk_many : Int32) (mk_at : Nat → Int32) (x2 : Int32) (x3 : Int32) (x4 : Int32) (x5 : Int32) (x6 : Int32) (x7 : Int32) (k0 : Int32) (mk_rows : Nat → Int32) : Prop := ws_X1_countRows_92 post K10 K37 tr_standings tr_foot mk_many mk_at x2 x3 x4 x5 x6 x7 k0 mk_rows
set_option maxHeartbeats 4000000 in
set_option maxRecDepth 100000 in
theorem ks_X1_countRows_90 (C0 : gc cX1_countRows (some .int) 9 RX1 (dC, dI) (tyl cI cC cZ cB cJ) A p s m args meth c) {K10 : Int32 → Int32 → Int32 → (Nat → Int32) → Prop} {K37 : Int32 → Int32 → Int32 → Int32 → Int32 → Int32 → (Nat → Int32) → Prop} (hK10 : ∀ (x2 : Int32) (x3 : Int32) (x4 : Int32) (mk_rows : Nat → Int32) (H : Heap) (locs : List Loc) (ls : Array Slot), K10 x2 x3 x4 mk_rows → va_P (dC, dI) classes (wd_X1_countRows cI cC cZ cB cJ a_tr a_tr_x a_tr_height a_tr_worth a_tr_ripe a_tr_foot a_tr_fork a_tr_settings a_mk a_mk_at a_mk_rows tr_fruits tr_standings tr_comingFruits tr_comingStandings tr_foot mk_many mk_at mk_rows) H → va_D A (wd_X1_countRows cI cC cZ cB cJ a_tr a_tr_x a_tr_height a_tr_worth a_tr_ripe a_tr_foot a_tr_fork a_tr_settings a_mk a_mk_at a_mk_rows tr_fruits tr_standings tr_comingFruits tr_comingStandings tr_foot mk_many mk_at mk_rows) → va_S A s.heap H locs → lv_has ls 9 [(0, .ref a_mk), (1, .ref a_tr), (2, .int x2), (3, .int x3), (4, .int x4)] → W p l e rm_X1_countRows s m args below meth c H locs 0 0 (MQ below (q_X1_countRows dC dI cI cC cZ cB cJ A a_tr a_tr_x a_tr_height a_tr_worth a_tr_ripe a_tr_foot a_tr_fork a_tr_settings a_mk a_mk_at a_mk_rows tr_fruits tr_standings tr_comingFruits tr_comingStandings tr_foot mk_many mk_at post) args s 0 0 A) (F0 m 10 ls [])) (hK37 : ∀ (x2 : Int32) (x3 : Int32) (x4 : Int32) (x5 : Int32) (x6 : Int32) (x7 : Int32) (mk_rows : Nat → Int32) (H : Heap) (locs : List Loc) (ls : Array Slot), K37 x2 x3 x4 x5 x6 x7 mk_rows → va_P (dC, dI) classes (wd_X1_countRows cI cC cZ cB cJ a_tr a_tr_x a_tr_height a_tr_worth a_tr_ripe a_tr_foot a_tr_fork a_tr_settings a_mk a_mk_at a_mk_rows tr_fruits tr_standings tr_comingFruits tr_comingStandings tr_foot mk_many mk_at mk_rows) H → va_D A (wd_X1_countRows cI cC cZ cB cJ a_tr a_tr_x a_tr_height a_tr_worth a_tr_ripe a_tr_foot a_tr_fork a_tr_settings a_mk a_mk_at a_mk_rows tr_fruits tr_standings tr_comingFruits tr_comingStandings tr_foot mk_many mk_at mk_rows) → va_S A s.heap H locs → lv_has ls 9 [(0, .ref a_mk), (1, .ref a_tr), (2, .int x2), (3, .int x3), (4, .int x4), (5, .int x5), (6, .int x6), (7, .int x7)] → W p l e rm_X1_countRows s m args below meth c H locs 0 0 (MQ below (q_X1_countRows dC dI cI cC cZ cB cJ A a_tr a_tr_x a_tr_height a_tr_worth a_tr_ripe a_tr_foot a_tr_fork a_tr_settings a_mk a_mk_at a_mk_rows tr_fruits tr_standings tr_comingFruits tr_comingStandings tr_foot mk_many mk_at post) args s 0 0 A) (F0 m 37 ls [])) : ∀ (x2 : Int32) (x3 : Int32) (x4 : Int32) (x5 : Int32) (x6 : Int32) (x7 : Int32) (k0 : Int32) (mk_rows : Nat → Int32) (H : Heap) (locs : List Loc) (ls : Array Slot), (ws_X1_countRows_90 post K10 K37 tr_standings tr_foot mk_many mk_at) x2 x3 x4 x5 x6 x7 k0 mk_rows → va_P (dC, dI) classes (wd_X1_countRows cI cC cZ cB cJ a_tr a_tr_x a_tr_height a_tr_worth a_tr_ripe a_tr_foot a_tr_fork a_tr_settings a_mk a_mk_at a_mk_rows tr_fruits tr_standings tr_comingFruits tr_comingStandings tr_foot mk_many mk_at mk_rows) H → va_D A (wd_X1_countRows cI cC cZ cB cJ a_tr a_tr_x a_tr_height a_tr_worth a_tr_ripe a_tr_foot a_tr_fork a_tr_settings a_mk a_mk_at a_mk_rows tr_fruits tr_standings tr_comingFruits tr_comingStandings tr_foot mk_many mk_at mk_rows) → va_S A s.heap H locs → lv_has ls 9 [(0, .ref a_mk), (1, .ref a_tr), (2, .int x2), (3, .int x3), (4, .int x4), (5, .int x5), (6, .int x6), (7, .int x7)] → W p l e rm_X1_countRows s m args below meth c H locs 0 0 (MQ below (q_X1_countRows dC dI cI cC cZ cB cJ A a_tr a_tr_x a_tr_height a_tr_worth a_tr_ripe a_tr_foot a_tr_fork a_tr_settings a_mk a_mk_at a_mk_rows tr_fruits tr_standings tr_comingFruits tr_comingStandings tr_foot mk_many mk_at post) args s 0 0 A) (F0 m 90 ls [.int k0]) := by
  obtain ⟨hx, hb, hr, hml, hown, hts, hlocks, hA, hK, hN, tL, tM, hZL, hTL, hZM, hTM, hZX⟩ := id C0
  intro x2 x3 x4 x5 x6 x7 k0 mk_rows H locs ls hp hP hD hS hl
  unfold ws_X1_countRows_90 at hp
  refine lv_istore (lv' := [(8, .int k0), (0, .ref a_mk), (1, .ref a_tr), (2, .int x2), (3, .int x3), (4, .int x4), (5, .int x5), (6, .int x6), (7, .int x7)]) hx hb eX1_countRows_82.2.2.2.2.2.2.1 hl (by decide) rfl (fun ls hl => ?_)
  exact ks_X1_countRows_92 C0 hK10 hK37 x2 x3 x4 x5 x6 x7 k0 mk_rows H locs ls hp hP hD hS (lv_sub hl [1, 2, 3, 4, 5, 6, 7, 8, 0] rfl)
def ws_X1_countRows_37 (post : Int32 → (Nat → Int32) → Prop) (K10 : Int32 → Int32 → Int32 → (Nat → Int32) → Prop) (next : Int32 → Int32 → Int32 → Int32 → Int32 → Int32 → (Nat → Int32) → Prop) (tr_standings : Int32) (tr_foot : Nat → Int32) (mk_many : Int32) (mk_at : Nat → Int32) (x2 : Int32) (x3 : Int32) (x4 : Int32) (x5 : Int32) (x6 : Int32) (x7 : Int32) (mk_rows : Nat → Int32) : Prop := (8 ≤ x7 → ∀ v_4 : Int32, v_4 = x4 + (-1) → K10 x2 x3 v_4 mk_rows) ∧ (¬ 8 ≤ x7 → ∀ v_5 : Int32, v_5 = x5 >>> (x7 &&& 31) → ((v_5 &&& 1) = 0 → ws_X1_countRows_92 post K10 next tr_standings tr_foot mk_many mk_at x2 x3 x4 x5 x6 x7 0 mk_rows) ∧ (¬ (v_5 &&& 1) = 0 → (¬ x4 = (mk_many - 1) → ∀ v_10 : Int32, v_10 = x4 + 1 → ∀ v_11 : Int32, v_11 = v_10 * 8 → ∀ v_12 : Int32, v_12 = v_11 + x7 → vp_in v_12 48 ∧ (∀ v_13 : Int32, v_13 = x6 - (mk_rows v_12.toNatClampNeg) → ws_X1_countRows_90 post K10 next tr_standings tr_foot mk_many mk_at x2 x3 x4 x5 x6 x7 v_13 mk_rows)) ∧ (x4 = (mk_many - 1) → ws_X1_countRows_90 post K10 next tr_standings tr_foot mk_many mk_at x2 x3 x4 x5 x6 x7 1 mk_rows)))
noncomputable def wb_X1_countRows_37 (post : Int32 → (Nat → Int32) → Prop) (K10 : Int32 → Int32 → Int32 → (Nat → Int32) → Prop) (tr_standings : Int32) (tr_foot : Nat → Int32) (mk_many : Int32) (mk_at : Nat → Int32) : Nat → Int32 → Int32 → Int32 → Int32 → Int32 → Int32 → (Nat → Int32) → Prop := fun n => Nat.rec (motive := fun _ => Int32 → Int32 → Int32 → Int32 → Int32 → Int32 → (Nat → Int32) → Prop) (fun _ _ _ _ _ _ _ => False) (fun _ ih => ws_X1_countRows_37 post K10 ih tr_standings tr_foot mk_many mk_at) n
set_option maxHeartbeats 4000000 in
set_option maxRecDepth 100000 in
theorem ks_X1_countRows_37 (C0 : gc cX1_countRows (some .int) 9 RX1 (dC, dI) (tyl cI cC cZ cB cJ) A p s m args meth c) {K10 : Int32 → Int32 → Int32 → (Nat → Int32) → Prop} {next : Int32 → Int32 → Int32 → Int32 → Int32 → Int32 → (Nat → Int32) → Prop} (hK10 : ∀ (x2 : Int32) (x3 : Int32) (x4 : Int32) (mk_rows : Nat → Int32) (H : Heap) (locs : List Loc) (ls : Array Slot), K10 x2 x3 x4 mk_rows → va_P (dC, dI) classes (wd_X1_countRows cI cC cZ cB cJ a_tr a_tr_x a_tr_height a_tr_worth a_tr_ripe a_tr_foot a_tr_fork a_tr_settings a_mk a_mk_at a_mk_rows tr_fruits tr_standings tr_comingFruits tr_comingStandings tr_foot mk_many mk_at mk_rows) H → va_D A (wd_X1_countRows cI cC cZ cB cJ a_tr a_tr_x a_tr_height a_tr_worth a_tr_ripe a_tr_foot a_tr_fork a_tr_settings a_mk a_mk_at a_mk_rows tr_fruits tr_standings tr_comingFruits tr_comingStandings tr_foot mk_many mk_at mk_rows) → va_S A s.heap H locs → lv_has ls 9 [(0, .ref a_mk), (1, .ref a_tr), (2, .int x2), (3, .int x3), (4, .int x4)] → W p l e rm_X1_countRows s m args below meth c H locs 0 0 (MQ below (q_X1_countRows dC dI cI cC cZ cB cJ A a_tr a_tr_x a_tr_height a_tr_worth a_tr_ripe a_tr_foot a_tr_fork a_tr_settings a_mk a_mk_at a_mk_rows tr_fruits tr_standings tr_comingFruits tr_comingStandings tr_foot mk_many mk_at post) args s 0 0 A) (F0 m 10 ls [])) (hKn : ∀ (x2 : Int32) (x3 : Int32) (x4 : Int32) (x5 : Int32) (x6 : Int32) (x7 : Int32) (mk_rows : Nat → Int32) (H : Heap) (locs : List Loc) (ls : Array Slot), next x2 x3 x4 x5 x6 x7 mk_rows → va_P (dC, dI) classes (wd_X1_countRows cI cC cZ cB cJ a_tr a_tr_x a_tr_height a_tr_worth a_tr_ripe a_tr_foot a_tr_fork a_tr_settings a_mk a_mk_at a_mk_rows tr_fruits tr_standings tr_comingFruits tr_comingStandings tr_foot mk_many mk_at mk_rows) H → va_D A (wd_X1_countRows cI cC cZ cB cJ a_tr a_tr_x a_tr_height a_tr_worth a_tr_ripe a_tr_foot a_tr_fork a_tr_settings a_mk a_mk_at a_mk_rows tr_fruits tr_standings tr_comingFruits tr_comingStandings tr_foot mk_many mk_at mk_rows) → va_S A s.heap H locs → lv_has ls 9 [(0, .ref a_mk), (1, .ref a_tr), (2, .int x2), (3, .int x3), (4, .int x4), (5, .int x5), (6, .int x6), (7, .int x7)] → W p l e rm_X1_countRows s m args below meth c H locs 0 0 (MQ below (q_X1_countRows dC dI cI cC cZ cB cJ A a_tr a_tr_x a_tr_height a_tr_worth a_tr_ripe a_tr_foot a_tr_fork a_tr_settings a_mk a_mk_at a_mk_rows tr_fruits tr_standings tr_comingFruits tr_comingStandings tr_foot mk_many mk_at post) args s 0 0 A) (F0 m 37 ls [])) : ∀ (x2 : Int32) (x3 : Int32) (x4 : Int32) (x5 : Int32) (x6 : Int32) (x7 : Int32) (mk_rows : Nat → Int32) (H : Heap) (locs : List Loc) (ls : Array Slot), (ws_X1_countRows_37 post K10 next tr_standings tr_foot mk_many mk_at) x2 x3 x4 x5 x6 x7 mk_rows → va_P (dC, dI) classes (wd_X1_countRows cI cC cZ cB cJ a_tr a_tr_x a_tr_height a_tr_worth a_tr_ripe a_tr_foot a_tr_fork a_tr_settings a_mk a_mk_at a_mk_rows tr_fruits tr_standings tr_comingFruits tr_comingStandings tr_foot mk_many mk_at mk_rows) H → va_D A (wd_X1_countRows cI cC cZ cB cJ a_tr a_tr_x a_tr_height a_tr_worth a_tr_ripe a_tr_foot a_tr_fork a_tr_settings a_mk a_mk_at a_mk_rows tr_fruits tr_standings tr_comingFruits tr_comingStandings tr_foot mk_many mk_at mk_rows) → va_S A s.heap H locs → lv_has ls 9 [(0, .ref a_mk), (1, .ref a_tr), (2, .int x2), (3, .int x3), (4, .int x4), (5, .int x5), (6, .int x6), (7, .int x7)] → W p l e rm_X1_countRows s m args below meth c H locs 0 0 (MQ below (q_X1_countRows dC dI cI cC cZ cB cJ A a_tr a_tr_x a_tr_height a_tr_worth a_tr_ripe a_tr_foot a_tr_fork a_tr_settings a_mk a_mk_at a_mk_rows tr_fruits tr_standings tr_comingFruits tr_comingStandings tr_foot mk_many mk_at post) args s 0 0 A) (F0 m 37 ls []) := by
  obtain ⟨hx, hb, hr, hml, hown, hts, hlocks, hA, hK, hN, tL, tM, hZL, hTL, hZM, hTM, hZX⟩ := id C0
  intro x2 x3 x4 x5 x6 x7 mk_rows H locs ls hp hP hD hS hl
  unfold ws_X1_countRows_37 at hp
  refine lv_iload hx hb eX1_countRows_27.2.2.2.2.2.2.2.1 (lv_at hl 7 rfl) ?_
  refine lv_bipush (v := 8) hx hb eX1_countRows_27.2.2.2.2.2.2.2.2.1 (by decide) ?_
  refine lv_icmp_ge (tgt := 118) hx hb eX1_countRows_27.2.2.2.2.2.2.2.2.2.1 (by decide) (fun hc => ?_) (fun hc => ?_)
  · have hp := hp.1 hc
    obtain ⟨v_4, ev_4⟩ : ∃ y : Int32, y = x4 + (-1) := ⟨_, rfl⟩
    refine lv_iinc (v := v_4) (lv' := [(4, .int v_4), (0, .ref a_mk), (1, .ref a_tr), (2, .int x2), (3, .int x3), (5, .int x5), (6, .int x6), (7, .int x7)]) hx hb eX1_countRows_107.2.2.2.2.2.2.1 hl (k := 4) rfl (by rw [ev_4]; rfl) (by decide) rfl (fun ls hl => ?_)
    have hp := hp v_4 ev_4
    refine lv_goto (tgt := 10) hx hb eX1_countRows_107.2.2.2.2.2.2.2.1 (by decide) ?_
    exact hK10 x2 x3 v_4 mk_rows H locs ls hp hP hD hS (lv_sub hl [1, 2, 3, 4, 0] rfl)
  · have hp := hp.2 hc
    refine lv_iconst (v := 0) hx hb eX1_countRows_27.2.2.2.2.2.2.2.2.2.2.1 (by decide) ?_
    refine lv_istore (lv' := [(8, .int 0), (0, .ref a_mk), (1, .ref a_tr), (2, .int x2), (3, .int x3), (4, .int x4), (5, .int x5), (6, .int x6), (7, .int x7)]) hx hb eX1_countRows_27.2.2.2.2.2.2.2.2.2.2.2.1 hl (by decide) rfl (fun ls hl => ?_)
    refine lv_iload hx hb eX1_countRows_27.2.2.2.2.2.2.2.2.2.2.2.2.1 (lv_at hl 6 rfl) ?_
    refine lv_iload hx hb eX1_countRows_27.2.2.2.2.2.2.2.2.2.2.2.2.2.1 (lv_at hl 8 rfl) ?_
    refine lv_ishr hx hb eX1_countRows_27.2.2.2.2.2.2.2.2.2.2.2.2.2.2.1 ?_
    refine lv_topi (fun v_5 ev_5 => ?_)
    have hp := hp v_5 ev_5
    refine lv_iconst (v := 1) hx hb eX1_countRows_27.2.2.2.2.2.2.2.2.2.2.2.2.2.2.2 (by decide) ?_
    refine lv_iand hx hb eX1_countRows_53.1 ?_
    refine lv_if_eq (tgt := 92) hx hb eX1_countRows_53.2.1 (by decide) (fun hc => ?_) (fun hc => ?_)
    · have hp := hp.1 hc
      exact ks_X1_countRows_92 C0 hK10 hKn x2 x3 x4 x5 x6 x7 0 mk_rows H locs ls hp hP hD hS (lv_sub hl [1, 2, 3, 4, 5, 6, 7, 8, 0] rfl)
    · have hp := hp.2 hc
      refine lv_iload hx hb eX1_countRows_53.2.2.1 (lv_at hl 5 rfl) ?_
      refine lv_aload_n hx hb eX1_countRows_53.2.2.2.1 rfl (lv_at hl 1 rfl) ?_
      refine va_get (D := (dC, dI)) (ci := 1) (v := .int mk_many) (C := RX1) (T := TX1) (N := 3) hx hb hts i_X1 hown hK hP 2 rfl rfl 2 (Nat.le_of_ble_eq_true rfl) (hts _ q_592) (fun _ h9 => h9) rfl eX1_countRows_53.2.2.2.2.1 ?_
      refine lv_iconst (v := 1) hx hb eX1_countRows_53.2.2.2.2.2.1 (by decide) ?_
      refine lv_isub hx hb eX1_countRows_53.2.2.2.2.2.2.1 ?_
      refine lv_icmp_ne (tgt := 72) hx hb eX1_countRows_53.2.2.2.2.2.2.2.1 (by decide) (fun hc => ?_) (fun hc => ?_)
      · have hp := hp.1 hc
        refine lv_iload hx hb eX1_countRows_53.2.2.2.2.2.2.2.2.2.2.1 (lv_at hl 7 rfl) ?_
        refine lv_aload_n hx hb eX1_countRows_53.2.2.2.2.2.2.2.2.2.2.2.1 rfl (lv_at hl 1 rfl) ?_
        refine va_get (D := (dC, dI)) (ci := 1) (v := .ref a_mk_rows) (C := RX1) (T := TX1) (N := 3) hx hb hts i_X1 hown hK hP 2 rfl rfl 1 (Nat.le_of_ble_eq_true rfl) (hts _ q_598) (fun _ h9 => h9) rfl eX1_countRows_53.2.2.2.2.2.2.2.2.2.2.2.2.1 ?_
        refine lv_iload hx hb eX1_countRows_53.2.2.2.2.2.2.2.2.2.2.2.2.2.1 (lv_at hl 5 rfl) ?_
        refine lv_iconst (v := 1) hx hb eX1_countRows_53.2.2.2.2.2.2.2.2.2.2.2.2.2.2.1 (by decide) ?_
        refine lv_iadd hx hb eX1_countRows_53.2.2.2.2.2.2.2.2.2.2.2.2.2.2.2 ?_
        refine lv_topi (fun v_10 ev_10 => ?_)
        have hp := hp v_10 ev_10
        refine lv_bipush (v := 8) hx hb eX1_countRows_82.1 (by decide) ?_
        refine lv_imul hx hb eX1_countRows_82.2.1 ?_
        refine lv_topi (fun v_11 ev_11 => ?_)
        have hp := hp v_11 ev_11
        refine lv_iload hx hb eX1_countRows_82.2.2.1 (lv_at hl 8 rfl) ?_
        refine lv_iadd hx hb eX1_countRows_82.2.2.2.1 ?_
        refine lv_topi (fun v_12 ev_12 => ?_)
        have hp := hp v_12 ev_12
        have hin := hp.1
        have hp := hp.2
        refine va_iald hx hb hK hP 4 0 rfl rfl hin eX1_countRows_82.2.2.2.2.1 ?_
        refine lv_isub hx hb eX1_countRows_82.2.2.2.2.2.1 ?_
        refine lv_topi (fun v_13 ev_13 => ?_)
        have hp := hp v_13 ev_13
        exact ks_X1_countRows_90 C0 hK10 hKn x2 x3 x4 x5 x6 x7 v_13 mk_rows H locs ls hp hP hD hS (lv_sub hl [1, 2, 3, 4, 5, 6, 7, 8] rfl)
      · have hp := hp.2 hc
        refine lv_iconst (v := 1) hx hb eX1_countRows_53.2.2.2.2.2.2.2.2.1 (by decide) ?_
        refine lv_goto (tgt := 90) hx hb eX1_countRows_53.2.2.2.2.2.2.2.2.2.1 (by decide) ?_
        exact ks_X1_countRows_90 C0 hK10 hKn x2 x3 x4 x5 x6 x7 1 mk_rows H locs ls hp hP hD hS (lv_sub hl [1, 2, 3, 4, 5, 6, 7, 8] rfl)
set_option maxHeartbeats 4000000 in
set_option maxRecDepth 100000 in
theorem kb_X1_countRows_37 (C0 : gc cX1_countRows (some .int) 9 RX1 (dC, dI) (tyl cI cC cZ cB cJ) A p s m args meth c) {K10 : Int32 → Int32 → Int32 → (Nat → Int32) → Prop} (hK10 : ∀ (x2 : Int32) (x3 : Int32) (x4 : Int32) (mk_rows : Nat → Int32) (H : Heap) (locs : List Loc) (ls : Array Slot), K10 x2 x3 x4 mk_rows → va_P (dC, dI) classes (wd_X1_countRows cI cC cZ cB cJ a_tr a_tr_x a_tr_height a_tr_worth a_tr_ripe a_tr_foot a_tr_fork a_tr_settings a_mk a_mk_at a_mk_rows tr_fruits tr_standings tr_comingFruits tr_comingStandings tr_foot mk_many mk_at mk_rows) H → va_D A (wd_X1_countRows cI cC cZ cB cJ a_tr a_tr_x a_tr_height a_tr_worth a_tr_ripe a_tr_foot a_tr_fork a_tr_settings a_mk a_mk_at a_mk_rows tr_fruits tr_standings tr_comingFruits tr_comingStandings tr_foot mk_many mk_at mk_rows) → va_S A s.heap H locs → lv_has ls 9 [(0, .ref a_mk), (1, .ref a_tr), (2, .int x2), (3, .int x3), (4, .int x4)] → W p l e rm_X1_countRows s m args below meth c H locs 0 0 (MQ below (q_X1_countRows dC dI cI cC cZ cB cJ A a_tr a_tr_x a_tr_height a_tr_worth a_tr_ripe a_tr_foot a_tr_fork a_tr_settings a_mk a_mk_at a_mk_rows tr_fruits tr_standings tr_comingFruits tr_comingStandings tr_foot mk_many mk_at post) args s 0 0 A) (F0 m 10 ls [])) : ∀ (n : Nat), ∀ (x2 : Int32) (x3 : Int32) (x4 : Int32) (x5 : Int32) (x6 : Int32) (x7 : Int32) (mk_rows : Nat → Int32) (H : Heap) (locs : List Loc) (ls : Array Slot), (wb_X1_countRows_37 post K10 tr_standings tr_foot mk_many mk_at n) x2 x3 x4 x5 x6 x7 mk_rows → va_P (dC, dI) classes (wd_X1_countRows cI cC cZ cB cJ a_tr a_tr_x a_tr_height a_tr_worth a_tr_ripe a_tr_foot a_tr_fork a_tr_settings a_mk a_mk_at a_mk_rows tr_fruits tr_standings tr_comingFruits tr_comingStandings tr_foot mk_many mk_at mk_rows) H → va_D A (wd_X1_countRows cI cC cZ cB cJ a_tr a_tr_x a_tr_height a_tr_worth a_tr_ripe a_tr_foot a_tr_fork a_tr_settings a_mk a_mk_at a_mk_rows tr_fruits tr_standings tr_comingFruits tr_comingStandings tr_foot mk_many mk_at mk_rows) → va_S A s.heap H locs → lv_has ls 9 [(0, .ref a_mk), (1, .ref a_tr), (2, .int x2), (3, .int x3), (4, .int x4), (5, .int x5), (6, .int x6), (7, .int x7)] → W p l e rm_X1_countRows s m args below meth c H locs 0 0 (MQ below (q_X1_countRows dC dI cI cC cZ cB cJ A a_tr a_tr_x a_tr_height a_tr_worth a_tr_ripe a_tr_foot a_tr_fork a_tr_settings a_mk a_mk_at a_mk_rows tr_fruits tr_standings tr_comingFruits tr_comingStandings tr_foot mk_many mk_at post) args s 0 0 A) (F0 m 37 ls []) := by
  intro n
  induction n with
  | zero =>
    intro x2 x3 x4 x5 x6 x7 mk_rows H locs ls hp
    exact False.elim hp
  | succ n ih =>
    intro x2 x3 x4 x5 x6 x7 mk_rows H locs ls hp
    exact ks_X1_countRows_37 C0 hK10 ih x2 x3 x4 x5 x6 x7 mk_rows H locs ls hp
def ws_X1_countRows_10 (post : Int32 → (Nat → Int32) → Prop) (next : Int32 → Int32 → Int32 → (Nat → Int32) → Prop) (tr_standings : Int32) (tr_foot : Nat → Int32) (mk_many : Int32) (mk_at : Nat → Int32) (x2 : Int32) (x3 : Int32) (x4 : Int32) (mk_rows : Nat → Int32) : Prop := (x4 < 0 → post x3 mk_rows) ∧ (¬ x4 < 0 → vp_in x4 6 ∧ (∀ v_2 : Int32, v_2 = mk_at x4.toNatClampNeg → wp_X3_standingsAt (fun r_3 => ∃ n : Nat, wb_X1_countRows_37 post next tr_standings tr_foot mk_many mk_at n x2 0 x4 r_3 x3 0 mk_rows) v_2 x2 tr_standings tr_foot))
noncomputable def wb_X1_countRows_10 (post : Int32 → (Nat → Int32) → Prop) (tr_standings : Int32) (tr_foot : Nat → Int32) (mk_many : Int32) (mk_at : Nat → Int32) : Nat → Int32 → Int32 → Int32 → (Nat → Int32) → Prop := fun n => Nat.rec (motive := fun _ => Int32 → Int32 → Int32 → (Nat → Int32) → Prop) (fun _ _ _ _ => False) (fun _ ih => ws_X1_countRows_10 post ih tr_standings tr_foot mk_many mk_at) n
set_option maxHeartbeats 4000000 in
set_option maxRecDepth 100000 in
theorem ks_X1_countRows_10 (C0 : gc cX1_countRows (some .int) 9 RX1 (dC, dI) (tyl cI cC cZ cB cJ) A p s m args meth c) {next : Int32 → Int32 → Int32 → (Nat → Int32) → Prop} (hKn : ∀ (x2 : Int32) (x3 : Int32) (x4 : Int32) (mk_rows : Nat → Int32) (H : Heap) (locs : List Loc) (ls : Array Slot), next x2 x3 x4 mk_rows → va_P (dC, dI) classes (wd_X1_countRows cI cC cZ cB cJ a_tr a_tr_x a_tr_height a_tr_worth a_tr_ripe a_tr_foot a_tr_fork a_tr_settings a_mk a_mk_at a_mk_rows tr_fruits tr_standings tr_comingFruits tr_comingStandings tr_foot mk_many mk_at mk_rows) H → va_D A (wd_X1_countRows cI cC cZ cB cJ a_tr a_tr_x a_tr_height a_tr_worth a_tr_ripe a_tr_foot a_tr_fork a_tr_settings a_mk a_mk_at a_mk_rows tr_fruits tr_standings tr_comingFruits tr_comingStandings tr_foot mk_many mk_at mk_rows) → va_S A s.heap H locs → lv_has ls 9 [(0, .ref a_mk), (1, .ref a_tr), (2, .int x2), (3, .int x3), (4, .int x4)] → W p l e rm_X1_countRows s m args below meth c H locs 0 0 (MQ below (q_X1_countRows dC dI cI cC cZ cB cJ A a_tr a_tr_x a_tr_height a_tr_worth a_tr_ripe a_tr_foot a_tr_fork a_tr_settings a_mk a_mk_at a_mk_rows tr_fruits tr_standings tr_comingFruits tr_comingStandings tr_foot mk_many mk_at post) args s 0 0 A) (F0 m 10 ls [])) : ∀ (x2 : Int32) (x3 : Int32) (x4 : Int32) (mk_rows : Nat → Int32) (H : Heap) (locs : List Loc) (ls : Array Slot), (ws_X1_countRows_10 post next tr_standings tr_foot mk_many mk_at) x2 x3 x4 mk_rows → va_P (dC, dI) classes (wd_X1_countRows cI cC cZ cB cJ a_tr a_tr_x a_tr_height a_tr_worth a_tr_ripe a_tr_foot a_tr_fork a_tr_settings a_mk a_mk_at a_mk_rows tr_fruits tr_standings tr_comingFruits tr_comingStandings tr_foot mk_many mk_at mk_rows) H → va_D A (wd_X1_countRows cI cC cZ cB cJ a_tr a_tr_x a_tr_height a_tr_worth a_tr_ripe a_tr_foot a_tr_fork a_tr_settings a_mk a_mk_at a_mk_rows tr_fruits tr_standings tr_comingFruits tr_comingStandings tr_foot mk_many mk_at mk_rows) → va_S A s.heap H locs → lv_has ls 9 [(0, .ref a_mk), (1, .ref a_tr), (2, .int x2), (3, .int x3), (4, .int x4)] → W p l e rm_X1_countRows s m args below meth c H locs 0 0 (MQ below (q_X1_countRows dC dI cI cC cZ cB cJ A a_tr a_tr_x a_tr_height a_tr_worth a_tr_ripe a_tr_foot a_tr_fork a_tr_settings a_mk a_mk_at a_mk_rows tr_fruits tr_standings tr_comingFruits tr_comingStandings tr_foot mk_many mk_at post) args s 0 0 A) (F0 m 10 ls []) := by
  obtain ⟨hx, hb, hr, hml, hown, hts, hlocks, hA, hK, hN, tL, tM, hZL, hTL, hZM, hTM, hZX⟩ := id C0
  intro x2 x3 x4 mk_rows H locs ls hp hP hD hS hl
  unfold ws_X1_countRows_10 at hp
  refine lv_iload hx hb eX1_countRows_0.2.2.2.2.2.2.2.1 (lv_at hl 4 rfl) ?_
  refine lv_if_lt (tgt := 124) hx hb eX1_countRows_0.2.2.2.2.2.2.2.2.1 (by decide) (fun hc => ?_) (fun hc => ?_)
  · have hp := hp.1 hc
    refine lv_iload_n hx hb eX1_countRows_107.2.2.2.2.2.2.2.2.1 rfl (lv_at hl 3 rfl) ?_
    exact W.iret (v := x3) hx hb hr (fun t ht hW => ⟨⟨x3, mk_rows, rfl, hp, by rw [ht]; exact hP, va_K.moved hW.alike hK, hD⟩, hS.F ht⟩) hS.2.2 eX1_countRows_107.2.2.2.2.2.2.2.2.2
  · have hp := hp.2 hc
    refine lv_aload_n hx hb eX1_countRows_0.2.2.2.2.2.2.2.2.2.1 rfl (lv_at hl 1 rfl) ?_
    refine lv_aload_n hx hb eX1_countRows_0.2.2.2.2.2.2.2.2.2.2.1 rfl (lv_at hl 0 rfl) ?_
    refine va_get (D := (dC, dI)) (ci := 1) (v := .ref a_mk_at) (C := RX1) (T := TX1) (N := 3) hx hb hts i_X1 hown hK hP 2 rfl rfl 0 (Nat.le_of_ble_eq_true rfl) (hts _ q_594) (fun _ h9 => h9) rfl eX1_countRows_0.2.2.2.2.2.2.2.2.2.2.2.1 ?_
    refine lv_iload hx hb eX1_countRows_0.2.2.2.2.2.2.2.2.2.2.2.2.1 (lv_at hl 4 rfl) ?_
    have hin := hp.1
    have hp := hp.2
    refine va_iald hx hb hK hP 3 0 rfl rfl hin eX1_countRows_0.2.2.2.2.2.2.2.2.2.2.2.2.2.1 ?_
    refine lv_topi (fun v_2 ev_2 => ?_)
    have hp := hp v_2 ev_2
    refine lv_iload_n hx hb eX1_countRows_0.2.2.2.2.2.2.2.2.2.2.2.2.2.2.1 rfl (lv_at hl 2 rfl) ?_
    refine g_calli (wc := (wd_X3_standingsAt cI cC cZ cB cJ a_tr a_tr_x a_tr_height a_tr_worth a_tr_ripe a_tr_foot a_tr_fork a_tr_settings tr_fruits tr_standings tr_comingFruits tr_comingStandings tr_foot)) hP hD hS hA [0, 1] [2, 3, 4] rfl rfl rfl rfl (g_runV (As := [.int v_2, .int x2]) (rest := []) C0 hP hD hS [0, 1] rfl rfl 0 3 rfl rfl (c_X3_standingsAt l dC dI cI cC cZ cB cJ a_tr a_tr_x a_tr_height a_tr_worth a_tr_ripe a_tr_foot a_tr_fork a_tr_settings H.size v_2 x2 tr_fruits tr_standings tr_comingFruits tr_comingStandings tr_foot _ hp) q_588 q_597 q_589 q_590 q_48 h_X3_standingsAt rfl rfl ⟨Nat.le_of_ble_eq_true rfl, Nat.le_of_ble_eq_true rfl⟩ rfl rfl hl.1 rfl (lv_room (Nat.le_of_ble_eq_true rfl)) eX1_countRows_0.2.2.2.2.2.2.2.2.2.2.2.2.2.2.2 ⟨Nat.zero_le _, Nat.zero_le _⟩) (fun r_3 u H locs hp hP hD hS => ?_)
    have hPD := PDs (ws' := (wd_X1_countRows cI cC cZ cB cJ a_tr a_tr_x a_tr_height a_tr_worth a_tr_ripe a_tr_foot a_tr_fork a_tr_settings a_mk a_mk_at a_mk_rows tr_fruits tr_standings tr_comingFruits tr_comingStandings tr_foot mk_many mk_at mk_rows)) hP hD [3, 4, 0, 1, 2] (by decide) rfl
    have hP := hPD.1
    have hD := hPD.2
    refine lv_istore (lv' := [(5, .int r_3), (0, .ref a_mk), (1, .ref a_tr), (2, .int x2), (3, .int x3), (4, .int x4)]) hx hb eX1_countRows_27.1 hl (by decide) rfl (fun ls hl => ?_)
    refine lv_iload_n hx hb eX1_countRows_27.2.1 rfl (lv_at hl 4 rfl) ?_
    refine lv_istore (lv' := [(6, .int x3), (5, .int r_3), (0, .ref a_mk), (1, .ref a_tr), (2, .int x2), (3, .int x3), (4, .int x4)]) hx hb eX1_countRows_27.2.2.1 hl (by decide) rfl (fun ls hl => ?_)
    refine lv_iconst (v := 0) hx hb eX1_countRows_27.2.2.2.1 (by decide) ?_
    refine lv_istore_n (lv' := [(3, .int 0), (6, .int x3), (5, .int r_3), (0, .ref a_mk), (1, .ref a_tr), (2, .int x2), (4, .int x4)]) hx hb eX1_countRows_27.2.2.2.2.1 rfl hl (by decide) rfl (fun ls hl => ?_)
    refine lv_iconst (v := 0) hx hb eX1_countRows_27.2.2.2.2.2.1 (by decide) ?_
    refine lv_istore (lv' := [(7, .int 0), (3, .int 0), (6, .int x3), (5, .int r_3), (0, .ref a_mk), (1, .ref a_tr), (2, .int x2), (4, .int x4)]) hx hb eX1_countRows_27.2.2.2.2.2.2.1 hl (by decide) rfl (fun ls hl => ?_)
    obtain ⟨n9, hp⟩ := hp
    exact kb_X1_countRows_37 C0 hKn n9 x2 0 x4 r_3 x3 0 mk_rows H locs ls hp hP hD hS (lv_sub hl [4, 5, 6, 1, 7, 3, 2, 0] rfl)
set_option maxHeartbeats 4000000 in
set_option maxRecDepth 100000 in
theorem kb_X1_countRows_10 (C0 : gc cX1_countRows (some .int) 9 RX1 (dC, dI) (tyl cI cC cZ cB cJ) A p s m args meth c) : ∀ (n : Nat), ∀ (x2 : Int32) (x3 : Int32) (x4 : Int32) (mk_rows : Nat → Int32) (H : Heap) (locs : List Loc) (ls : Array Slot), (wb_X1_countRows_10 post tr_standings tr_foot mk_many mk_at n) x2 x3 x4 mk_rows → va_P (dC, dI) classes (wd_X1_countRows cI cC cZ cB cJ a_tr a_tr_x a_tr_height a_tr_worth a_tr_ripe a_tr_foot a_tr_fork a_tr_settings a_mk a_mk_at a_mk_rows tr_fruits tr_standings tr_comingFruits tr_comingStandings tr_foot mk_many mk_at mk_rows) H → va_D A (wd_X1_countRows cI cC cZ cB cJ a_tr a_tr_x a_tr_height a_tr_worth a_tr_ripe a_tr_foot a_tr_fork a_tr_settings a_mk a_mk_at a_mk_rows tr_fruits tr_standings tr_comingFruits tr_comingStandings tr_foot mk_many mk_at mk_rows) → va_S A s.heap H locs → lv_has ls 9 [(0, .ref a_mk), (1, .ref a_tr), (2, .int x2), (3, .int x3), (4, .int x4)] → W p l e rm_X1_countRows s m args below meth c H locs 0 0 (MQ below (q_X1_countRows dC dI cI cC cZ cB cJ A a_tr a_tr_x a_tr_height a_tr_worth a_tr_ripe a_tr_foot a_tr_fork a_tr_settings a_mk a_mk_at a_mk_rows tr_fruits tr_standings tr_comingFruits tr_comingStandings tr_foot mk_many mk_at post) args s 0 0 A) (F0 m 10 ls []) := by
  intro n
  induction n with
  | zero =>
    intro x2 x3 x4 mk_rows H locs ls hp
    exact False.elim hp
  | succ n ih =>
    intro x2 x3 x4 mk_rows H locs ls hp
    exact ks_X1_countRows_10 C0 ih x2 x3 x4 mk_rows H locs ls hp
end S_X1_countRows
def wp_X1_countRows (post : Int32 → (Nat → Int32) → Prop) (p1 : Int32) (tr_standings : Int32) (tr_foot : Nat → Int32) (mk_many : Int32) (mk_at : Nat → Int32) (mk_rows : Nat → Int32) : Prop := ∀ v_1 : Int32, v_1 = mk_many - 1 → ∃ n : Nat, wb_X1_countRows_10 post tr_standings tr_foot mk_many mk_at n p1 0 v_1 mk_rows
set_option maxHeartbeats 4000000 in
set_option maxRecDepth 100000 in
theorem c_X1_countRows (l : Launch) (dC : Nat → ClassId) (dI : Nat → Nat → Nat) (cI cC cZ cB cJ : ClassId) (a_tr : Nat) (a_tr_x : Nat) (a_tr_height : Nat) (a_tr_worth : Nat) (a_tr_ripe : Nat) (a_tr_foot : Nat) (a_tr_fork : Nat) (a_tr_settings : Nat) (a_mk : Nat) (a_mk_at : Nat) (a_mk_rows : Nat) (sz : Nat) (p1 : Int32) (tr_fruits : Int32) (tr_standings : Int32) (tr_comingFruits : Int32) (tr_comingStandings : Int32) (tr_foot : Nat → Int32) (mk_many : Int32) (mk_at : Nat → Int32) (mk_rows : Nat → Int32) (post : Int32 → (Nat → Int32) → Prop) (hw : wp_X1_countRows post p1 tr_standings tr_foot mk_many mk_at mk_rows) : Met l yX1_countRows (gw yX1_countRows cX1_countRows 9 (some .int)) rm_X1_countRows (va_Pc [.ref a_mk, .ref a_tr, .int p1] (gPre (dC, dI) (tyl cI cC cZ cB cJ) (wd_X1_countRows cI cC cZ cB cJ a_tr a_tr_x a_tr_height a_tr_worth a_tr_ripe a_tr_foot a_tr_fork a_tr_settings a_mk a_mk_at a_mk_rows tr_fruits tr_standings tr_comingFruits tr_comingStandings tr_foot mk_many mk_at mk_rows) sz)) (q_X1_countRows dC dI cI cC cZ cB cJ (va_A (wd_X1_countRows cI cC cZ cB cJ a_tr a_tr_x a_tr_height a_tr_worth a_tr_ripe a_tr_foot a_tr_fork a_tr_settings a_mk a_mk_at a_mk_rows tr_fruits tr_standings tr_comingFruits tr_comingStandings tr_foot mk_many mk_at mk_rows) sz) a_tr a_tr_x a_tr_height a_tr_worth a_tr_ripe a_tr_foot a_tr_fork a_tr_settings a_mk a_mk_at a_mk_rows tr_fruits tr_standings tr_comingFruits tr_comingStandings tr_foot mk_many mk_at post) 0 0 (va_A (wd_X1_countRows cI cC cZ cB cJ a_tr a_tr_x a_tr_height a_tr_worth a_tr_ripe a_tr_foot a_tr_fork a_tr_settings a_mk a_mk_at a_mk_rows tr_fruits tr_standings tr_comingFruits tr_comingStandings tr_foot mk_many mk_at mk_rows) sz) := by
  refine g_enter (own := RX1) (dC, dI) (tyl cI cC cZ cB cJ) (wd_X1_countRows cI cC cZ cB cJ a_tr a_tr_x a_tr_height a_tr_worth a_tr_ripe a_tr_foot a_tr_fork a_tr_settings a_mk a_mk_at a_mk_rows tr_fruits tr_standings tr_comingFruits tr_comingStandings tr_foot mk_many mk_at mk_rows) sz [.ref a_mk, .ref a_tr, .int p1] (fun A => q_X1_countRows dC dI cI cC cZ cB cJ A a_tr a_tr_x a_tr_height a_tr_worth a_tr_ripe a_tr_foot a_tr_fork a_tr_settings a_mk a_mk_at a_mk_rows tr_fruits tr_standings tr_comingFruits tr_comingStandings tr_foot mk_many mk_at post) (by decide) rfl (Nat.le_of_ble_eq_true rfl) ?_
  intro p e s m args below meth c A H locs ls C0 hP hD hS hl
  have hl : lv_has ls 9 [(0, .ref a_mk), (1, .ref a_tr), (2, .int p1)] := hl
  obtain ⟨hx, hb, hr, hml, hown, hts, hlocks, hA, hK, hN, tL, tM, hZL, hTL, hZM, hTM, hZX⟩ := id C0
  have hp := hw
  unfold wp_X1_countRows at hp
  refine lv_iconst (v := 0) hx hb eX1_countRows_0.1 (by decide) ?_
  refine lv_istore_n (lv' := [(3, .int 0), (0, .ref a_mk), (1, .ref a_tr), (2, .int p1)]) hx hb eX1_countRows_0.2.1 rfl hl (by decide) rfl (fun ls hl => ?_)
  refine lv_aload_n hx hb eX1_countRows_0.2.2.1 rfl (lv_at hl 1 rfl) ?_
  refine va_get (D := (dC, dI)) (ci := 1) (v := .int mk_many) (C := RX1) (T := TX1) (N := 3) hx hb hts i_X1 hown hK hP 2 rfl rfl 2 (Nat.le_of_ble_eq_true rfl) (hts _ q_592) (fun _ h9 => h9) rfl eX1_countRows_0.2.2.2.1 ?_
  refine lv_iconst (v := 1) hx hb eX1_countRows_0.2.2.2.2.1 (by decide) ?_
  refine lv_isub hx hb eX1_countRows_0.2.2.2.2.2.1 ?_
  refine lv_topi (fun v_1 ev_1 => ?_)
  have hp := hp v_1 ev_1
  refine lv_istore (lv' := [(4, .int v_1), (3, .int 0), (0, .ref a_mk), (1, .ref a_tr), (2, .int p1)]) hx hb eX1_countRows_0.2.2.2.2.2.2.1 hl (by decide) rfl (fun ls hl => ?_)
  obtain ⟨n9, hp⟩ := hp
  exact kb_X1_countRows_10 C0 n9 p1 0 v_1 mk_rows H locs ls hp hP hD hS (lv_sub hl [2, 3, 4, 1, 0] rfl)
abbrev wd_X1_firstFor (cI cC cZ cB cJ : ClassId) (a_mk : Nat) (a_mk_at : Nat) (a_mk_rows : Nat) (mk_many : Int32) (mk_rows : Nat → Int32) : va_W := [(a_mk, .inr (1, [.ref a_mk_at, .ref a_mk_rows, .int mk_many])), (a_mk_rows, .inl (cI, 48, .inl mk_rows))]
abbrev q_X1_firstFor (dC : Nat → ClassId) (dI : Nat → Nat → Nat) (cI cC cZ cB cJ : ClassId) (A : Nat → Prop) (a_mk : Nat) (a_mk_at : Nat) (a_mk_rows : Nat) (mk_many : Int32) (mk_rows : Nat → Int32) (post : Int32 → Prop) : Array Value → State → Outcome → State → Prop := va_Qi (fun (r : Int32) (u : Unit) => post r) (fun u t => gB (dC, dI) (tyl cI cC cZ cB cJ) A (wd_X1_firstFor cI cC cZ cB cJ a_mk a_mk_at a_mk_rows mk_many mk_rows) t) A
abbrev rm_X1_firstFor : Room := { frames := 0, cells := 0, slots := 0, locals := 0 }
section S_X1_firstFor
variable {p : Program} {l : Launch} {e : Env} {s : State} {m : MethodId} {args : Array Value} {below : List Frame} {meth : Method} {c : Code} {dC : Nat → ClassId} {dI : Nat → Nat → Nat} {cI cC cZ cB cJ : ClassId} {A : Nat → Prop} {a_mk : Nat} {a_mk_at : Nat} {a_mk_rows : Nat} {mk_many : Int32} {mk_rows : Nat → Int32} {post : Int32 → Prop}
def ws_X1_firstFor_29 (post : Int32 → Prop) (K2 : Int32 → Int32 → Int32 → Prop) (mk_rows : Nat → Int32) (x1 : Int32) (x2 : Int32) (x3 : Int32) : Prop := ∀ v_1 : Int32, v_1 = x3 + 1 → K2 x1 x2 v_1
set_option maxHeartbeats 4000000 in
set_option maxRecDepth 100000 in
theorem ks_X1_firstFor_29 (C0 : gc cX1_firstFor (some .int) 4 RX1 (dC, dI) (tyl cI cC cZ cB cJ) A p s m args meth c) {K2 : Int32 → Int32 → Int32 → Prop} (hK2 : ∀ (x1 : Int32) (x2 : Int32) (x3 : Int32) (H : Heap) (locs : List Loc) (ls : Array Slot), K2 x1 x2 x3 → va_P (dC, dI) classes (wd_X1_firstFor cI cC cZ cB cJ a_mk a_mk_at a_mk_rows mk_many mk_rows) H → va_D A (wd_X1_firstFor cI cC cZ cB cJ a_mk a_mk_at a_mk_rows mk_many mk_rows) → va_S A s.heap H locs → lv_has ls 4 [(0, .ref a_mk), (1, .int x1), (2, .int x2), (3, .int x3)] → W p l e rm_X1_firstFor s m args below meth c H locs 0 0 (MQ below (q_X1_firstFor dC dI cI cC cZ cB cJ A a_mk a_mk_at a_mk_rows mk_many mk_rows post) args s 0 0 A) (F0 m 2 ls [])) : ∀ (x1 : Int32) (x2 : Int32) (x3 : Int32) (H : Heap) (locs : List Loc) (ls : Array Slot), (ws_X1_firstFor_29 post K2 mk_rows) x1 x2 x3 → va_P (dC, dI) classes (wd_X1_firstFor cI cC cZ cB cJ a_mk a_mk_at a_mk_rows mk_many mk_rows) H → va_D A (wd_X1_firstFor cI cC cZ cB cJ a_mk a_mk_at a_mk_rows mk_many mk_rows) → va_S A s.heap H locs → lv_has ls 4 [(0, .ref a_mk), (1, .int x1), (2, .int x2), (3, .int x3)] → W p l e rm_X1_firstFor s m args below meth c H locs 0 0 (MQ below (q_X1_firstFor dC dI cI cC cZ cB cJ A a_mk a_mk_at a_mk_rows mk_many mk_rows post) args s 0 0 A) (F0 m 29 ls []) := by
  obtain ⟨hx, hb, hr, hml, hown, hts, hlocks, hA, hK, hN, tL, tM, hZL, hTL, hZM, hTM, hZX⟩ := id C0
  intro x1 x2 x3 H locs ls hp hP hD hS hl
  unfold ws_X1_firstFor_29 at hp
  obtain ⟨v_1, ev_1⟩ : ∃ y : Int32, y = x3 + 1 := ⟨_, rfl⟩
  refine lv_iinc (v := v_1) (lv' := [(3, .int v_1), (0, .ref a_mk), (1, .int x1), (2, .int x2)]) hx hb eX1_firstFor_24.2.2.2.1 hl (k := 3) rfl (by rw [ev_1]; rfl) (by decide) rfl (fun ls hl => ?_)
  have hp := hp v_1 ev_1
  refine lv_goto (tgt := 2) hx hb eX1_firstFor_24.2.2.2.2.1 (by decide) ?_
  exact hK2 x1 x2 v_1 H locs ls hp hP hD hS (lv_sub hl [1, 2, 3, 0] rfl)
def ws_X1_firstFor_2 (post : Int32 → Prop) (next : Int32 → Int32 → Int32 → Prop) (mk_rows : Nat → Int32) (x1 : Int32) (x2 : Int32) (x3 : Int32) : Prop := (8 ≤ x3 → post (-1)) ∧ (¬ 8 ≤ x3 → (x3 = x2 → ws_X1_firstFor_29 post next mk_rows x1 x2 x3) ∧ (¬ x3 = x2 → ∀ v_2 : Int32, v_2 = x1 * 8 → ∀ v_3 : Int32, v_3 = v_2 + x3 → vp_in v_3 48 ∧ (((mk_rows v_3.toNatClampNeg) ≤ 0 → ws_X1_firstFor_29 post next mk_rows x1 x2 x3) ∧ (¬ (mk_rows v_3.toNatClampNeg) ≤ 0 → post x3))))
noncomputable def wb_X1_firstFor_2 (post : Int32 → Prop) (mk_rows : Nat → Int32) : Nat → Int32 → Int32 → Int32 → Prop := fun n => Nat.rec (motive := fun _ => Int32 → Int32 → Int32 → Prop) (fun _ _ _ => False) (fun _ ih => ws_X1_firstFor_2 post ih mk_rows) n
set_option maxHeartbeats 4000000 in
set_option maxRecDepth 100000 in
theorem ks_X1_firstFor_2 (C0 : gc cX1_firstFor (some .int) 4 RX1 (dC, dI) (tyl cI cC cZ cB cJ) A p s m args meth c) {next : Int32 → Int32 → Int32 → Prop} (hKn : ∀ (x1 : Int32) (x2 : Int32) (x3 : Int32) (H : Heap) (locs : List Loc) (ls : Array Slot), next x1 x2 x3 → va_P (dC, dI) classes (wd_X1_firstFor cI cC cZ cB cJ a_mk a_mk_at a_mk_rows mk_many mk_rows) H → va_D A (wd_X1_firstFor cI cC cZ cB cJ a_mk a_mk_at a_mk_rows mk_many mk_rows) → va_S A s.heap H locs → lv_has ls 4 [(0, .ref a_mk), (1, .int x1), (2, .int x2), (3, .int x3)] → W p l e rm_X1_firstFor s m args below meth c H locs 0 0 (MQ below (q_X1_firstFor dC dI cI cC cZ cB cJ A a_mk a_mk_at a_mk_rows mk_many mk_rows post) args s 0 0 A) (F0 m 2 ls [])) : ∀ (x1 : Int32) (x2 : Int32) (x3 : Int32) (H : Heap) (locs : List Loc) (ls : Array Slot), (ws_X1_firstFor_2 post next mk_rows) x1 x2 x3 → va_P (dC, dI) classes (wd_X1_firstFor cI cC cZ cB cJ a_mk a_mk_at a_mk_rows mk_many mk_rows) H → va_D A (wd_X1_firstFor cI cC cZ cB cJ a_mk a_mk_at a_mk_rows mk_many mk_rows) → va_S A s.heap H locs → lv_has ls 4 [(0, .ref a_mk), (1, .int x1), (2, .int x2), (3, .int x3)] → W p l e rm_X1_firstFor s m args below meth c H locs 0 0 (MQ below (q_X1_firstFor dC dI cI cC cZ cB cJ A a_mk a_mk_at a_mk_rows mk_many mk_rows post) args s 0 0 A) (F0 m 2 ls []) := by
  obtain ⟨hx, hb, hr, hml, hown, hts, hlocks, hA, hK, hN, tL, tM, hZL, hTL, hZM, hTM, hZX⟩ := id C0
  intro x1 x2 x3 H locs ls hp hP hD hS hl
  unfold ws_X1_firstFor_2 at hp
  refine lv_iload_n hx hb eX1_firstFor_0.2.2.1 rfl (lv_at hl 3 rfl) ?_
  refine lv_bipush (v := 8) hx hb eX1_firstFor_0.2.2.2.1 (by decide) ?_
  refine lv_icmp_ge (tgt := 35) hx hb eX1_firstFor_0.2.2.2.2.1 (by decide) (fun hc => ?_) (fun hc => ?_)
  · have hp := hp.1 hc
    refine lv_iconst (v := (-1)) hx hb eX1_firstFor_24.2.2.2.2.2.1 (by decide) ?_
    exact W.iret (v := (-1)) hx hb hr (fun t ht hW => ⟨⟨(-1), (), rfl, hp, by rw [ht]; exact hP, va_K.moved hW.alike hK, hD⟩, hS.F ht⟩) hS.2.2 eX1_firstFor_24.2.2.2.2.2.2
  · have hp := hp.2 hc
    refine lv_iload_n hx hb eX1_firstFor_0.2.2.2.2.2.1 rfl (lv_at hl 3 rfl) ?_
    refine lv_iload_n hx hb eX1_firstFor_0.2.2.2.2.2.2.1 rfl (lv_at hl 2 rfl) ?_
    refine lv_icmp_eq (tgt := 29) hx hb eX1_firstFor_0.2.2.2.2.2.2.2.1 (by decide) (fun hc => ?_) (fun hc => ?_)
    · have hp := hp.1 hc
      exact ks_X1_firstFor_29 C0 hKn x1 x2 x3 H locs ls hp hP hD hS (lv_sub hl [0, 1, 2, 3] rfl)
    · have hp := hp.2 hc
      refine lv_aload_n hx hb eX1_firstFor_0.2.2.2.2.2.2.2.2.1 rfl (lv_at hl 0 rfl) ?_
      refine va_get (D := (dC, dI)) (ci := 1) (v := .ref a_mk_rows) (C := RX1) (T := TX1) (N := 3) hx hb hts i_X1 hown hK hP 0 rfl rfl 1 (Nat.le_of_ble_eq_true rfl) (hts _ q_598) (fun _ h9 => h9) rfl eX1_firstFor_0.2.2.2.2.2.2.2.2.2.1 ?_
      refine lv_iload_n hx hb eX1_firstFor_0.2.2.2.2.2.2.2.2.2.2.1 rfl (lv_at hl 1 rfl) ?_
      refine lv_bipush (v := 8) hx hb eX1_firstFor_0.2.2.2.2.2.2.2.2.2.2.2.1 (by decide) ?_
      refine lv_imul hx hb eX1_firstFor_0.2.2.2.2.2.2.2.2.2.2.2.2.1 ?_
      refine lv_topi (fun v_2 ev_2 => ?_)
      have hp := hp v_2 ev_2
      refine lv_iload_n hx hb eX1_firstFor_0.2.2.2.2.2.2.2.2.2.2.2.2.2.1 rfl (lv_at hl 3 rfl) ?_
      refine lv_iadd hx hb eX1_firstFor_0.2.2.2.2.2.2.2.2.2.2.2.2.2.2.1 ?_
      refine lv_topi (fun v_3 ev_3 => ?_)
      have hp := hp v_3 ev_3
      have hin := hp.1
      have hp := hp.2
      refine va_iald hx hb hK hP 1 0 rfl rfl hin eX1_firstFor_0.2.2.2.2.2.2.2.2.2.2.2.2.2.2.2 ?_
      refine lv_if_le (tgt := 29) hx hb eX1_firstFor_24.1 (by decide) (fun hc => ?_) (fun hc => ?_)
      · have hp := hp.1 hc
        exact ks_X1_firstFor_29 C0 hKn x1 x2 x3 H locs ls hp hP hD hS (lv_sub hl [0, 1, 2, 3] rfl)
      · have hp := hp.2 hc
        refine lv_iload_n hx hb eX1_firstFor_24.2.1 rfl (lv_at hl 3 rfl) ?_
        exact W.iret (v := x3) hx hb hr (fun t ht hW => ⟨⟨x3, (), rfl, hp, by rw [ht]; exact hP, va_K.moved hW.alike hK, hD⟩, hS.F ht⟩) hS.2.2 eX1_firstFor_24.2.2.1
set_option maxHeartbeats 4000000 in
set_option maxRecDepth 100000 in
theorem kb_X1_firstFor_2 (C0 : gc cX1_firstFor (some .int) 4 RX1 (dC, dI) (tyl cI cC cZ cB cJ) A p s m args meth c) : ∀ (n : Nat), ∀ (x1 : Int32) (x2 : Int32) (x3 : Int32) (H : Heap) (locs : List Loc) (ls : Array Slot), (wb_X1_firstFor_2 post mk_rows n) x1 x2 x3 → va_P (dC, dI) classes (wd_X1_firstFor cI cC cZ cB cJ a_mk a_mk_at a_mk_rows mk_many mk_rows) H → va_D A (wd_X1_firstFor cI cC cZ cB cJ a_mk a_mk_at a_mk_rows mk_many mk_rows) → va_S A s.heap H locs → lv_has ls 4 [(0, .ref a_mk), (1, .int x1), (2, .int x2), (3, .int x3)] → W p l e rm_X1_firstFor s m args below meth c H locs 0 0 (MQ below (q_X1_firstFor dC dI cI cC cZ cB cJ A a_mk a_mk_at a_mk_rows mk_many mk_rows post) args s 0 0 A) (F0 m 2 ls []) := by
  intro n
  induction n with
  | zero =>
    intro x1 x2 x3 H locs ls hp
    exact False.elim hp
  | succ n ih =>
    intro x1 x2 x3 H locs ls hp
    exact ks_X1_firstFor_2 C0 ih x1 x2 x3 H locs ls hp
end S_X1_firstFor
def wp_X1_firstFor (post : Int32 → Prop) (p0 : Int32) (p1 : Int32) (mk_rows : Nat → Int32) : Prop := ∃ n : Nat, wb_X1_firstFor_2 post mk_rows n p0 p1 0
set_option maxHeartbeats 4000000 in
set_option maxRecDepth 100000 in
theorem c_X1_firstFor (l : Launch) (dC : Nat → ClassId) (dI : Nat → Nat → Nat) (cI cC cZ cB cJ : ClassId) (a_mk : Nat) (a_mk_at : Nat) (a_mk_rows : Nat) (sz : Nat) (p0 : Int32) (p1 : Int32) (mk_many : Int32) (mk_rows : Nat → Int32) (post : Int32 → Prop) (hw : wp_X1_firstFor post p0 p1 mk_rows) : Met l yX1_firstFor (gw yX1_firstFor cX1_firstFor 4 (some .int)) rm_X1_firstFor (va_Pc [.ref a_mk, .int p0, .int p1] (gPre (dC, dI) (tyl cI cC cZ cB cJ) (wd_X1_firstFor cI cC cZ cB cJ a_mk a_mk_at a_mk_rows mk_many mk_rows) sz)) (q_X1_firstFor dC dI cI cC cZ cB cJ (va_A (wd_X1_firstFor cI cC cZ cB cJ a_mk a_mk_at a_mk_rows mk_many mk_rows) sz) a_mk a_mk_at a_mk_rows mk_many mk_rows post) 0 0 (va_A (wd_X1_firstFor cI cC cZ cB cJ a_mk a_mk_at a_mk_rows mk_many mk_rows) sz) := by
  refine g_enter (own := RX1) (dC, dI) (tyl cI cC cZ cB cJ) (wd_X1_firstFor cI cC cZ cB cJ a_mk a_mk_at a_mk_rows mk_many mk_rows) sz [.ref a_mk, .int p0, .int p1] (fun A => q_X1_firstFor dC dI cI cC cZ cB cJ A a_mk a_mk_at a_mk_rows mk_many mk_rows post) (by decide) rfl (Nat.le_of_ble_eq_true rfl) ?_
  intro p e s m args below meth c A H locs ls C0 hP hD hS hl
  have hl : lv_has ls 4 [(0, .ref a_mk), (1, .int p0), (2, .int p1)] := hl
  obtain ⟨hx, hb, hr, hml, hown, hts, hlocks, hA, hK, hN, tL, tM, hZL, hTL, hZM, hTM, hZX⟩ := id C0
  have hp := hw
  unfold wp_X1_firstFor at hp
  refine lv_iconst (v := 0) hx hb eX1_firstFor_0.1 (by decide) ?_
  refine lv_istore_n (lv' := [(3, .int 0), (0, .ref a_mk), (1, .int p0), (2, .int p1)]) hx hb eX1_firstFor_0.2.1 rfl hl (by decide) rfl (fun ls hl => ?_)
  obtain ⟨n9, hp⟩ := hp
  exact kb_X1_firstFor_2 C0 n9 p0 p1 0 H locs ls hp hP hD hS (lv_sub hl [1, 2, 3, 0] rfl)
abbrev wd_X9_tellLeastMarks (cI cC cZ cB cJ : ClassId) (a_x : Nat) (a_tx : Nat) (a_pl : Nat) (a_ga : Nat) (a_tr : Nat) (a_no : Nat) (a_pa : Nat) (a_ro : Nat) (a_mk : Nat) (a_x_acts : Nat) (a_ro_numbers : Nat) (a_mk_at : Nat) (a_mk_rows : Nat) (ro_size : Int32) (ro_numbers : Nat → Int32) (mk_many : Int32) (mk_rows : Nat → Int32) : va_W := [(a_x, .inr (9, [.ref a_tx, .ref a_pl, .ref a_ga, .ref a_tr, .ref a_no, .ref a_pa, .ref a_ro, .ref a_mk, .ref a_x_acts])), (a_ro, .inr (6, [.ref a_ro_numbers, .int ro_size])), (a_ro_numbers, .inl (cI, 16, .inl ro_numbers)), (a_mk, .inr (1, [.ref a_mk_at, .ref a_mk_rows, .int mk_many])), (a_mk_rows, .inl (cI, 48, .inl mk_rows))]
abbrev q_X9_tellLeastMarks (dC : Nat → ClassId) (dI : Nat → Nat → Nat) (cI cC cZ cB cJ : ClassId) (A : Nat → Prop) (a_x : Nat) (a_tx : Nat) (a_pl : Nat) (a_ga : Nat) (a_tr : Nat) (a_no : Nat) (a_pa : Nat) (a_ro : Nat) (a_mk : Nat) (a_x_acts : Nat) (a_ro_numbers : Nat) (a_mk_at : Nat) (a_mk_rows : Nat) (mk_many : Int32) (mk_rows : Nat → Int32) (post : Int32 → (Nat → Int32) → Prop) : Array Value → State → Outcome → State → Prop := va_Qv (fun (u : Int32 × (Nat → Int32)) => post u.1 u.2) (fun u t => gB (dC, dI) (tyl cI cC cZ cB cJ) A (wd_X9_tellLeastMarks cI cC cZ cB cJ a_x a_tx a_pl a_ga a_tr a_no a_pa a_ro a_mk a_x_acts a_ro_numbers a_mk_at a_mk_rows u.1 u.2 mk_many mk_rows) t) A
abbrev rm_X9_tellLeastMarks : Room := { frames := 1, cells := 0, slots := 0, locals := 23 }
section S_X9_tellLeastMarks
variable {p : Program} {l : Launch} {e : Env} {s : State} {m : MethodId} {args : Array Value} {below : List Frame} {meth : Method} {c : Code} {dC : Nat → ClassId} {dI : Nat → Nat → Nat} {cI cC cZ cB cJ : ClassId} {A : Nat → Prop} {a_x : Nat} {a_tx : Nat} {a_pl : Nat} {a_ga : Nat} {a_tr : Nat} {a_no : Nat} {a_pa : Nat} {a_ro : Nat} {a_mk : Nat} {a_x_acts : Nat} {a_ro_numbers : Nat} {a_mk_at : Nat} {a_mk_rows : Nat} {mk_many : Int32} {mk_rows : Nat → Int32} {post : Int32 → (Nat → Int32) → Prop}
def ws_X9_tellLeastMarks_16 (post : Int32 → (Nat → Int32) → Prop) (next : Int32 → Int32 → Int32 → (Nat → Int32) → Prop) (mk_many : Int32) (mk_rows : Nat → Int32) (x2 : Int32) (x3 : Int32) (ro_size : Int32) (ro_numbers : Nat → Int32) : Prop := (mk_many ≤ x3 → post ro_size ro_numbers) ∧ (¬ mk_many ≤ x3 → wp_X1_firstFor (fun r_2 => wp_X6_add (fun ro_size_3 ro_numbers_4 => ∀ v_5 : Int32, v_5 = x3 + 1 → next r_2 v_5 ro_size_3 ro_numbers_4) r_2 ro_size ro_numbers) x3 x2 mk_rows)
noncomputable def wb_X9_tellLeastMarks_16 (post : Int32 → (Nat → Int32) → Prop) (mk_many : Int32) (mk_rows : Nat → Int32) : Nat → Int32 → Int32 → Int32 → (Nat → Int32) → Prop := fun n => Nat.rec (motive := fun _ => Int32 → Int32 → Int32 → (Nat → Int32) → Prop) (fun _ _ _ _ => False) (fun _ ih => ws_X9_tellLeastMarks_16 post ih mk_many mk_rows) n
set_option maxHeartbeats 4000000 in
set_option maxRecDepth 100000 in
theorem ks_X9_tellLeastMarks_16 (C0 : gc cX9_tellLeastMarks none 4 RX9 (dC, dI) (tyl cI cC cZ cB cJ) A p s m args meth c) {next : Int32 → Int32 → Int32 → (Nat → Int32) → Prop} (hKn : ∀ (x2 : Int32) (x3 : Int32) (ro_size : Int32) (ro_numbers : Nat → Int32) (H : Heap) (locs : List Loc) (ls : Array Slot), next x2 x3 ro_size ro_numbers → va_P (dC, dI) classes (wd_X9_tellLeastMarks cI cC cZ cB cJ a_x a_tx a_pl a_ga a_tr a_no a_pa a_ro a_mk a_x_acts a_ro_numbers a_mk_at a_mk_rows ro_size ro_numbers mk_many mk_rows) H → va_D A (wd_X9_tellLeastMarks cI cC cZ cB cJ a_x a_tx a_pl a_ga a_tr a_no a_pa a_ro a_mk a_x_acts a_ro_numbers a_mk_at a_mk_rows ro_size ro_numbers mk_many mk_rows) → va_S A s.heap H locs → lv_has ls 4 [(0, .ref a_x), (2, .int x2), (3, .int x3)] → W p l e rm_X9_tellLeastMarks s m args below meth c H locs 0 0 (MQ below (q_X9_tellLeastMarks dC dI cI cC cZ cB cJ A a_x a_tx a_pl a_ga a_tr a_no a_pa a_ro a_mk a_x_acts a_ro_numbers a_mk_at a_mk_rows mk_many mk_rows post) args s 0 0 A) (F0 m 16 ls [])) : ∀ (x2 : Int32) (x3 : Int32) (ro_size : Int32) (ro_numbers : Nat → Int32) (H : Heap) (locs : List Loc) (ls : Array Slot), (ws_X9_tellLeastMarks_16 post next mk_many mk_rows) x2 x3 ro_size ro_numbers → va_P (dC, dI) classes (wd_X9_tellLeastMarks cI cC cZ cB cJ a_x a_tx a_pl a_ga a_tr a_no a_pa a_ro a_mk a_x_acts a_ro_numbers a_mk_at a_mk_rows ro_size ro_numbers mk_many mk_rows) H → va_D A (wd_X9_tellLeastMarks cI cC cZ cB cJ a_x a_tx a_pl a_ga a_tr a_no a_pa a_ro a_mk a_x_acts a_ro_numbers a_mk_at a_mk_rows ro_size ro_numbers mk_many mk_rows) → va_S A s.heap H locs → lv_has ls 4 [(0, .ref a_x), (2, .int x2), (3, .int x3)] → W p l e rm_X9_tellLeastMarks s m args below meth c H locs 0 0 (MQ below (q_X9_tellLeastMarks dC dI cI cC cZ cB cJ A a_x a_tx a_pl a_ga a_tr a_no a_pa a_ro a_mk a_x_acts a_ro_numbers a_mk_at a_mk_rows mk_many mk_rows post) args s 0 0 A) (F0 m 16 ls []) := by
  obtain ⟨hx, hb, hr, hml, hown, hts, hlocks, hA, hK, hN, tL, tM, hZL, hTL, hZM, hTM, hZX⟩ := id C0
  intro x2 x3 ro_size ro_numbers H locs ls hp hP hD hS hl
  unfold ws_X9_tellLeastMarks_16 at hp
  refine lv_iload_n hx hb eX9_tellLeastMarks_0.2.2.2.2.2.2.2.2.2.2.1 rfl (lv_at hl 2 rfl) ?_
  refine lv_aload_n hx hb eX9_tellLeastMarks_0.2.2.2.2.2.2.2.2.2.2.2.1 rfl (lv_at hl 0 rfl) ?_
  refine va_get (D := (dC, dI)) (ci := 9) (v := .ref a_mk) (C := RX9) (T := TX9) (N := 9) hx hb hts i_X9 hown hK hP 0 rfl rfl 7 (Nat.le_of_ble_eq_true rfl) (hts _ q_599) (fun _ h9 => h9) rfl eX9_tellLeastMarks_0.2.2.2.2.2.2.2.2.2.2.2.2.1 ?_
  refine va_get (D := (dC, dI)) (ci := 1) (v := .int mk_many) (C := RX1) (T := TX1) (N := 3) hx hb hts i_X1 hown hK hP 3 rfl rfl 2 (Nat.le_of_ble_eq_true rfl) (hts _ q_600) (fun _ h9 => h9) rfl eX9_tellLeastMarks_0.2.2.2.2.2.2.2.2.2.2.2.2.2.1 ?_
  refine lv_icmp_ge (tgt := 51) hx hb eX9_tellLeastMarks_0.2.2.2.2.2.2.2.2.2.2.2.2.2.2.1 (by decide) (fun hc => ?_) (fun hc => ?_)
  · have hp := hp.1 hc
    exact W.vret hx hb hr (fun t ht hW => ⟨⟨(ro_size, ro_numbers), rfl, hp, by rw [ht]; exact hP, va_K.moved hW.alike hK, hD⟩, hS.F ht⟩) hS.2.2 eX9_tellLeastMarks_28.2.2.2.2.2.2.2.2.2.2.2
  · have hp := hp.2 hc
    refine lv_aload_n hx hb eX9_tellLeastMarks_0.2.2.2.2.2.2.2.2.2.2.2.2.2.2.2 rfl (lv_at hl 0 rfl) ?_
    refine va_get (D := (dC, dI)) (ci := 9) (v := .ref a_mk) (C := RX9) (T := TX9) (N := 9) hx hb hts i_X9 hown hK hP 0 rfl rfl 7 (Nat.le_of_ble_eq_true rfl) (hts _ q_599) (fun _ h9 => h9) rfl eX9_tellLeastMarks_28.1 ?_
    refine lv_iload_n hx hb eX9_tellLeastMarks_28.2.1 rfl (lv_at hl 2 rfl) ?_
    refine lv_iload_n hx hb eX9_tellLeastMarks_28.2.2.1 rfl (lv_at hl 1 rfl) ?_
    refine g_calli (wc := (wd_X1_firstFor cI cC cZ cB cJ a_mk a_mk_at a_mk_rows mk_many mk_rows)) hP hD hS hA [3, 4] [0, 1, 2] rfl rfl rfl rfl (g_runV (As := [.int x3, .int x2]) (rest := []) C0 hP hD hS [3, 4] rfl rfl 3 1 rfl rfl (c_X1_firstFor l dC dI cI cC cZ cB cJ a_mk a_mk_at a_mk_rows H.size x3 x2 mk_many mk_rows _ hp) q_601 q_605 q_603 q_604 q_602 h_X1_firstFor rfl rfl ⟨Nat.le_of_ble_eq_true rfl, Nat.le_of_ble_eq_true rfl⟩ rfl rfl hl.1 rfl (lv_room (Nat.le_of_ble_eq_true rfl)) eX9_tellLeastMarks_28.2.2.2.1 ⟨Nat.zero_le _, Nat.zero_le _⟩) (fun r_2 u H locs hp hP hD hS => ?_)
    have hPD := PDs (ws' := (wd_X9_tellLeastMarks cI cC cZ cB cJ a_x a_tx a_pl a_ga a_tr a_no a_pa a_ro a_mk a_x_acts a_ro_numbers a_mk_at a_mk_rows ro_size ro_numbers mk_many mk_rows)) hP hD [0, 1, 2, 3, 4] (by decide) rfl
    have hP := hPD.1
    have hD := hPD.2
    refine lv_istore_n (lv' := [(2, .int r_2), (0, .ref a_x), (3, .int x3)]) hx hb eX9_tellLeastMarks_28.2.2.2.2.1 rfl hl (by decide) rfl (fun ls hl => ?_)
    refine lv_aload_n hx hb eX9_tellLeastMarks_28.2.2.2.2.2.1 rfl (lv_at hl 1 rfl) ?_
    refine va_get (D := (dC, dI)) (ci := 9) (v := .ref a_ro) (C := RX9) (T := TX9) (N := 9) hx hb hts i_X9 hown hK hP 0 rfl rfl 6 (Nat.le_of_ble_eq_true rfl) (hts _ q_363) (fun _ h9 => h9) rfl eX9_tellLeastMarks_28.2.2.2.2.2.2.1 ?_
    refine lv_iload_n hx hb eX9_tellLeastMarks_28.2.2.2.2.2.2.2.1 rfl (lv_at hl 0 rfl) ?_
    refine g_callv (wc := (wd_X6_add cI cC cZ cB cJ a_ro a_ro_numbers ro_size ro_numbers)) hP hD hS hA [1, 2] [0, 3, 4] rfl rfl rfl rfl (g_runV (As := [.int r_2]) (rest := []) C0 hP hD hS [1, 2] rfl rfl 1 6 rfl rfl (c_X6_add l dC dI cI cC cZ cB cJ a_ro a_ro_numbers H.size r_2 ro_size ro_numbers _ hp) q_369 q_372 q_370 q_371 q_365 h_X6_add rfl rfl ⟨Nat.le_of_ble_eq_true rfl, Nat.le_of_ble_eq_true rfl⟩ rfl rfl hl.1 rfl (lv_room (Nat.le_of_ble_eq_true rfl)) eX9_tellLeastMarks_28.2.2.2.2.2.2.2.2.1 ⟨Nat.zero_le _, Nat.zero_le _⟩) (fun u H locs hp hP hD hS => ?_)
    obtain ⟨ro_size_3, ro_numbers_4⟩ := u
    have hPD := PDs (ws' := (wd_X9_tellLeastMarks cI cC cZ cB cJ a_x a_tx a_pl a_ga a_tr a_no a_pa a_ro a_mk a_x_acts a_ro_numbers a_mk_at a_mk_rows ro_size_3 ro_numbers_4 mk_many mk_rows)) hP hD [0, 3, 4, 1, 2] (by decide) rfl
    have hP := hPD.1
    have hD := hPD.2
    obtain ⟨v_5, ev_5⟩ : ∃ y : Int32, y = x3 + 1 := ⟨_, rfl⟩
    refine lv_iinc (v := v_5) (lv' := [(3, .int v_5), (2, .int r_2), (0, .ref a_x)]) hx hb eX9_tellLeastMarks_28.2.2.2.2.2.2.2.2.2.1 hl (k := 2) rfl (by rw [ev_5]; rfl) (by decide) rfl (fun ls hl => ?_)
    have hp := hp v_5 ev_5
    refine lv_goto (tgt := 16) hx hb eX9_tellLeastMarks_28.2.2.2.2.2.2.2.2.2.2.1 (by decide) ?_
    exact hKn r_2 v_5 ro_size_3 ro_numbers_4 H locs ls hp hP hD hS (lv_sub hl [2, 1, 0] rfl)
set_option maxHeartbeats 4000000 in
set_option maxRecDepth 100000 in
theorem kb_X9_tellLeastMarks_16 (C0 : gc cX9_tellLeastMarks none 4 RX9 (dC, dI) (tyl cI cC cZ cB cJ) A p s m args meth c) : ∀ (n : Nat), ∀ (x2 : Int32) (x3 : Int32) (ro_size : Int32) (ro_numbers : Nat → Int32) (H : Heap) (locs : List Loc) (ls : Array Slot), (wb_X9_tellLeastMarks_16 post mk_many mk_rows n) x2 x3 ro_size ro_numbers → va_P (dC, dI) classes (wd_X9_tellLeastMarks cI cC cZ cB cJ a_x a_tx a_pl a_ga a_tr a_no a_pa a_ro a_mk a_x_acts a_ro_numbers a_mk_at a_mk_rows ro_size ro_numbers mk_many mk_rows) H → va_D A (wd_X9_tellLeastMarks cI cC cZ cB cJ a_x a_tx a_pl a_ga a_tr a_no a_pa a_ro a_mk a_x_acts a_ro_numbers a_mk_at a_mk_rows ro_size ro_numbers mk_many mk_rows) → va_S A s.heap H locs → lv_has ls 4 [(0, .ref a_x), (2, .int x2), (3, .int x3)] → W p l e rm_X9_tellLeastMarks s m args below meth c H locs 0 0 (MQ below (q_X9_tellLeastMarks dC dI cI cC cZ cB cJ A a_x a_tx a_pl a_ga a_tr a_no a_pa a_ro a_mk a_x_acts a_ro_numbers a_mk_at a_mk_rows mk_many mk_rows post) args s 0 0 A) (F0 m 16 ls []) := by
  intro n
  induction n with
  | zero =>
    intro x2 x3 ro_size ro_numbers H locs ls hp
    exact False.elim hp
  | succ n ih =>
    intro x2 x3 ro_size ro_numbers H locs ls hp
    exact ks_X9_tellLeastMarks_16 C0 ih x2 x3 ro_size ro_numbers H locs ls hp
end S_X9_tellLeastMarks
def wp_X9_tellLeastMarks (post : Int32 → (Nat → Int32) → Prop) (p0 : Int32) (ro_size : Int32) (ro_numbers : Nat → Int32) (mk_many : Int32) (mk_rows : Nat → Int32) : Prop := wp_X6_clear (fun ro_size_1 => (¬ p0 = 0 → ∃ n : Nat, wb_X9_tellLeastMarks_16 post mk_many mk_rows n (-1) 0 ro_size_1 ro_numbers) ∧ (p0 = 0 → post ro_size_1 ro_numbers)) ro_size
set_option maxHeartbeats 4000000 in
set_option maxRecDepth 100000 in
theorem c_X9_tellLeastMarks (l : Launch) (dC : Nat → ClassId) (dI : Nat → Nat → Nat) (cI cC cZ cB cJ : ClassId) (a_x : Nat) (a_tx : Nat) (a_pl : Nat) (a_ga : Nat) (a_tr : Nat) (a_no : Nat) (a_pa : Nat) (a_ro : Nat) (a_mk : Nat) (a_x_acts : Nat) (a_ro_numbers : Nat) (a_mk_at : Nat) (a_mk_rows : Nat) (sz : Nat) (p0 : Int32) (ro_size : Int32) (ro_numbers : Nat → Int32) (mk_many : Int32) (mk_rows : Nat → Int32) (post : Int32 → (Nat → Int32) → Prop) (hw : wp_X9_tellLeastMarks post p0 ro_size ro_numbers mk_many mk_rows) : Met l yX9_tellLeastMarks (gw yX9_tellLeastMarks cX9_tellLeastMarks 4 none) rm_X9_tellLeastMarks (va_Pc [.ref a_x, .int p0] (gPre (dC, dI) (tyl cI cC cZ cB cJ) (wd_X9_tellLeastMarks cI cC cZ cB cJ a_x a_tx a_pl a_ga a_tr a_no a_pa a_ro a_mk a_x_acts a_ro_numbers a_mk_at a_mk_rows ro_size ro_numbers mk_many mk_rows) sz)) (q_X9_tellLeastMarks dC dI cI cC cZ cB cJ (va_A (wd_X9_tellLeastMarks cI cC cZ cB cJ a_x a_tx a_pl a_ga a_tr a_no a_pa a_ro a_mk a_x_acts a_ro_numbers a_mk_at a_mk_rows ro_size ro_numbers mk_many mk_rows) sz) a_x a_tx a_pl a_ga a_tr a_no a_pa a_ro a_mk a_x_acts a_ro_numbers a_mk_at a_mk_rows mk_many mk_rows post) 0 0 (va_A (wd_X9_tellLeastMarks cI cC cZ cB cJ a_x a_tx a_pl a_ga a_tr a_no a_pa a_ro a_mk a_x_acts a_ro_numbers a_mk_at a_mk_rows ro_size ro_numbers mk_many mk_rows) sz) := by
  refine g_enter (own := RX9) (dC, dI) (tyl cI cC cZ cB cJ) (wd_X9_tellLeastMarks cI cC cZ cB cJ a_x a_tx a_pl a_ga a_tr a_no a_pa a_ro a_mk a_x_acts a_ro_numbers a_mk_at a_mk_rows ro_size ro_numbers mk_many mk_rows) sz [.ref a_x, .int p0] (fun A => q_X9_tellLeastMarks dC dI cI cC cZ cB cJ A a_x a_tx a_pl a_ga a_tr a_no a_pa a_ro a_mk a_x_acts a_ro_numbers a_mk_at a_mk_rows mk_many mk_rows post) (by decide) rfl (Nat.le_of_ble_eq_true rfl) ?_
  intro p e s m args below meth c A H locs ls C0 hP hD hS hl
  have hl : lv_has ls 4 [(0, .ref a_x), (1, .int p0)] := hl
  obtain ⟨hx, hb, hr, hml, hown, hts, hlocks, hA, hK, hN, tL, tM, hZL, hTL, hZM, hTM, hZX⟩ := id C0
  have hp := hw
  unfold wp_X9_tellLeastMarks at hp
  refine lv_aload_n hx hb eX9_tellLeastMarks_0.1 rfl (lv_at hl 0 rfl) ?_
  refine va_get (D := (dC, dI)) (ci := 9) (v := .ref a_ro) (C := RX9) (T := TX9) (N := 9) hx hb hts i_X9 hown hK hP 0 rfl rfl 6 (Nat.le_of_ble_eq_true rfl) (hts _ q_363) (fun _ h9 => h9) rfl eX9_tellLeastMarks_0.2.1 ?_
  refine g_callv (wc := (wd_X6_clear cI cC cZ cB cJ a_ro a_ro_numbers ro_size)) hP hD hS hA [1] [0, 2, 3, 4] rfl rfl rfl rfl (g_runV (As := []) (rest := []) C0 hP hD hS [1] rfl rfl 1 6 rfl rfl (c_X6_clear l dC dI cI cC cZ cB cJ a_ro a_ro_numbers H.size ro_size _ hp) q_364 q_368 q_366 q_367 q_365 h_X6_clear rfl rfl ⟨Nat.le_of_ble_eq_true rfl, Nat.le_of_ble_eq_true rfl⟩ rfl rfl hl.1 rfl (lv_room (Nat.le_of_ble_eq_true rfl)) eX9_tellLeastMarks_0.2.2.1 ⟨Nat.zero_le _, Nat.zero_le _⟩) (fun u H locs hp hP hD hS => ?_)
  obtain ⟨ro_size_1, rfl⟩ : ∃ z, z = u := ⟨_, rfl⟩
  have hPD := PDs (ws' := (wd_X9_tellLeastMarks cI cC cZ cB cJ a_x a_tx a_pl a_ga a_tr a_no a_pa a_ro a_mk a_x_acts a_ro_numbers a_mk_at a_mk_rows ro_size_1 ro_numbers mk_many mk_rows)) hP hD [0, 4, 1, 2, 3] (by decide) rfl
  have hP := hPD.1
  have hD := hPD.2
  refine lv_iload_n hx hb eX9_tellLeastMarks_0.2.2.2.1 rfl (lv_at hl 1 rfl) ?_
  refine lv_if_ne (tgt := 12) hx hb eX9_tellLeastMarks_0.2.2.2.2.1 (by decide) (fun hc => ?_) (fun hc => ?_)
  · have hp := hp.1 hc
    refine lv_iconst (v := (-1)) hx hb eX9_tellLeastMarks_0.2.2.2.2.2.2.1 (by decide) ?_
    refine lv_istore_n (lv' := [(2, .int (-1)), (0, .ref a_x), (1, .int p0)]) hx hb eX9_tellLeastMarks_0.2.2.2.2.2.2.2.1 rfl hl (by decide) rfl (fun ls hl => ?_)
    refine lv_iconst (v := 0) hx hb eX9_tellLeastMarks_0.2.2.2.2.2.2.2.2.1 (by decide) ?_
    refine lv_istore_n (lv' := [(3, .int 0), (2, .int (-1)), (0, .ref a_x), (1, .int p0)]) hx hb eX9_tellLeastMarks_0.2.2.2.2.2.2.2.2.2.1 rfl hl (by decide) rfl (fun ls hl => ?_)
    obtain ⟨n9, hp⟩ := hp
    exact kb_X9_tellLeastMarks_16 C0 n9 (-1) 0 ro_size_1 ro_numbers H locs ls hp hP hD hS (lv_sub hl [2, 1, 0] rfl)
  · have hp := hp.2 hc
    exact W.vret hx hb hr (fun t ht hW => ⟨⟨(ro_size_1, ro_numbers), rfl, hp, by rw [ht]; exact hP, va_K.moved hW.alike hK, hD⟩, hS.F ht⟩) hS.2.2 eX9_tellLeastMarks_0.2.2.2.2.2.1
abbrev wd_X9_grass (cI cC cZ cB cJ : ClassId) (a_x : Nat) (a_tx : Nat) (a_pl : Nat) (a_ga : Nat) (a_tr : Nat) (a_no : Nat) (a_pa : Nat) (a_ro : Nat) (a_mk : Nat) (a_x_acts : Nat) (a_tx_signs : Nat) (a_tr_x : Nat) (a_tr_height : Nat) (a_tr_worth : Nat) (a_tr_ripe : Nat) (a_tr_foot : Nat) (a_tr_fork : Nat) (a_tr_settings : Nat) (a_ro_numbers : Nat) (a_mk_at : Nat) (a_mk_rows : Nat) (tx_length : Int32) (tx_place : Int32) (tx_stop : Int32) (tx_signs : Nat → Int32) (tr_fruits : Int32) (tr_standings : Int32) (tr_comingFruits : Int32) (tr_comingStandings : Int32) (tr_foot : Nat → Int32) (ro_size : Int32) (ro_numbers : Nat → Int32) (mk_many : Int32) (mk_at : Nat → Int32) (mk_rows : Nat → Int32) : va_W := [(a_x, .inr (9, [.ref a_tx, .ref a_pl, .ref a_ga, .ref a_tr, .ref a_no, .ref a_pa, .ref a_ro, .ref a_mk, .ref a_x_acts])), (a_tx, .inr (8, [.ref a_tx_signs, .int tx_length, .int tx_place, .int tx_stop])), (a_tx_signs, .inl (cC, 80, .inl tx_signs)), (a_tr, .inr (3, [.ref a_tr_x, .ref a_tr_height, .ref a_tr_worth, .ref a_tr_ripe, .ref a_tr_foot, .ref a_tr_fork, .ref a_tr_settings, .int tr_fruits, .int tr_standings, .int tr_comingFruits, .int tr_comingStandings])), (a_tr_foot, .inl (cI, 8, .inl tr_foot)), (a_ro, .inr (6, [.ref a_ro_numbers, .int ro_size])), (a_ro_numbers, .inl (cI, 16, .inl ro_numbers)), (a_mk, .inr (1, [.ref a_mk_at, .ref a_mk_rows, .int mk_many])), (a_mk_at, .inl (cI, 6, .inl mk_at)), (a_mk_rows, .inl (cI, 48, .inl mk_rows))]
abbrev q_X9_grass (dC : Nat → ClassId) (dI : Nat → Nat → Nat) (cI cC cZ cB cJ : ClassId) (A : Nat → Prop) (a_x : Nat) (a_tx : Nat) (a_pl : Nat) (a_ga : Nat) (a_tr : Nat) (a_no : Nat) (a_pa : Nat) (a_ro : Nat) (a_mk : Nat) (a_x_acts : Nat) (a_tx_signs : Nat) (a_tr_x : Nat) (a_tr_height : Nat) (a_tr_worth : Nat) (a_tr_ripe : Nat) (a_tr_foot : Nat) (a_tr_fork : Nat) (a_tr_settings : Nat) (a_ro_numbers : Nat) (a_mk_at : Nat) (a_mk_rows : Nat) (tx_signs : Nat → Int32) (tr_fruits : Int32) (tr_standings : Int32) (tr_comingFruits : Int32) (tr_comingStandings : Int32) (tr_foot : Nat → Int32) (post : Int32 → Int32 → Int32 → Int32 → Int32 → (Nat → Int32) → Int32 → (Nat → Int32) → (Nat → Int32) → Prop) : Array Value → State → Outcome → State → Prop := va_Qi (fun (r : Int32) (u : Int32 × Int32 × Int32 × Int32 × (Nat → Int32) × Int32 × (Nat → Int32) × (Nat → Int32)) => post r u.1 u.2.1 u.2.2.1 u.2.2.2.1 u.2.2.2.2.1 u.2.2.2.2.2.1 u.2.2.2.2.2.2.1 u.2.2.2.2.2.2.2) (fun u t => gB (dC, dI) (tyl cI cC cZ cB cJ) A (wd_X9_grass cI cC cZ cB cJ a_x a_tx a_pl a_ga a_tr a_no a_pa a_ro a_mk a_x_acts a_tx_signs a_tr_x a_tr_height a_tr_worth a_tr_ripe a_tr_foot a_tr_fork a_tr_settings a_ro_numbers a_mk_at a_mk_rows u.1 u.2.1 u.2.2.1 tx_signs tr_fruits tr_standings tr_comingFruits tr_comingStandings tr_foot u.2.2.2.1 u.2.2.2.2.1 u.2.2.2.2.2.1 u.2.2.2.2.2.2.1 u.2.2.2.2.2.2.2) t) A
abbrev rm_X9_grass : Room := { frames := 3, cells := 0, slots := 0, locals := 73 }
section S_X9_grass
variable {p : Program} {l : Launch} {e : Env} {s : State} {m : MethodId} {args : Array Value} {below : List Frame} {meth : Method} {c : Code} {dC : Nat → ClassId} {dI : Nat → Nat → Nat} {cI cC cZ cB cJ : ClassId} {A : Nat → Prop} {a_x : Nat} {a_tx : Nat} {a_pl : Nat} {a_ga : Nat} {a_tr : Nat} {a_no : Nat} {a_pa : Nat} {a_ro : Nat} {a_mk : Nat} {a_x_acts : Nat} {a_tx_signs : Nat} {a_tr_x : Nat} {a_tr_height : Nat} {a_tr_worth : Nat} {a_tr_ripe : Nat} {a_tr_foot : Nat} {a_tr_fork : Nat} {a_tr_settings : Nat} {a_ro_numbers : Nat} {a_mk_at : Nat} {a_mk_rows : Nat} {tx_signs : Nat → Int32} {tr_fruits : Int32} {tr_standings : Int32} {tr_comingFruits : Int32} {tr_comingStandings : Int32} {tr_foot : Nat → Int32} {post : Int32 → Int32 → Int32 → Int32 → Int32 → (Nat → Int32) → Int32 → (Nat → Int32) → (Nat → Int32) → Prop}
def ws_X9_grass_65 (post : Int32 → Int32 → Int32 → Int32 → Int32 → (Nat → Int32) → Int32 → (Nat → Int32) → (Nat → Int32) → Prop) (tx_signs : Nat → Int32) (tr_standings : Int32) (tr_foot : Nat → Int32) (x2 : Int32) (tx_length : Int32) (tx_place : Int32) (tx_stop : Int32) (ro_size : Int32) (ro_numbers : Nat → Int32) (mk_many : Int32) (mk_at : Nat → Int32) (mk_rows : Nat → Int32) : Prop := wp_X8_clear (fun tx_length_1 => post x2 tx_length_1 tx_place tx_stop ro_size ro_numbers mk_many mk_at mk_rows) tx_length
set_option maxHeartbeats 4000000 in
set_option maxRecDepth 100000 in
theorem ks_X9_grass_65 (C0 : gc cX9_grass (some .int) 3 RX9 (dC, dI) (tyl cI cC cZ cB cJ) A p s m args meth c) : ∀ (x2 : Int32) (tx_length : Int32) (tx_place : Int32) (tx_stop : Int32) (ro_size : Int32) (ro_numbers : Nat → Int32) (mk_many : Int32) (mk_at : Nat → Int32) (mk_rows : Nat → Int32) (H : Heap) (locs : List Loc) (ls : Array Slot), (ws_X9_grass_65 post tx_signs tr_standings tr_foot) x2 tx_length tx_place tx_stop ro_size ro_numbers mk_many mk_at mk_rows → va_P (dC, dI) classes (wd_X9_grass cI cC cZ cB cJ a_x a_tx a_pl a_ga a_tr a_no a_pa a_ro a_mk a_x_acts a_tx_signs a_tr_x a_tr_height a_tr_worth a_tr_ripe a_tr_foot a_tr_fork a_tr_settings a_ro_numbers a_mk_at a_mk_rows tx_length tx_place tx_stop tx_signs tr_fruits tr_standings tr_comingFruits tr_comingStandings tr_foot ro_size ro_numbers mk_many mk_at mk_rows) H → va_D A (wd_X9_grass cI cC cZ cB cJ a_x a_tx a_pl a_ga a_tr a_no a_pa a_ro a_mk a_x_acts a_tx_signs a_tr_x a_tr_height a_tr_worth a_tr_ripe a_tr_foot a_tr_fork a_tr_settings a_ro_numbers a_mk_at a_mk_rows tx_length tx_place tx_stop tx_signs tr_fruits tr_standings tr_comingFruits tr_comingStandings tr_foot ro_size ro_numbers mk_many mk_at mk_rows) → va_S A s.heap H locs → lv_has ls 3 [(0, .ref a_x), (2, .int x2)] → W p l e rm_X9_grass s m args below meth c H locs 0 0 (MQ below (q_X9_grass dC dI cI cC cZ cB cJ A a_x a_tx a_pl a_ga a_tr a_no a_pa a_ro a_mk a_x_acts a_tx_signs a_tr_x a_tr_height a_tr_worth a_tr_ripe a_tr_foot a_tr_fork a_tr_settings a_ro_numbers a_mk_at a_mk_rows tx_signs tr_fruits tr_standings tr_comingFruits tr_comingStandings tr_foot post) args s 0 0 A) (F0 m 65 ls []) := by
  obtain ⟨hx, hb, hr, hml, hown, hts, hlocks, hA, hK, hN, tL, tM, hZL, hTL, hZM, hTM, hZX⟩ := id C0
  intro x2 tx_length tx_place tx_stop ro_size ro_numbers mk_many mk_at mk_rows H locs ls hp hP hD hS hl
  unfold ws_X9_grass_65 at hp
  refine lv_aload_n hx hb eX9_grass_65.1 rfl (lv_at hl 0 rfl) ?_
  refine va_get (D := (dC, dI)) (ci := 9) (v := .ref a_tx) (C := RX9) (T := TX9) (N := 9) hx hb hts i_X9 hown hK hP 0 rfl rfl 0 (Nat.le_of_ble_eq_true rfl) (hts _ q_3) (fun _ h9 => h9) rfl eX9_grass_65.2.1 ?_
  refine g_callv (wc := (wd_X8_clear cI cC cZ cB cJ a_tx a_tx_signs tx_length tx_place tx_stop)) hP hD hS hA [1] [0, 2, 3, 4, 5, 6, 7, 8, 9] rfl rfl rfl rfl (g_runV (As := []) (rest := []) C0 hP hD hS [1] rfl rfl 1 8 rfl rfl (c_X8_clear l dC dI cI cC cZ cB cJ a_tx a_tx_signs H.size tx_length tx_place tx_stop _ hp) q_83 q_86 q_84 q_85 q_5 h_X8_clear rfl rfl ⟨Nat.le_of_ble_eq_true rfl, Nat.le_of_ble_eq_true rfl⟩ rfl rfl hl.1 rfl (lv_room (Nat.le_of_ble_eq_true rfl)) eX9_grass_65.2.2.1 ⟨Nat.zero_le _, Nat.zero_le _⟩) (fun u H locs hp hP hD hS => ?_)
  obtain ⟨tx_length_1, rfl⟩ : ∃ z, z = u := ⟨_, rfl⟩
  have hPD := PDs (ws' := (wd_X9_grass cI cC cZ cB cJ a_x a_tx a_pl a_ga a_tr a_no a_pa a_ro a_mk a_x_acts a_tx_signs a_tr_x a_tr_height a_tr_worth a_tr_ripe a_tr_foot a_tr_fork a_tr_settings a_ro_numbers a_mk_at a_mk_rows tx_length_1 tx_place tx_stop tx_signs tr_fruits tr_standings tr_comingFruits tr_comingStandings tr_foot ro_size ro_numbers mk_many mk_at mk_rows)) hP hD [0, 9, 1, 2, 3, 4, 5, 6, 7, 8] (by decide) rfl
  have hP := hPD.1
  have hD := hPD.2
  refine lv_iload_n hx hb eX9_grass_65.2.2.2.1 rfl (lv_at hl 1 rfl) ?_
  exact W.iret (v := x2) hx hb hr (fun t ht hW => ⟨⟨x2, (tx_length_1, tx_place, tx_stop, ro_size, ro_numbers, mk_many, mk_at, mk_rows), rfl, hp, by rw [ht]; exact hP, va_K.moved hW.alike hK, hD⟩, hS.F ht⟩) hS.2.2 eX9_grass_65.2.2.2.2
end S_X9_grass
def wp_X9_grass (post : Int32 → Int32 → Int32 → Int32 → Int32 → (Nat → Int32) → Int32 → (Nat → Int32) → (Nat → Int32) → Prop) (p0 : Int32) (tx_length : Int32) (tx_place : Int32) (tx_stop : Int32) (tx_signs : Nat → Int32) (tr_standings : Int32) (tr_foot : Nat → Int32) (ro_size : Int32) (ro_numbers : Nat → Int32) (mk_many : Int32) (mk_at : Nat → Int32) (mk_rows : Nat → Int32) : Prop := (p0 < 0 → ws_X9_grass_65 post tx_signs tr_standings tr_foot (-100) tx_length tx_place tx_stop ro_size ro_numbers mk_many mk_at mk_rows) ∧ (¬ p0 < 0 → (99 < p0 → ws_X9_grass_65 post tx_signs tr_standings tr_foot (-100) tx_length tx_place tx_stop ro_size ro_numbers mk_many mk_at mk_rows) ∧ (¬ 99 < p0 → wp_X8_open (fun tx_place_2 tx_stop_3 => wp_X1_readAll (fun r_4 tx_place_5 mk_many_6 mk_at_7 => (r_4 = 0 → wp_X8_wrong (fun r_8 => ws_X9_grass_65 post tx_signs tr_standings tr_foot r_8 tx_length tx_place_5 tx_stop_3 ro_size ro_numbers mk_many_6 mk_at_7 mk_rows) tx_place_5) ∧ (¬ r_4 = 0 → wp_X1_countRows (fun r_9 mk_rows_10 => wp_X9_tellLeastMarks (fun ro_size_11 ro_numbers_12 => ws_X9_grass_65 post tx_signs tr_standings tr_foot r_9 tx_length tx_place_5 tx_stop_3 ro_size_11 ro_numbers_12 mk_many_6 mk_at_7 mk_rows_10) r_9 ro_size ro_numbers mk_many_6 mk_rows_10) p0 tr_standings tr_foot mk_many_6 mk_at_7 mk_rows)) tx_length tx_place_2 tx_stop_3 tx_signs mk_many mk_at) 80 tx_length tx_place tx_stop))
set_option maxHeartbeats 4000000 in
set_option maxRecDepth 100000 in
theorem c_X9_grass (l : Launch) (dC : Nat → ClassId) (dI : Nat → Nat → Nat) (cI cC cZ cB cJ : ClassId) (a_x : Nat) (a_tx : Nat) (a_pl : Nat) (a_ga : Nat) (a_tr : Nat) (a_no : Nat) (a_pa : Nat) (a_ro : Nat) (a_mk : Nat) (a_x_acts : Nat) (a_tx_signs : Nat) (a_tr_x : Nat) (a_tr_height : Nat) (a_tr_worth : Nat) (a_tr_ripe : Nat) (a_tr_foot : Nat) (a_tr_fork : Nat) (a_tr_settings : Nat) (a_ro_numbers : Nat) (a_mk_at : Nat) (a_mk_rows : Nat) (sz : Nat) (p0 : Int32) (tx_length : Int32) (tx_place : Int32) (tx_stop : Int32) (tx_signs : Nat → Int32) (tr_fruits : Int32) (tr_standings : Int32) (tr_comingFruits : Int32) (tr_comingStandings : Int32) (tr_foot : Nat → Int32) (ro_size : Int32) (ro_numbers : Nat → Int32) (mk_many : Int32) (mk_at : Nat → Int32) (mk_rows : Nat → Int32) (post : Int32 → Int32 → Int32 → Int32 → Int32 → (Nat → Int32) → Int32 → (Nat → Int32) → (Nat → Int32) → Prop) (hw : wp_X9_grass post p0 tx_length tx_place tx_stop tx_signs tr_standings tr_foot ro_size ro_numbers mk_many mk_at mk_rows) : Met l yX9_grass (gw yX9_grass cX9_grass 3 (some .int)) rm_X9_grass (va_Pc [.ref a_x, .int p0] (gPre (dC, dI) (tyl cI cC cZ cB cJ) (wd_X9_grass cI cC cZ cB cJ a_x a_tx a_pl a_ga a_tr a_no a_pa a_ro a_mk a_x_acts a_tx_signs a_tr_x a_tr_height a_tr_worth a_tr_ripe a_tr_foot a_tr_fork a_tr_settings a_ro_numbers a_mk_at a_mk_rows tx_length tx_place tx_stop tx_signs tr_fruits tr_standings tr_comingFruits tr_comingStandings tr_foot ro_size ro_numbers mk_many mk_at mk_rows) sz)) (q_X9_grass dC dI cI cC cZ cB cJ (va_A (wd_X9_grass cI cC cZ cB cJ a_x a_tx a_pl a_ga a_tr a_no a_pa a_ro a_mk a_x_acts a_tx_signs a_tr_x a_tr_height a_tr_worth a_tr_ripe a_tr_foot a_tr_fork a_tr_settings a_ro_numbers a_mk_at a_mk_rows tx_length tx_place tx_stop tx_signs tr_fruits tr_standings tr_comingFruits tr_comingStandings tr_foot ro_size ro_numbers mk_many mk_at mk_rows) sz) a_x a_tx a_pl a_ga a_tr a_no a_pa a_ro a_mk a_x_acts a_tx_signs a_tr_x a_tr_height a_tr_worth a_tr_ripe a_tr_foot a_tr_fork a_tr_settings a_ro_numbers a_mk_at a_mk_rows tx_signs tr_fruits tr_standings tr_comingFruits tr_comingStandings tr_foot post) 0 0 (va_A (wd_X9_grass cI cC cZ cB cJ a_x a_tx a_pl a_ga a_tr a_no a_pa a_ro a_mk a_x_acts a_tx_signs a_tr_x a_tr_height a_tr_worth a_tr_ripe a_tr_foot a_tr_fork a_tr_settings a_ro_numbers a_mk_at a_mk_rows tx_length tx_place tx_stop tx_signs tr_fruits tr_standings tr_comingFruits tr_comingStandings tr_foot ro_size ro_numbers mk_many mk_at mk_rows) sz) := by
  refine g_enter (own := RX9) (dC, dI) (tyl cI cC cZ cB cJ) (wd_X9_grass cI cC cZ cB cJ a_x a_tx a_pl a_ga a_tr a_no a_pa a_ro a_mk a_x_acts a_tx_signs a_tr_x a_tr_height a_tr_worth a_tr_ripe a_tr_foot a_tr_fork a_tr_settings a_ro_numbers a_mk_at a_mk_rows tx_length tx_place tx_stop tx_signs tr_fruits tr_standings tr_comingFruits tr_comingStandings tr_foot ro_size ro_numbers mk_many mk_at mk_rows) sz [.ref a_x, .int p0] (fun A => q_X9_grass dC dI cI cC cZ cB cJ A a_x a_tx a_pl a_ga a_tr a_no a_pa a_ro a_mk a_x_acts a_tx_signs a_tr_x a_tr_height a_tr_worth a_tr_ripe a_tr_foot a_tr_fork a_tr_settings a_ro_numbers a_mk_at a_mk_rows tx_signs tr_fruits tr_standings tr_comingFruits tr_comingStandings tr_foot post) (by decide) rfl (Nat.le_of_ble_eq_true rfl) ?_
  intro p e s m args below meth c A H locs ls C0 hP hD hS hl
  have hl : lv_has ls 3 [(0, .ref a_x), (1, .int p0)] := hl
  obtain ⟨hx, hb, hr, hml, hown, hts, hlocks, hA, hK, hN, tL, tM, hZL, hTL, hZM, hTM, hZX⟩ := id C0
  have hp := hw
  unfold wp_X9_grass at hp
  refine lv_bipush (v := (-100)) hx hb eX9_grass_0.1 (by decide) ?_
  refine lv_istore_n (lv' := [(2, .int (-100)), (0, .ref a_x), (1, .int p0)]) hx hb eX9_grass_0.2.1 rfl hl (by decide) rfl (fun ls hl => ?_)
  refine lv_iload_n hx hb eX9_grass_0.2.2.1 rfl (lv_at hl 2 rfl) ?_
  refine lv_if_lt (tgt := 65) hx hb eX9_grass_0.2.2.2.1 (by decide) (fun hc => ?_) (fun hc => ?_)
  · have hp := hp.1 hc
    exact ks_X9_grass_65 C0 (-100) tx_length tx_place tx_stop ro_size ro_numbers mk_many mk_at mk_rows H locs ls hp hP hD hS (lv_sub hl [1, 0] rfl)
  · have hp := hp.2 hc
    refine lv_iload_n hx hb eX9_grass_0.2.2.2.2.1 rfl (lv_at hl 2 rfl) ?_
    refine lv_bipush (v := 99) hx hb eX9_grass_0.2.2.2.2.2.1 (by decide) ?_
    refine lv_icmp_gt (tgt := 65) hx hb eX9_grass_0.2.2.2.2.2.2.1 (by decide) (fun hc => ?_) (fun hc => ?_)
    · have hp := hp.1 hc
      exact ks_X9_grass_65 C0 (-100) tx_length tx_place tx_stop ro_size ro_numbers mk_many mk_at mk_rows H locs ls hp hP hD hS (lv_sub hl [1, 0] rfl)
    · have hp := hp.2 hc
      refine lv_aload_n hx hb eX9_grass_0.2.2.2.2.2.2.2.1 rfl (lv_at hl 1 rfl) ?_
      refine va_get (D := (dC, dI)) (ci := 9) (v := .ref a_tx) (C := RX9) (T := TX9) (N := 9) hx hb hts i_X9 hown hK hP 0 rfl rfl 0 (Nat.le_of_ble_eq_true rfl) (hts _ q_3) (fun _ h9 => h9) rfl eX9_grass_0.2.2.2.2.2.2.2.2.1 ?_
      refine lv_bipush (v := 80) hx hb eX9_grass_0.2.2.2.2.2.2.2.2.2.1 (by decide) ?_
      refine g_callv (wc := (wd_X8_open cI cC cZ cB cJ a_tx a_tx_signs tx_length tx_place tx_stop)) hP hD hS hA [1] [0, 2, 3, 4, 5, 6, 7, 8, 9] rfl rfl rfl rfl (g_runV (As := [.int 80]) (rest := []) C0 hP hD hS [1] rfl rfl 1 8 rfl rfl (c_X8_open l dC dI cI cC cZ cB cJ a_tx a_tx_signs H.size 80 tx_length tx_place tx_stop _ hp) q_69 q_72 q_70 q_71 q_5 h_X8_open rfl rfl ⟨Nat.le_of_ble_eq_true rfl, Nat.le_of_ble_eq_true rfl⟩ rfl rfl hl.1 rfl (lv_room (Nat.le_of_ble_eq_true rfl)) eX9_grass_0.2.2.2.2.2.2.2.2.2.2.1 ⟨Nat.zero_le _, Nat.zero_le _⟩) (fun u H locs hp hP hD hS => ?_)
      obtain ⟨tx_place_2, tx_stop_3⟩ := u
      have hPD := PDs (ws' := (wd_X9_grass cI cC cZ cB cJ a_x a_tx a_pl a_ga a_tr a_no a_pa a_ro a_mk a_x_acts a_tx_signs a_tr_x a_tr_height a_tr_worth a_tr_ripe a_tr_foot a_tr_fork a_tr_settings a_ro_numbers a_mk_at a_mk_rows tx_length tx_place_2 tx_stop_3 tx_signs tr_fruits tr_standings tr_comingFruits tr_comingStandings tr_foot ro_size ro_numbers mk_many mk_at mk_rows)) hP hD [0, 9, 1, 2, 3, 4, 5, 6, 7, 8] (by decide) rfl
      have hP := hPD.1
      have hD := hPD.2
      refine lv_aload_n hx hb eX9_grass_0.2.2.2.2.2.2.2.2.2.2.2.1 rfl (lv_at hl 1 rfl) ?_
      refine va_get (D := (dC, dI)) (ci := 9) (v := .ref a_mk) (C := RX9) (T := TX9) (N := 9) hx hb hts i_X9 hown hK hP 0 rfl rfl 7 (Nat.le_of_ble_eq_true rfl) (hts _ q_599) (fun _ h9 => h9) rfl eX9_grass_0.2.2.2.2.2.2.2.2.2.2.2.2.1 ?_
      refine lv_aload_n hx hb eX9_grass_0.2.2.2.2.2.2.2.2.2.2.2.2.2.1 rfl (lv_at hl 1 rfl) ?_
      refine va_get (D := (dC, dI)) (ci := 9) (v := .ref a_tx) (C := RX9) (T := TX9) (N := 9) hx hb hts i_X9 hown hK hP 0 rfl rfl 0 (Nat.le_of_ble_eq_true rfl) (hts _ q_3) (fun _ h9 => h9) rfl eX9_grass_0.2.2.2.2.2.2.2.2.2.2.2.2.2.2.1 ?_
      refine g_calli (wc := (wd_X1_readAll cI cC cZ cB cJ a_tx a_tx_signs a_mk a_mk_at a_mk_rows tx_length tx_place_2 tx_stop_3 tx_signs mk_many mk_at)) hP hD hS hA [1, 2, 7, 8] [0, 3, 4, 5, 6, 9] rfl rfl rfl rfl (g_runV (As := [.ref a_tx]) (rest := []) C0 hP hD hS [1, 2, 7, 8] rfl rfl 7 1 rfl rfl (c_X1_readAll l dC dI cI cC cZ cB cJ a_tx a_tx_signs a_mk a_mk_at a_mk_rows H.size tx_length tx_place_2 tx_stop_3 tx_signs mk_many mk_at _ hp) q_606 q_609 q_607 q_608 q_602 h_X1_readAll rfl rfl ⟨Nat.le_of_ble_eq_true rfl, Nat.le_of_ble_eq_true rfl⟩ rfl rfl hl.1 rfl (lv_room (Nat.le_of_ble_eq_true rfl)) eX9_grass_0.2.2.2.2.2.2.2.2.2.2.2.2.2.2.2 ⟨Nat.zero_le _, Nat.zero_le _⟩) (fun r_4 u H locs hp hP hD hS => ?_)
      obtain ⟨tx_place_5, mk_many_6, mk_at_7⟩ := u
      have hPD := PDs (ws' := (wd_X9_grass cI cC cZ cB cJ a_x a_tx a_pl a_ga a_tr a_no a_pa a_ro a_mk a_x_acts a_tx_signs a_tr_x a_tr_height a_tr_worth a_tr_ripe a_tr_foot a_tr_fork a_tr_settings a_ro_numbers a_mk_at a_mk_rows tx_length tx_place_5 tx_stop_3 tx_signs tr_fruits tr_standings tr_comingFruits tr_comingStandings tr_foot ro_size ro_numbers mk_many_6 mk_at_7 mk_rows)) hP hD [0, 6, 7, 1, 2, 3, 4, 8, 9, 5] (by decide) rfl
      have hP := hPD.1
      have hD := hPD.2
      refine lv_if_eq (tgt := 57) hx hb eX9_grass_33.1 (by decide) (fun hc => ?_) (fun hc => ?_)
      · have hp := hp.1 hc
        refine lv_aload_n hx hb eX9_grass_33.2.2.2.2.2.2.2.2.2.2.2.2.1 rfl (lv_at hl 1 rfl) ?_
        refine va_get (D := (dC, dI)) (ci := 9) (v := .ref a_tx) (C := RX9) (T := TX9) (N := 9) hx hb hts i_X9 hown hK hP 0 rfl rfl 0 (Nat.le_of_ble_eq_true rfl) (hts _ q_3) (fun _ h9 => h9) rfl eX9_grass_33.2.2.2.2.2.2.2.2.2.2.2.2.2.1 ?_
        refine g_calli (wc := (wd_X8_wrong cI cC cZ cB cJ a_tx a_tx_signs tx_length tx_place_5 tx_stop_3)) hP hD hS hA [1] [0, 2, 3, 4, 5, 6, 7, 8, 9] rfl rfl rfl rfl (g_runV (As := []) (rest := []) C0 hP hD hS [1] rfl rfl 1 8 rfl rfl (c_X8_wrong l dC dI cI cC cZ cB cJ a_tx a_tx_signs H.size tx_length tx_place_5 tx_stop_3 _ hp) q_79 q_82 q_80 q_81 q_5 h_X8_wrong rfl rfl ⟨Nat.le_of_ble_eq_true rfl, Nat.le_of_ble_eq_true rfl⟩ rfl rfl hl.1 rfl (lv_room (Nat.le_of_ble_eq_true rfl)) eX9_grass_33.2.2.2.2.2.2.2.2.2.2.2.2.2.2.1 ⟨Nat.zero_le _, Nat.zero_le _⟩) (fun r_8 u H locs hp hP hD hS => ?_)
        have hPD := PDs (ws' := (wd_X9_grass cI cC cZ cB cJ a_x a_tx a_pl a_ga a_tr a_no a_pa a_ro a_mk a_x_acts a_tx_signs a_tr_x a_tr_height a_tr_worth a_tr_ripe a_tr_foot a_tr_fork a_tr_settings a_ro_numbers a_mk_at a_mk_rows tx_length tx_place_5 tx_stop_3 tx_signs tr_fruits tr_standings tr_comingFruits tr_comingStandings tr_foot ro_size ro_numbers mk_many_6 mk_at_7 mk_rows)) hP hD [0, 9, 1, 2, 3, 4, 5, 6, 7, 8] (by decide) rfl
        have hP := hPD.1
        have hD := hPD.2
        refine lv_istore_n (lv' := [(2, .int r_8), (0, .ref a_x), (1, .int p0)]) hx hb eX9_grass_33.2.2.2.2.2.2.2.2.2.2.2.2.2.2.2 rfl hl (by decide) rfl (fun ls hl => ?_)
        exact ks_X9_grass_65 C0 r_8 tx_length tx_place_5 tx_stop_3 ro_size ro_numbers mk_many_6 mk_at_7 mk_rows H locs ls hp hP hD hS (lv_sub hl [1, 0] rfl)
      · have hp := hp.2 hc
        refine lv_aload_n hx hb eX9_grass_33.2.1 rfl (lv_at hl 1 rfl) ?_
        refine va_get (D := (dC, dI)) (ci := 9) (v := .ref a_mk) (C := RX9) (T := TX9) (N := 9) hx hb hts i_X9 hown hK hP 0 rfl rfl 7 (Nat.le_of_ble_eq_true rfl) (hts _ q_599) (fun _ h9 => h9) rfl eX9_grass_33.2.2.1 ?_
        refine lv_aload_n hx hb eX9_grass_33.2.2.2.1 rfl (lv_at hl 1 rfl) ?_
        refine va_get (D := (dC, dI)) (ci := 9) (v := .ref a_tr) (C := RX9) (T := TX9) (N := 9) hx hb hts i_X9 hown hK hP 0 rfl rfl 3 (Nat.le_of_ble_eq_true rfl) (hts _ q_74) (fun _ h9 => h9) rfl eX9_grass_33.2.2.2.2.1 ?_
        refine lv_iload_n hx hb eX9_grass_33.2.2.2.2.2.1 rfl (lv_at hl 2 rfl) ?_
        refine g_calli (wc := (wd_X1_countRows cI cC cZ cB cJ a_tr a_tr_x a_tr_height a_tr_worth a_tr_ripe a_tr_foot a_tr_fork a_tr_settings a_mk a_mk_at a_mk_rows tr_fruits tr_standings tr_comingFruits tr_comingStandings tr_foot mk_many_6 mk_at_7 mk_rows)) hP hD hS hA [3, 4, 7, 8, 9] [0, 1, 2, 5, 6] rfl rfl rfl rfl (g_runV (As := [.ref a_tr, .int p0]) (rest := []) C0 hP hD hS [3, 4, 7, 8, 9] rfl rfl 7 1 rfl rfl (c_X1_countRows l dC dI cI cC cZ cB cJ a_tr a_tr_x a_tr_height a_tr_worth a_tr_ripe a_tr_foot a_tr_fork a_tr_settings a_mk a_mk_at a_mk_rows H.size p0 tr_fruits tr_standings tr_comingFruits tr_comingStandings tr_foot mk_many_6 mk_at_7 mk_rows _ hp) q_610 q_613 q_611 q_612 q_602 h_X1_countRows rfl rfl ⟨Nat.le_of_ble_eq_true rfl, Nat.le_of_ble_eq_true rfl⟩ rfl rfl hl.1 rfl (lv_room (Nat.le_of_ble_eq_true rfl)) eX9_grass_33.2.2.2.2.2.2.1 ⟨Nat.zero_le _, Nat.zero_le _⟩) (fun r_9 u H locs hp hP hD hS => ?_)
        obtain ⟨mk_rows_10, rfl⟩ : ∃ z, z = u := ⟨_, rfl⟩
        have hPD := PDs (ws' := (wd_X9_grass cI cC cZ cB cJ a_x a_tx a_pl a_ga a_tr a_no a_pa a_ro a_mk a_x_acts a_tx_signs a_tr_x a_tr_height a_tr_worth a_tr_ripe a_tr_foot a_tr_fork a_tr_settings a_ro_numbers a_mk_at a_mk_rows tx_length tx_place_5 tx_stop_3 tx_signs tr_fruits tr_standings tr_comingFruits tr_comingStandings tr_foot ro_size ro_numbers mk_many_6 mk_at_7 mk_rows_10)) hP hD [0, 1, 2, 5, 6, 3, 4, 7, 8, 9] (by decide) rfl
        have hP := hPD.1
        have hD := hPD.2
        refine lv_istore_n (lv' := [(2, .int r_9), (0, .ref a_x), (1, .int p0)]) hx hb eX9_grass_33.2.2.2.2.2.2.2.1 rfl hl (by decide) rfl (fun ls hl => ?_)
        refine lv_aload_n hx hb eX9_grass_33.2.2.2.2.2.2.2.2.1 rfl (lv_at hl 1 rfl) ?_
        refine lv_iload_n hx hb eX9_grass_33.2.2.2.2.2.2.2.2.2.1 rfl (lv_at hl 0 rfl) ?_
        refine g_callv (wc := (wd_X9_tellLeastMarks cI cC cZ cB cJ a_x a_tx a_pl a_ga a_tr a_no a_pa a_ro a_mk a_x_acts a_ro_numbers a_mk_at a_mk_rows ro_size ro_numbers mk_many_6 mk_rows_10)) hP hD hS hA [0, 5, 6, 7, 9] [1, 2, 3, 4, 8] rfl rfl rfl rfl (g_runV (As := [.int r_9]) (rest := []) C0 hP hD hS [0, 5, 6, 7, 9] rfl rfl 0 9 rfl rfl (c_X9_tellLeastMarks l dC dI cI cC cZ cB cJ a_x a_tx a_pl a_ga a_tr a_no a_pa a_ro a_mk a_x_acts a_ro_numbers a_mk_at a_mk_rows H.size r_9 ro_size ro_numbers mk_many_6 mk_rows_10 _ hp) q_614 q_617 q_615 q_616 q_256 h_X9_tellLeastMarks rfl rfl ⟨Nat.le_of_ble_eq_true rfl, Nat.le_of_ble_eq_true rfl⟩ rfl rfl hl.1 rfl (lv_room (Nat.le_of_ble_eq_true rfl)) eX9_grass_33.2.2.2.2.2.2.2.2.2.2.1 ⟨Nat.zero_le _, Nat.zero_le _⟩) (fun u H locs hp hP hD hS => ?_)
        obtain ⟨ro_size_11, ro_numbers_12⟩ := u
        have hPD := PDs (ws' := (wd_X9_grass cI cC cZ cB cJ a_x a_tx a_pl a_ga a_tr a_no a_pa a_ro a_mk a_x_acts a_tx_signs a_tr_x a_tr_height a_tr_worth a_tr_ripe a_tr_foot a_tr_fork a_tr_settings a_ro_numbers a_mk_at a_mk_rows tx_length tx_place_5 tx_stop_3 tx_signs tr_fruits tr_standings tr_comingFruits tr_comingStandings tr_foot ro_size_11 ro_numbers_12 mk_many_6 mk_at_7 mk_rows_10)) hP hD [5, 0, 1, 2, 3, 6, 7, 8, 4, 9] (by decide) rfl
        have hP := hPD.1
        have hD := hPD.2
        refine lv_goto (tgt := 65) hx hb eX9_grass_33.2.2.2.2.2.2.2.2.2.2.2.1 (by decide) ?_
        exact ks_X9_grass_65 C0 r_9 tx_length tx_place_5 tx_stop_3 ro_size_11 ro_numbers_12 mk_many_6 mk_at_7 mk_rows_10 H locs ls hp hP hD hS (lv_sub hl [1, 0] rfl)
abbrev wd_X5_isFitting (cI cC cZ cB cJ : ClassId) (a_pl : Nat) (a_ga : Nat) (a_tr : Nat) (a_pl_near : Nat) (a_pl_seconds : Nat) (a_pl_many : Nat) (a_pl_load : Nat) (a_pl_best : Nat) (a_tr_x : Nat) (a_tr_height : Nat) (a_tr_worth : Nat) (a_tr_ripe : Nat) (a_tr_foot : Nat) (a_tr_fork : Nat) (a_tr_settings : Nat) (pl_wanted : Int32) (pl_moves : Int32) (pl_picking : Int32) (pl_downs : Int32) (pl_near : Nat → Int32) (tr_fruits : Int32) (tr_standings : Int32) (tr_comingFruits : Int32) (tr_comingStandings : Int32) : va_W := [(a_pl, .inr (5, [.ref a_ga, .ref a_tr, .ref a_pl_near, .ref a_pl_seconds, .ref a_pl_many, .ref a_pl_load, .ref a_pl_best, .int pl_wanted, .int pl_moves, .int pl_picking, .int pl_downs])), (a_pl_near, .inl (cI, 8, .inl pl_near)), (a_tr, .inr (3, [.ref a_tr_x, .ref a_tr_height, .ref a_tr_worth, .ref a_tr_ripe, .ref a_tr_foot, .ref a_tr_fork, .ref a_tr_settings, .int tr_fruits, .int tr_standings, .int tr_comingFruits, .int tr_comingStandings]))]
abbrev q_X5_isFitting (dC : Nat → ClassId) (dI : Nat → Nat → Nat) (cI cC cZ cB cJ : ClassId) (A : Nat → Prop) (a_pl : Nat) (a_ga : Nat) (a_tr : Nat) (a_pl_near : Nat) (a_pl_seconds : Nat) (a_pl_many : Nat) (a_pl_load : Nat) (a_pl_best : Nat) (a_tr_x : Nat) (a_tr_height : Nat) (a_tr_worth : Nat) (a_tr_ripe : Nat) (a_tr_foot : Nat) (a_tr_fork : Nat) (a_tr_settings : Nat) (pl_wanted : Int32) (pl_moves : Int32) (pl_picking : Int32) (pl_downs : Int32) (pl_near : Nat → Int32) (tr_fruits : Int32) (tr_standings : Int32) (tr_comingFruits : Int32) (tr_comingStandings : Int32) (post : Int32 → Prop) : Array Value → State → Outcome → State → Prop := va_Qi (fun (r : Int32) (u : Unit) => post r) (fun u t => gB (dC, dI) (tyl cI cC cZ cB cJ) A (wd_X5_isFitting cI cC cZ cB cJ a_pl a_ga a_tr a_pl_near a_pl_seconds a_pl_many a_pl_load a_pl_best a_tr_x a_tr_height a_tr_worth a_tr_ripe a_tr_foot a_tr_fork a_tr_settings pl_wanted pl_moves pl_picking pl_downs pl_near tr_fruits tr_standings tr_comingFruits tr_comingStandings) t) A
abbrev rm_X5_isFitting : Room := { frames := 1, cells := 0, slots := 0, locals := 23 }
section S_X5_isFitting
variable {p : Program} {l : Launch} {e : Env} {s : State} {m : MethodId} {args : Array Value} {below : List Frame} {meth : Method} {c : Code} {dC : Nat → ClassId} {dI : Nat → Nat → Nat} {cI cC cZ cB cJ : ClassId} {A : Nat → Prop} {a_pl : Nat} {a_ga : Nat} {a_tr : Nat} {a_pl_near : Nat} {a_pl_seconds : Nat} {a_pl_many : Nat} {a_pl_load : Nat} {a_pl_best : Nat} {a_tr_x : Nat} {a_tr_height : Nat} {a_tr_worth : Nat} {a_tr_ripe : Nat} {a_tr_foot : Nat} {a_tr_fork : Nat} {a_tr_settings : Nat} {pl_wanted : Int32} {pl_moves : Int32} {pl_picking : Int32} {pl_downs : Int32} {pl_near : Nat → Int32} {tr_fruits : Int32} {tr_standings : Int32} {tr_comingFruits : Int32} {tr_comingStandings : Int32} {post : Int32 → Prop}
def ws_X5_isFitting_34 (post : Int32 → Prop) (K2 : Int32 → Int32 → Int32 → Prop) (pl_near : Nat → Int32) (tr_standings : Int32) (x1 : Int32) (x2 : Int32) (x3 : Int32) : Prop := ∀ v_3 : Int32, v_3 = x3 + 1 → K2 x1 x2 v_3
set_option maxHeartbeats 4000000 in
set_option maxRecDepth 100000 in
theorem ks_X5_isFitting_34 (C0 : gc cX5_isFitting (some .boolean) 4 RX5 (dC, dI) (tyl cI cC cZ cB cJ) A p s m args meth c) {K2 : Int32 → Int32 → Int32 → Prop} (hK2 : ∀ (x1 : Int32) (x2 : Int32) (x3 : Int32) (H : Heap) (locs : List Loc) (ls : Array Slot), K2 x1 x2 x3 → va_P (dC, dI) classes (wd_X5_isFitting cI cC cZ cB cJ a_pl a_ga a_tr a_pl_near a_pl_seconds a_pl_many a_pl_load a_pl_best a_tr_x a_tr_height a_tr_worth a_tr_ripe a_tr_foot a_tr_fork a_tr_settings pl_wanted pl_moves pl_picking pl_downs pl_near tr_fruits tr_standings tr_comingFruits tr_comingStandings) H → va_D A (wd_X5_isFitting cI cC cZ cB cJ a_pl a_ga a_tr a_pl_near a_pl_seconds a_pl_many a_pl_load a_pl_best a_tr_x a_tr_height a_tr_worth a_tr_ripe a_tr_foot a_tr_fork a_tr_settings pl_wanted pl_moves pl_picking pl_downs pl_near tr_fruits tr_standings tr_comingFruits tr_comingStandings) → va_S A s.heap H locs → lv_has ls 4 [(0, .ref a_pl), (1, .int x1), (2, .int x2), (3, .int x3)] → W p l e rm_X5_isFitting s m args below meth c H locs 0 0 (MQ below (q_X5_isFitting dC dI cI cC cZ cB cJ A a_pl a_ga a_tr a_pl_near a_pl_seconds a_pl_many a_pl_load a_pl_best a_tr_x a_tr_height a_tr_worth a_tr_ripe a_tr_foot a_tr_fork a_tr_settings pl_wanted pl_moves pl_picking pl_downs pl_near tr_fruits tr_standings tr_comingFruits tr_comingStandings post) args s 0 0 A) (F0 m 2 ls [])) : ∀ (x1 : Int32) (x2 : Int32) (x3 : Int32) (H : Heap) (locs : List Loc) (ls : Array Slot), (ws_X5_isFitting_34 post K2 pl_near tr_standings) x1 x2 x3 → va_P (dC, dI) classes (wd_X5_isFitting cI cC cZ cB cJ a_pl a_ga a_tr a_pl_near a_pl_seconds a_pl_many a_pl_load a_pl_best a_tr_x a_tr_height a_tr_worth a_tr_ripe a_tr_foot a_tr_fork a_tr_settings pl_wanted pl_moves pl_picking pl_downs pl_near tr_fruits tr_standings tr_comingFruits tr_comingStandings) H → va_D A (wd_X5_isFitting cI cC cZ cB cJ a_pl a_ga a_tr a_pl_near a_pl_seconds a_pl_many a_pl_load a_pl_best a_tr_x a_tr_height a_tr_worth a_tr_ripe a_tr_foot a_tr_fork a_tr_settings pl_wanted pl_moves pl_picking pl_downs pl_near tr_fruits tr_standings tr_comingFruits tr_comingStandings) → va_S A s.heap H locs → lv_has ls 4 [(0, .ref a_pl), (1, .int x1), (2, .int x2), (3, .int x3)] → W p l e rm_X5_isFitting s m args below meth c H locs 0 0 (MQ below (q_X5_isFitting dC dI cI cC cZ cB cJ A a_pl a_ga a_tr a_pl_near a_pl_seconds a_pl_many a_pl_load a_pl_best a_tr_x a_tr_height a_tr_worth a_tr_ripe a_tr_foot a_tr_fork a_tr_settings pl_wanted pl_moves pl_picking pl_downs pl_near tr_fruits tr_standings tr_comingFruits tr_comingStandings post) args s 0 0 A) (F0 m 34 ls []) := by
  obtain ⟨hx, hb, hr, hml, hown, hts, hlocks, hA, hK, hN, tL, tM, hZL, hTL, hZM, hTM, hZX⟩ := id C0
  intro x1 x2 x3 H locs ls hp hP hD hS hl
  unfold ws_X5_isFitting_34 at hp
  obtain ⟨v_3, ev_3⟩ : ∃ y : Int32, y = x3 + 1 := ⟨_, rfl⟩
  refine lv_iinc (v := v_3) (lv' := [(3, .int v_3), (0, .ref a_pl), (1, .int x1), (2, .int x2)]) hx hb eX5_isFitting_26.2.2.2.2.2.2.1 hl (k := 3) rfl (by rw [ev_3]; rfl) (by decide) rfl (fun ls hl => ?_)
  have hp := hp v_3 ev_3
  refine lv_goto (tgt := 2) hx hb eX5_isFitting_26.2.2.2.2.2.2.2.1 (by decide) ?_
  exact hK2 x1 x2 v_3 H locs ls hp hP hD hS (lv_sub hl [1, 2, 3, 0] rfl)
def ws_X5_isFitting_2 (post : Int32 → Prop) (next : Int32 → Int32 → Int32 → Prop) (pl_near : Nat → Int32) (tr_standings : Int32) (x1 : Int32) (x2 : Int32) (x3 : Int32) : Prop := (tr_standings ≤ x3 → wp_X5_reachedBy (fun r_1 => (¬ (x2 &&& (r_1 ^^^ (-1))) = 0 → post 0) ∧ ((x2 &&& (r_1 ^^^ (-1))) = 0 → post 1)) x1 pl_near tr_standings) ∧ (¬ tr_standings ≤ x3 → ∀ v_2 : Int32, v_2 = x1 >>> (x3 &&& 31) → ((v_2 &&& 1) = 0 → ws_X5_isFitting_34 post next pl_near tr_standings x1 x2 x3) ∧ (¬ (v_2 &&& 1) = 0 → vp_in x3 8 ∧ (∀ v_4 : Int32, v_4 = pl_near x3.toNatClampNeg → (¬ (v_4 &&& x2) = 0 → ws_X5_isFitting_34 post next pl_near tr_standings x1 x2 x3) ∧ ((v_4 &&& x2) = 0 → post 0))))
noncomputable def wb_X5_isFitting_2 (post : Int32 → Prop) (pl_near : Nat → Int32) (tr_standings : Int32) : Nat → Int32 → Int32 → Int32 → Prop := fun n => Nat.rec (motive := fun _ => Int32 → Int32 → Int32 → Prop) (fun _ _ _ => False) (fun _ ih => ws_X5_isFitting_2 post ih pl_near tr_standings) n
set_option maxHeartbeats 4000000 in
set_option maxRecDepth 100000 in
theorem ks_X5_isFitting_2 (C0 : gc cX5_isFitting (some .boolean) 4 RX5 (dC, dI) (tyl cI cC cZ cB cJ) A p s m args meth c) {next : Int32 → Int32 → Int32 → Prop} (hKn : ∀ (x1 : Int32) (x2 : Int32) (x3 : Int32) (H : Heap) (locs : List Loc) (ls : Array Slot), next x1 x2 x3 → va_P (dC, dI) classes (wd_X5_isFitting cI cC cZ cB cJ a_pl a_ga a_tr a_pl_near a_pl_seconds a_pl_many a_pl_load a_pl_best a_tr_x a_tr_height a_tr_worth a_tr_ripe a_tr_foot a_tr_fork a_tr_settings pl_wanted pl_moves pl_picking pl_downs pl_near tr_fruits tr_standings tr_comingFruits tr_comingStandings) H → va_D A (wd_X5_isFitting cI cC cZ cB cJ a_pl a_ga a_tr a_pl_near a_pl_seconds a_pl_many a_pl_load a_pl_best a_tr_x a_tr_height a_tr_worth a_tr_ripe a_tr_foot a_tr_fork a_tr_settings pl_wanted pl_moves pl_picking pl_downs pl_near tr_fruits tr_standings tr_comingFruits tr_comingStandings) → va_S A s.heap H locs → lv_has ls 4 [(0, .ref a_pl), (1, .int x1), (2, .int x2), (3, .int x3)] → W p l e rm_X5_isFitting s m args below meth c H locs 0 0 (MQ below (q_X5_isFitting dC dI cI cC cZ cB cJ A a_pl a_ga a_tr a_pl_near a_pl_seconds a_pl_many a_pl_load a_pl_best a_tr_x a_tr_height a_tr_worth a_tr_ripe a_tr_foot a_tr_fork a_tr_settings pl_wanted pl_moves pl_picking pl_downs pl_near tr_fruits tr_standings tr_comingFruits tr_comingStandings post) args s 0 0 A) (F0 m 2 ls [])) : ∀ (x1 : Int32) (x2 : Int32) (x3 : Int32) (H : Heap) (locs : List Loc) (ls : Array Slot), (ws_X5_isFitting_2 post next pl_near tr_standings) x1 x2 x3 → va_P (dC, dI) classes (wd_X5_isFitting cI cC cZ cB cJ a_pl a_ga a_tr a_pl_near a_pl_seconds a_pl_many a_pl_load a_pl_best a_tr_x a_tr_height a_tr_worth a_tr_ripe a_tr_foot a_tr_fork a_tr_settings pl_wanted pl_moves pl_picking pl_downs pl_near tr_fruits tr_standings tr_comingFruits tr_comingStandings) H → va_D A (wd_X5_isFitting cI cC cZ cB cJ a_pl a_ga a_tr a_pl_near a_pl_seconds a_pl_many a_pl_load a_pl_best a_tr_x a_tr_height a_tr_worth a_tr_ripe a_tr_foot a_tr_fork a_tr_settings pl_wanted pl_moves pl_picking pl_downs pl_near tr_fruits tr_standings tr_comingFruits tr_comingStandings) → va_S A s.heap H locs → lv_has ls 4 [(0, .ref a_pl), (1, .int x1), (2, .int x2), (3, .int x3)] → W p l e rm_X5_isFitting s m args below meth c H locs 0 0 (MQ below (q_X5_isFitting dC dI cI cC cZ cB cJ A a_pl a_ga a_tr a_pl_near a_pl_seconds a_pl_many a_pl_load a_pl_best a_tr_x a_tr_height a_tr_worth a_tr_ripe a_tr_foot a_tr_fork a_tr_settings pl_wanted pl_moves pl_picking pl_downs pl_near tr_fruits tr_standings tr_comingFruits tr_comingStandings post) args s 0 0 A) (F0 m 2 ls []) := by
  obtain ⟨hx, hb, hr, hml, hown, hts, hlocks, hA, hK, hN, tL, tM, hZL, hTL, hZM, hTM, hZX⟩ := id C0
  intro x1 x2 x3 H locs ls hp hP hD hS hl
  unfold ws_X5_isFitting_2 at hp
  refine lv_iload_n hx hb eX5_isFitting_0.2.2.1 rfl (lv_at hl 3 rfl) ?_
  refine lv_aload_n hx hb eX5_isFitting_0.2.2.2.1 rfl (lv_at hl 0 rfl) ?_
  refine va_get (D := (dC, dI)) (ci := 5) (v := .ref a_tr) (C := RX5) (T := TX5) (N := 11) hx hb hts i_X5 hown hK hP 0 rfl rfl 1 (Nat.le_of_ble_eq_true rfl) (hts _ q_419) (fun _ h9 => h9) rfl eX5_isFitting_0.2.2.2.2.1 ?_
  refine va_get (D := (dC, dI)) (ci := 3) (v := .int tr_standings) (C := RX3) (T := TX3) (N := 11) hx hb hts i_X3 hown hK hP 2 rfl rfl 8 (Nat.le_of_ble_eq_true rfl) (hts _ q_420) (fun _ h9 => h9) rfl eX5_isFitting_0.2.2.2.2.2.1 ?_
  refine lv_icmp_ge (tgt := 40) hx hb eX5_isFitting_0.2.2.2.2.2.2.1 (by decide) (fun hc => ?_) (fun hc => ?_)
  · have hp := hp.1 hc
    refine lv_iload_n hx hb eX5_isFitting_26.2.2.2.2.2.2.2.2.1 rfl (lv_at hl 2 rfl) ?_
    refine lv_aload_n hx hb eX5_isFitting_26.2.2.2.2.2.2.2.2.2.1 rfl (lv_at hl 0 rfl) ?_
    refine lv_iload_n hx hb eX5_isFitting_26.2.2.2.2.2.2.2.2.2.2.1 rfl (lv_at hl 1 rfl) ?_
    refine g_calli (wc := (wd_X5_reachedBy cI cC cZ cB cJ a_pl a_ga a_tr a_pl_near a_pl_seconds a_pl_many a_pl_load a_pl_best a_tr_x a_tr_height a_tr_worth a_tr_ripe a_tr_foot a_tr_fork a_tr_settings pl_wanted pl_moves pl_picking pl_downs pl_near tr_fruits tr_standings tr_comingFruits tr_comingStandings)) hP hD hS hA [0, 1, 2] [] rfl rfl rfl rfl (g_runV (As := [.int x1]) (rest := [.int x2]) C0 hP hD hS [0, 1, 2] rfl rfl 0 5 rfl rfl (c_X5_reachedBy l dC dI cI cC cZ cB cJ a_pl a_ga a_tr a_pl_near a_pl_seconds a_pl_many a_pl_load a_pl_best a_tr_x a_tr_height a_tr_worth a_tr_ripe a_tr_foot a_tr_fork a_tr_settings H.size x1 pl_wanted pl_moves pl_picking pl_downs pl_near tr_fruits tr_standings tr_comingFruits tr_comingStandings _ hp) q_430 q_434 q_432 q_433 q_431 h_X5_reachedBy rfl rfl ⟨Nat.le_of_ble_eq_true rfl, Nat.le_of_ble_eq_true rfl⟩ rfl rfl hl.1 rfl (lv_room (Nat.le_of_ble_eq_true rfl)) eX5_isFitting_26.2.2.2.2.2.2.2.2.2.2.2.1 ⟨Nat.zero_le _, Nat.zero_le _⟩) (fun r_1 u H locs hp hP hD hS => ?_)
    have hPD := PDs (ws' := (wd_X5_isFitting cI cC cZ cB cJ a_pl a_ga a_tr a_pl_near a_pl_seconds a_pl_many a_pl_load a_pl_best a_tr_x a_tr_height a_tr_worth a_tr_ripe a_tr_foot a_tr_fork a_tr_settings pl_wanted pl_moves pl_picking pl_downs pl_near tr_fruits tr_standings tr_comingFruits tr_comingStandings)) hP hD [0, 1, 2] (by decide) rfl
    have hP := hPD.1
    have hD := hPD.2
    refine lv_iconst (v := (-1)) hx hb eX5_isFitting_26.2.2.2.2.2.2.2.2.2.2.2.2.1 (by decide) ?_
    refine lv_ixor hx hb eX5_isFitting_26.2.2.2.2.2.2.2.2.2.2.2.2.2.1 ?_
    refine lv_iand hx hb eX5_isFitting_26.2.2.2.2.2.2.2.2.2.2.2.2.2.2.1 ?_
    refine lv_if_ne (tgt := 56) hx hb eX5_isFitting_26.2.2.2.2.2.2.2.2.2.2.2.2.2.2.2 (by decide) (fun hc => ?_) (fun hc => ?_)
    · have hp := hp.1 hc
      refine lv_iconst (v := 0) hx hb eX5_isFitting_52.2.2.1 (by decide) ?_
      exact W.zret (v := 0) hx hb hr rfl (fun t ht hW => ⟨⟨0, (), rfl, hp, by rw [ht]; exact hP, va_K.moved hW.alike hK, hD⟩, hS.F ht⟩) hS.2.2 eX5_isFitting_52.2.2.2
    · have hp := hp.2 hc
      refine lv_iconst (v := 1) hx hb eX5_isFitting_52.1 (by decide) ?_
      refine lv_goto (tgt := 57) hx hb eX5_isFitting_52.2.1 (by decide) ?_
      exact W.zret (v := 1) hx hb hr rfl (fun t ht hW => ⟨⟨1, (), rfl, hp, by rw [ht]; exact hP, va_K.moved hW.alike hK, hD⟩, hS.F ht⟩) hS.2.2 eX5_isFitting_52.2.2.2
  · have hp := hp.2 hc
    refine lv_iload_n hx hb eX5_isFitting_0.2.2.2.2.2.2.2.1 rfl (lv_at hl 1 rfl) ?_
    refine lv_iload_n hx hb eX5_isFitting_0.2.2.2.2.2.2.2.2.1 rfl (lv_at hl 3 rfl) ?_
    refine lv_ishr hx hb eX5_isFitting_0.2.2.2.2.2.2.2.2.2.1 ?_
    refine lv_topi (fun v_2 ev_2 => ?_)
    have hp := hp v_2 ev_2
    refine lv_iconst (v := 1) hx hb eX5_isFitting_0.2.2.2.2.2.2.2.2.2.2.1 (by decide) ?_
    refine lv_iand hx hb eX5_isFitting_0.2.2.2.2.2.2.2.2.2.2.2.1 ?_
    refine lv_if_eq (tgt := 34) hx hb eX5_isFitting_0.2.2.2.2.2.2.2.2.2.2.2.2.1 (by decide) (fun hc => ?_) (fun hc => ?_)
    · have hp := hp.1 hc
      exact ks_X5_isFitting_34 C0 hKn x1 x2 x3 H locs ls hp hP hD hS (lv_sub hl [0, 1, 2, 3] rfl)
    · have hp := hp.2 hc
      refine lv_aload_n hx hb eX5_isFitting_0.2.2.2.2.2.2.2.2.2.2.2.2.2.1 rfl (lv_at hl 0 rfl) ?_
      refine va_get (D := (dC, dI)) (ci := 5) (v := .ref a_pl_near) (C := RX5) (T := TX5) (N := 11) hx hb hts i_X5 hown hK hP 0 rfl rfl 2 (Nat.le_of_ble_eq_true rfl) (hts _ q_421) (fun _ h9 => h9) rfl eX5_isFitting_0.2.2.2.2.2.2.2.2.2.2.2.2.2.2.1 ?_
      refine lv_iload_n hx hb eX5_isFitting_0.2.2.2.2.2.2.2.2.2.2.2.2.2.2.2 rfl (lv_at hl 3 rfl) ?_
      have hin := hp.1
      have hp := hp.2
      refine va_iald hx hb hK hP 1 0 rfl rfl hin eX5_isFitting_26.1 ?_
      refine lv_topi (fun v_4 ev_4 => ?_)
      have hp := hp v_4 ev_4
      refine lv_iload_n hx hb eX5_isFitting_26.2.1 rfl (lv_at hl 2 rfl) ?_
      refine lv_iand hx hb eX5_isFitting_26.2.2.1 ?_
      refine lv_if_ne (tgt := 34) hx hb eX5_isFitting_26.2.2.2.1 (by decide) (fun hc => ?_) (fun hc => ?_)
      · have hp := hp.1 hc
        exact ks_X5_isFitting_34 C0 hKn x1 x2 x3 H locs ls hp hP hD hS (lv_sub hl [0, 1, 2, 3] rfl)
      · have hp := hp.2 hc
        refine lv_iconst (v := 0) hx hb eX5_isFitting_26.2.2.2.2.1 (by decide) ?_
        exact W.zret (v := 0) hx hb hr rfl (fun t ht hW => ⟨⟨0, (), rfl, hp, by rw [ht]; exact hP, va_K.moved hW.alike hK, hD⟩, hS.F ht⟩) hS.2.2 eX5_isFitting_26.2.2.2.2.2.1
set_option maxHeartbeats 4000000 in
set_option maxRecDepth 100000 in
theorem kb_X5_isFitting_2 (C0 : gc cX5_isFitting (some .boolean) 4 RX5 (dC, dI) (tyl cI cC cZ cB cJ) A p s m args meth c) : ∀ (n : Nat), ∀ (x1 : Int32) (x2 : Int32) (x3 : Int32) (H : Heap) (locs : List Loc) (ls : Array Slot), (wb_X5_isFitting_2 post pl_near tr_standings n) x1 x2 x3 → va_P (dC, dI) classes (wd_X5_isFitting cI cC cZ cB cJ a_pl a_ga a_tr a_pl_near a_pl_seconds a_pl_many a_pl_load a_pl_best a_tr_x a_tr_height a_tr_worth a_tr_ripe a_tr_foot a_tr_fork a_tr_settings pl_wanted pl_moves pl_picking pl_downs pl_near tr_fruits tr_standings tr_comingFruits tr_comingStandings) H → va_D A (wd_X5_isFitting cI cC cZ cB cJ a_pl a_ga a_tr a_pl_near a_pl_seconds a_pl_many a_pl_load a_pl_best a_tr_x a_tr_height a_tr_worth a_tr_ripe a_tr_foot a_tr_fork a_tr_settings pl_wanted pl_moves pl_picking pl_downs pl_near tr_fruits tr_standings tr_comingFruits tr_comingStandings) → va_S A s.heap H locs → lv_has ls 4 [(0, .ref a_pl), (1, .int x1), (2, .int x2), (3, .int x3)] → W p l e rm_X5_isFitting s m args below meth c H locs 0 0 (MQ below (q_X5_isFitting dC dI cI cC cZ cB cJ A a_pl a_ga a_tr a_pl_near a_pl_seconds a_pl_many a_pl_load a_pl_best a_tr_x a_tr_height a_tr_worth a_tr_ripe a_tr_foot a_tr_fork a_tr_settings pl_wanted pl_moves pl_picking pl_downs pl_near tr_fruits tr_standings tr_comingFruits tr_comingStandings post) args s 0 0 A) (F0 m 2 ls []) := by
  intro n
  induction n with
  | zero =>
    intro x1 x2 x3 H locs ls hp
    exact False.elim hp
  | succ n ih =>
    intro x1 x2 x3 H locs ls hp
    exact ks_X5_isFitting_2 C0 ih x1 x2 x3 H locs ls hp
end S_X5_isFitting
def wp_X5_isFitting (post : Int32 → Prop) (p0 : Int32) (p1 : Int32) (pl_near : Nat → Int32) (tr_standings : Int32) : Prop := ∃ n : Nat, wb_X5_isFitting_2 post pl_near tr_standings n p0 p1 0
set_option maxHeartbeats 4000000 in
set_option maxRecDepth 100000 in
theorem c_X5_isFitting (l : Launch) (dC : Nat → ClassId) (dI : Nat → Nat → Nat) (cI cC cZ cB cJ : ClassId) (a_pl : Nat) (a_ga : Nat) (a_tr : Nat) (a_pl_near : Nat) (a_pl_seconds : Nat) (a_pl_many : Nat) (a_pl_load : Nat) (a_pl_best : Nat) (a_tr_x : Nat) (a_tr_height : Nat) (a_tr_worth : Nat) (a_tr_ripe : Nat) (a_tr_foot : Nat) (a_tr_fork : Nat) (a_tr_settings : Nat) (sz : Nat) (p0 : Int32) (p1 : Int32) (pl_wanted : Int32) (pl_moves : Int32) (pl_picking : Int32) (pl_downs : Int32) (pl_near : Nat → Int32) (tr_fruits : Int32) (tr_standings : Int32) (tr_comingFruits : Int32) (tr_comingStandings : Int32) (post : Int32 → Prop) (hw : wp_X5_isFitting post p0 p1 pl_near tr_standings) : Met l yX5_isFitting (gw yX5_isFitting cX5_isFitting 4 (some .boolean)) rm_X5_isFitting (va_Pc [.ref a_pl, .int p0, .int p1] (gPre (dC, dI) (tyl cI cC cZ cB cJ) (wd_X5_isFitting cI cC cZ cB cJ a_pl a_ga a_tr a_pl_near a_pl_seconds a_pl_many a_pl_load a_pl_best a_tr_x a_tr_height a_tr_worth a_tr_ripe a_tr_foot a_tr_fork a_tr_settings pl_wanted pl_moves pl_picking pl_downs pl_near tr_fruits tr_standings tr_comingFruits tr_comingStandings) sz)) (q_X5_isFitting dC dI cI cC cZ cB cJ (va_A (wd_X5_isFitting cI cC cZ cB cJ a_pl a_ga a_tr a_pl_near a_pl_seconds a_pl_many a_pl_load a_pl_best a_tr_x a_tr_height a_tr_worth a_tr_ripe a_tr_foot a_tr_fork a_tr_settings pl_wanted pl_moves pl_picking pl_downs pl_near tr_fruits tr_standings tr_comingFruits tr_comingStandings) sz) a_pl a_ga a_tr a_pl_near a_pl_seconds a_pl_many a_pl_load a_pl_best a_tr_x a_tr_height a_tr_worth a_tr_ripe a_tr_foot a_tr_fork a_tr_settings pl_wanted pl_moves pl_picking pl_downs pl_near tr_fruits tr_standings tr_comingFruits tr_comingStandings post) 0 0 (va_A (wd_X5_isFitting cI cC cZ cB cJ a_pl a_ga a_tr a_pl_near a_pl_seconds a_pl_many a_pl_load a_pl_best a_tr_x a_tr_height a_tr_worth a_tr_ripe a_tr_foot a_tr_fork a_tr_settings pl_wanted pl_moves pl_picking pl_downs pl_near tr_fruits tr_standings tr_comingFruits tr_comingStandings) sz) := by
  refine g_enter (own := RX5) (dC, dI) (tyl cI cC cZ cB cJ) (wd_X5_isFitting cI cC cZ cB cJ a_pl a_ga a_tr a_pl_near a_pl_seconds a_pl_many a_pl_load a_pl_best a_tr_x a_tr_height a_tr_worth a_tr_ripe a_tr_foot a_tr_fork a_tr_settings pl_wanted pl_moves pl_picking pl_downs pl_near tr_fruits tr_standings tr_comingFruits tr_comingStandings) sz [.ref a_pl, .int p0, .int p1] (fun A => q_X5_isFitting dC dI cI cC cZ cB cJ A a_pl a_ga a_tr a_pl_near a_pl_seconds a_pl_many a_pl_load a_pl_best a_tr_x a_tr_height a_tr_worth a_tr_ripe a_tr_foot a_tr_fork a_tr_settings pl_wanted pl_moves pl_picking pl_downs pl_near tr_fruits tr_standings tr_comingFruits tr_comingStandings post) (by decide) rfl (Nat.le_of_ble_eq_true rfl) ?_
  intro p e s m args below meth c A H locs ls C0 hP hD hS hl
  have hl : lv_has ls 4 [(0, .ref a_pl), (1, .int p0), (2, .int p1)] := hl
  obtain ⟨hx, hb, hr, hml, hown, hts, hlocks, hA, hK, hN, tL, tM, hZL, hTL, hZM, hTM, hZX⟩ := id C0
  have hp := hw
  unfold wp_X5_isFitting at hp
  refine lv_iconst (v := 0) hx hb eX5_isFitting_0.1 (by decide) ?_
  refine lv_istore_n (lv' := [(3, .int 0), (0, .ref a_pl), (1, .int p0), (2, .int p1)]) hx hb eX5_isFitting_0.2.1 rfl hl (by decide) rfl (fun ls hl => ?_)
  obtain ⟨n9, hp⟩ := hp
  exact kb_X5_isFitting_2 C0 n9 p0 p1 0 H locs ls hp hP hD hS (lv_sub hl [1, 2, 3, 0] rfl)
