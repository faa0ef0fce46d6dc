abbrev wd_X9_set (cI cC cZ cB cJ : ClassId) (a_x : Nat) (a_tx : Nat) (a_pl : Nat) (a_ga : Nat) (a_tr : Nat) (a_no : Nat) (a_pa : Nat) (a_ro : Nat) (a_mk : Nat) (a_x_acts : Nat) (a_tr_x : Nat) (a_tr_height : Nat) (a_tr_worth : Nat) (a_tr_ripe : Nat) (a_tr_foot : Nat) (a_tr_fork : Nat) (a_tr_settings : Nat) (tr_fruits : Int32) (tr_standings : Int32) (tr_comingFruits : Int32) (tr_comingStandings : Int32) (tr_settings : Nat → Int32) : va_W := [(a_x, .inr (9, [.ref a_tx, .ref a_pl, .ref a_ga, .ref a_tr, .ref a_no, .ref a_pa, .ref a_ro, .ref a_mk, .ref a_x_acts])), (a_tr, .inr (3, [.ref a_tr_x, .ref a_tr_height, .ref a_tr_worth, .ref a_tr_ripe, .ref a_tr_foot, .ref a_tr_fork, .ref a_tr_settings, .int tr_fruits, .int tr_standings, .int tr_comingFruits, .int tr_comingStandings])), (a_tr_settings, .inl (cI, 5, .inl tr_settings))]
abbrev q_X9_set (dC : Nat → ClassId) (dI : Nat → Nat → Nat) (cI cC cZ cB cJ : ClassId) (A : Nat → Prop) (a_x : Nat) (a_tx : Nat) (a_pl : Nat) (a_ga : Nat) (a_tr : Nat) (a_no : Nat) (a_pa : Nat) (a_ro : Nat) (a_mk : Nat) (a_x_acts : Nat) (a_tr_x : Nat) (a_tr_height : Nat) (a_tr_worth : Nat) (a_tr_ripe : Nat) (a_tr_foot : Nat) (a_tr_fork : Nat) (a_tr_settings : Nat) (tr_fruits : Int32) (tr_standings : Int32) (tr_comingFruits : Int32) (tr_comingStandings : Int32) (post : Int32 → (Nat → Int32) → Prop) : Array Value → State → Outcome → State → Prop := va_Qi (fun (r : Int32) (u : (Nat → Int32)) => post r u) (fun u t => gB (dC, dI) (tyl cI cC cZ cB cJ) A (wd_X9_set cI cC cZ cB cJ a_x a_tx a_pl a_ga a_tr a_no a_pa a_ro a_mk a_x_acts a_tr_x a_tr_height a_tr_worth a_tr_ripe a_tr_foot a_tr_fork a_tr_settings tr_fruits tr_standings tr_comingFruits tr_comingStandings u) t) A
abbrev rm_X9_set : Room := { frames := 0, cells := 0, slots := 0, locals := 0 }
def wp_X9_set (post : Int32 → (Nat → Int32) → Prop) (p0 : Int32) (p1 : Int32) (tr_settings : Nat → Int32) : Prop := (p0 < 0 → post (-1) tr_settings) ∧ (¬ p0 < 0 → (4 < p0 → post (-1) tr_settings) ∧ (¬ 4 < p0 → vp_in p0 5 ∧ ((p1 < (stL p0.toNatClampNeg) → post (-1) tr_settings) ∧ (¬ p1 < (stL p0.toNatClampNeg) → vp_in p0 5 ∧ ((p1 ≤ (stM p0.toNatClampNeg) → vp_in p0 5 ∧ (∀ v_1 : Int32, v_1 = tr_settings p0.toNatClampNeg → vp_in p0 5 ∧ (post v_1 (upd tr_settings p0.toNatClampNeg p1)))) ∧ (¬ p1 ≤ (stM p0.toNatClampNeg) → post (-1) tr_settings))))))
set_option maxHeartbeats 4000000 in
set_option maxRecDepth 100000 in
theorem c_X9_set (l : Launch) (dC : Nat → ClassId) (dI : Nat → Nat → Nat) (cI cC cZ cB cJ : ClassId) (a_x : Nat) (a_tx : Nat) (a_pl : Nat) (a_ga : Nat) (a_tr : Nat) (a_no : Nat) (a_pa : Nat) (a_ro : Nat) (a_mk : Nat) (a_x_acts : Nat) (a_tr_x : Nat) (a_tr_height : Nat) (a_tr_worth : Nat) (a_tr_ripe : Nat) (a_tr_foot : Nat) (a_tr_fork : Nat) (a_tr_settings : Nat) (sz : Nat) (p0 : Int32) (p1 : Int32) (tr_fruits : Int32) (tr_standings : Int32) (tr_comingFruits : Int32) (tr_comingStandings : Int32) (tr_settings : Nat → Int32) (post : Int32 → (Nat → Int32) → Prop) (hw : wp_X9_set post p0 p1 tr_settings) : Met l yX9_set (gw yX9_set cX9_set 4 (some .int)) rm_X9_set (va_Pc [.ref a_x, .int p0, .int p1] (gPre (dC, dI) (tyl cI cC cZ cB cJ) (wd_X9_set cI cC cZ cB cJ a_x a_tx a_pl a_ga a_tr a_no a_pa a_ro a_mk a_x_acts a_tr_x a_tr_height a_tr_worth a_tr_ripe a_tr_foot a_tr_fork a_tr_settings tr_fruits tr_standings tr_comingFruits tr_comingStandings tr_settings) sz)) (q_X9_set dC dI cI cC cZ cB cJ (va_A (wd_X9_set cI cC cZ cB cJ a_x a_tx a_pl a_ga a_tr a_no a_pa a_ro a_mk a_x_acts a_tr_x a_tr_height a_tr_worth a_tr_ripe a_tr_foot a_tr_fork a_tr_settings tr_fruits tr_standings tr_comingFruits tr_comingStandings tr_settings) sz) a_x a_tx a_pl a_ga a_tr a_no a_pa a_ro a_mk a_x_acts a_tr_x a_tr_height a_tr_worth a_tr_ripe a_tr_foot a_tr_fork a_tr_settings tr_fruits tr_standings tr_comingFruits tr_comingStandings post) 0 0 (va_A (wd_X9_set cI cC cZ cB cJ a_x a_tx a_pl a_ga a_tr a_no a_pa a_ro a_mk a_x_acts a_tr_x a_tr_height a_tr_worth a_tr_ripe a_tr_foot a_tr_fork a_tr_settings tr_fruits tr_standings tr_comingFruits tr_comingStandings tr_settings) sz) := by
  refine g_enter (own := RX9) (dC, dI) (tyl cI cC cZ cB cJ) (wd_X9_set cI cC cZ cB cJ a_x a_tx a_pl a_ga a_tr a_no a_pa a_ro a_mk a_x_acts a_tr_x a_tr_height a_tr_worth a_tr_ripe a_tr_foot a_tr_fork a_tr_settings tr_fruits tr_standings tr_comingFruits tr_comingStandings tr_settings) sz [.ref a_x, .int p0, .int p1] (fun A => q_X9_set dC dI cI cC cZ cB cJ A a_x a_tx a_pl a_ga a_tr a_no a_pa a_ro a_mk a_x_acts a_tr_x a_tr_height a_tr_worth a_tr_ripe a_tr_foot a_tr_fork a_tr_settings tr_fruits tr_standings tr_comingFruits tr_comingStandings post) (by decide) rfl (Nat.le_of_ble_eq_true rfl) ?_
  intro p e s m args below meth c A H locs ls C0 hP hD hS hl
  have hl : lv_has ls 4 [(0, .ref a_x), (1, .int p0), (2, .int p1)] := hl
  obtain ⟨hx, hb, hr, hml, hown, hts, hlocks, hA, hK, hN, tL, tM, hZL, hTL, hZM, hTM, hZX⟩ := id C0
  have hp := hw
  unfold wp_X9_set at hp
  refine lv_iload_n hx hb eX9_set_0.1 rfl (lv_at hl 1 rfl) ?_
  refine lv_if_lt (tgt := 27) hx hb eX9_set_0.2.1 (by decide) (fun hc => ?_) (fun hc => ?_)
  · have hp := hp.1 hc
    refine lv_iconst (v := (-1)) hx hb eX9_set_0.2.2.2.2.2.2.2.2.2.2.2.2.2.2.2 (by decide) ?_
    exact W.iret (v := (-1)) hx hb hr (fun t ht hW => ⟨⟨(-1), tr_settings, rfl, hp, by rw [ht]; exact hP, va_K.moved hW.alike hK, hD⟩, hS.F ht⟩) hS.2.2 eX9_set_28.1
  · have hp := hp.2 hc
    refine lv_iload_n hx hb eX9_set_0.2.2.1 rfl (lv_at hl 1 rfl) ?_
    refine lv_iconst (v := 4) hx hb eX9_set_0.2.2.2.1 (by decide) ?_
    refine lv_icmp_gt (tgt := 27) hx hb eX9_set_0.2.2.2.2.1 (by decide) (fun hc => ?_) (fun hc => ?_)
    · have hp := hp.1 hc
      refine lv_iconst (v := (-1)) hx hb eX9_set_0.2.2.2.2.2.2.2.2.2.2.2.2.2.2.2 (by decide) ?_
      exact W.iret (v := (-1)) hx hb hr (fun t ht hW => ⟨⟨(-1), tr_settings, rfl, hp, by rw [ht]; exact hP, va_K.moved hW.alike hK, hD⟩, hS.F ht⟩) hS.2.2 eX9_set_28.1
    · have hp := hp.2 hc
      refine lv_iload_n hx hb eX9_set_0.2.2.2.2.2.1 rfl (lv_at hl 2 rfl) ?_
      refine va_gets hx hb hZL hS hown (hts _ q_205) (fun _ h9 => h9) eX9_set_0.2.2.2.2.2.2.1 ?_
      refine lv_iload_n hx hb eX9_set_0.2.2.2.2.2.2.2.1 rfl (lv_at hl 1 rfl) ?_
      have hin := hp.1
      have hp := hp.2
      refine va_ti hx hb hTL hS hin rfl eX9_set_0.2.2.2.2.2.2.2.2.1 ?_
      refine lv_icmp_lt (tgt := 27) hx hb eX9_set_0.2.2.2.2.2.2.2.2.2.1 (by decide) (fun hc => ?_) (fun hc => ?_)
      · have hp := hp.1 hc
        refine lv_iconst (v := (-1)) hx hb eX9_set_0.2.2.2.2.2.2.2.2.2.2.2.2.2.2.2 (by decide) ?_
        exact W.iret (v := (-1)) hx hb hr (fun t ht hW => ⟨⟨(-1), tr_settings, rfl, hp, by rw [ht]; exact hP, va_K.moved hW.alike hK, hD⟩, hS.F ht⟩) hS.2.2 eX9_set_28.1
      · have hp := hp.2 hc
        refine lv_iload_n hx hb eX9_set_0.2.2.2.2.2.2.2.2.2.2.1 rfl (lv_at hl 2 rfl) ?_
        refine va_gets hx hb hZM hS hown (hts _ q_206) (fun _ h9 => h9) eX9_set_0.2.2.2.2.2.2.2.2.2.2.2.1 ?_
        refine lv_iload_n hx hb eX9_set_0.2.2.2.2.2.2.2.2.2.2.2.2.1 rfl (lv_at hl 1 rfl) ?_
        have hin := hp.1
        have hp := hp.2
        refine va_ti hx hb hTM hS hin rfl eX9_set_0.2.2.2.2.2.2.2.2.2.2.2.2.2.1 ?_
        refine lv_icmp_le (tgt := 29) hx hb eX9_set_0.2.2.2.2.2.2.2.2.2.2.2.2.2.2.1 (by decide) (fun hc => ?_) (fun hc => ?_)
        · have hp := hp.1 hc
          refine lv_aload_n hx hb eX9_set_28.2.1 rfl (lv_at hl 0 rfl) ?_
          refine va_get (D := (dC, dI)) (ci := 9) (v := .ref a_tr) (C := RX9) (T := TX9) (N := 9) hx hb hts i_X9 hown hK hP 0 rfl rfl 3 (Nat.le_of_ble_eq_true rfl) (hts _ q_74) (fun _ h9 => h9) rfl eX9_set_28.2.2.1 ?_
          refine va_get (D := (dC, dI)) (ci := 3) (v := .ref a_tr_settings) (C := RX3) (T := TX3) (N := 11) hx hb hts i_X3 hown hK hP 1 rfl rfl 6 (Nat.le_of_ble_eq_true rfl) (hts _ q_207) (fun _ h9 => h9) rfl eX9_set_28.2.2.2.1 ?_
          refine lv_iload_n hx hb eX9_set_28.2.2.2.2.1 rfl (lv_at hl 1 rfl) ?_
          have hin := hp.1
          have hp := hp.2
          refine va_iald hx hb hK hP 2 0 rfl rfl hin eX9_set_28.2.2.2.2.2.1 ?_
          refine lv_topi (fun v_1 ev_1 => ?_)
          have hp := hp v_1 ev_1
          refine lv_istore_n (lv' := [(3, .int v_1), (0, .ref a_x), (1, .int p0), (2, .int p1)]) hx hb eX9_set_28.2.2.2.2.2.2.1 rfl hl (by decide) rfl (fun ls hl => ?_)
          refine lv_aload_n hx hb eX9_set_28.2.2.2.2.2.2.2.1 rfl (lv_at hl 1 rfl) ?_
          refine va_get (D := (dC, dI)) (ci := 9) (v := .ref a_tr) (C := RX9) (T := TX9) (N := 9) hx hb hts i_X9 hown hK hP 0 rfl rfl 3 (Nat.le_of_ble_eq_true rfl) (hts _ q_74) (fun _ h9 => h9) rfl eX9_set_28.2.2.2.2.2.2.2.2.1 ?_
          refine va_get (D := (dC, dI)) (ci := 3) (v := .ref a_tr_settings) (C := RX3) (T := TX3) (N := 11) hx hb hts i_X3 hown hK hP 1 rfl rfl 6 (Nat.le_of_ble_eq_true rfl) (hts _ q_207) (fun _ h9 => h9) rfl eX9_set_28.2.2.2.2.2.2.2.2.2.1 ?_
          refine lv_iload_n hx hb eX9_set_28.2.2.2.2.2.2.2.2.2.2.1 rfl (lv_at hl 2 rfl) ?_
          refine lv_iload_n hx hb eX9_set_28.2.2.2.2.2.2.2.2.2.2.2.1 rfl (lv_at hl 3 rfl) ?_
          have hin := hp.1
          have hp := hp.2
          refine va_iast hx hb hK hP hD hS 2 0 rfl rfl hin eX9_set_28.2.2.2.2.2.2.2.2.2.2.2.2.1 (fun H locs hP hD hS => ?_)
          have hP : va_P (dC, dI) classes (wd_X9_set cI cC cZ cB cJ a_x a_tx a_pl a_ga a_tr a_no a_pa a_ro a_mk a_x_acts a_tr_x a_tr_height a_tr_worth a_tr_ripe a_tr_foot a_tr_fork a_tr_settings tr_fruits tr_standings tr_comingFruits tr_comingStandings (upd tr_settings p0.toNatClampNeg p1)) H := hP
          have hD : va_D A (wd_X9_set cI cC cZ cB cJ a_x a_tx a_pl a_ga a_tr a_no a_pa a_ro a_mk a_x_acts a_tr_x a_tr_height a_tr_worth a_tr_ripe a_tr_foot a_tr_fork a_tr_settings tr_fruits tr_standings tr_comingFruits tr_comingStandings (upd tr_settings p0.toNatClampNeg p1)) := hD
          refine lv_iload_n hx hb eX9_set_28.2.2.2.2.2.2.2.2.2.2.2.2.2.1 rfl (lv_at hl 0 rfl) ?_
          exact W.iret (v := v_1) hx hb hr (fun t ht hW => ⟨⟨v_1, (upd tr_settings p0.toNatClampNeg p1), rfl, hp, by rw [ht]; exact hP, va_K.moved hW.alike hK, hD⟩, hS.F ht⟩) hS.2.2 eX9_set_28.2.2.2.2.2.2.2.2.2.2.2.2.2.2
        · have hp := hp.2 hc
          refine lv_iconst (v := (-1)) hx hb eX9_set_0.2.2.2.2.2.2.2.2.2.2.2.2.2.2.2 (by decide) ?_
          exact W.iret (v := (-1)) hx hb hr (fun t ht hW => ⟨⟨(-1), tr_settings, rfl, hp, by rw [ht]; exact hP, va_K.moved hW.alike hK, hD⟩, hS.F ht⟩) hS.2.2 eX9_set_28.1
abbrev wd_X3_fillWorths (cI cC cZ cB cJ : ClassId) (a_tr : Nat) (a_tr_x : Nat) (a_tr_height : Nat) (a_tr_worth : Nat) (a_tr_ripe : Nat) (a_tr_foot : Nat) (a_tr_fork : Nat) (a_tr_settings : Nat) (tr_fruits : Int32) (tr_standings : Int32) (tr_comingFruits : Int32) (tr_comingStandings : Int32) (tr_worth : Nat → Int32) : va_W := [(a_tr, .inr (3, [.ref a_tr_x, .ref a_tr_height, .ref a_tr_worth, .ref a_tr_ripe, .ref a_tr_foot, .ref a_tr_fork, .ref a_tr_settings, .int tr_fruits, .int tr_standings, .int tr_comingFruits, .int tr_comingStandings])), (a_tr_worth, .inl (cI, 16, .inl tr_worth))]
abbrev q_X3_fillWorths (dC : Nat → ClassId) (dI : Nat → Nat → Nat) (cI cC cZ cB cJ : ClassId) (A : Nat → Prop) (a_tr : Nat) (a_tr_x : Nat) (a_tr_height : Nat) (a_tr_worth : Nat) (a_tr_ripe : Nat) (a_tr_foot : Nat) (a_tr_fork : Nat) (a_tr_settings : Nat) (tr_fruits : Int32) (tr_standings : Int32) (tr_comingFruits : Int32) (tr_comingStandings : Int32) (post : Int32 → (Nat → Int32) → Prop) : Array Value → State → Outcome → State → Prop := va_Qi (fun (r : Int32) (u : (Nat → Int32)) => post r u) (fun u t => gB (dC, dI) (tyl cI cC cZ cB cJ) A (wd_X3_fillWorths cI cC cZ cB cJ a_tr a_tr_x a_tr_height a_tr_worth a_tr_ripe a_tr_foot a_tr_fork a_tr_settings tr_fruits tr_standings tr_comingFruits tr_comingStandings u) t) A
abbrev rm_X3_fillWorths : Room := { frames := 1, cells := 0, slots := 0, locals := 21 }
section S_X3_fillWorths
variable {p : Program} {l : Launch} {e : Env} {s : State} {m : MethodId} {args : Array Value} {below : List Frame} {meth : Method} {c : Code} {dC : Nat → ClassId} {dI : Nat → Nat → Nat} {cI cC cZ cB cJ : ClassId} {A : Nat → Prop} {a_tr : Nat} {a_tr_x : Nat} {a_tr_height : Nat} {a_tr_worth : Nat} {a_tr_ripe : Nat} {a_tr_foot : Nat} {a_tr_fork : Nat} {a_tr_settings : Nat} {tr_fruits : Int32} {tr_standings : Int32} {tr_comingFruits : Int32} {tr_comingStandings : Int32} {post : Int32 → (Nat → Int32) → Prop}
def ws_X3_fillWorths_70 (post : Int32 → (Nat → Int32) → Prop) (K9 : Int32 → Int32 → Int32 → Int32 → Int32 → Int32 → (Nat → Int32) → Prop) (tr_fruits : Int32) (x1 : Int32) (x2 : Int32) (x4 : Int32) (x5 : Int32) (x6 : Int32) (x7 : Int32) (k1 : Int32) (k2 : Int32) (tr_worth : Nat → Int32) : Prop := vp_in k1 16 ∧ (vp_in x7 16 ∧ (∀ v_1 : Int32, v_1 = x5 + ((upd tr_worth k1.toNatClampNeg k2) x7.toNatClampNeg) → ∀ v_2 : Int32, v_2 = x6 + x4 → ∀ v_3 : Int32, v_3 = x7 + 1 → K9 x1 x2 x4 v_1 v_2 v_3 (upd tr_worth k1.toNatClampNeg k2)))
set_option maxHeartbeats 4000000 in
set_option maxRecDepth 100000 in
theorem ks_X3_fillWorths_70 (C0 : gc cX3_fillWorths (some .int) 9 RX3 (dC, dI) (tyl cI cC cZ cB cJ) A p s m args meth c) {K9 : Int32 → Int32 → Int32 → Int32 → Int32 → Int32 → (Nat → Int32) → Prop} (hK9 : ∀ (x1 : Int32) (x2 : Int32) (x4 : Int32) (x5 : Int32) (x6 : Int32) (x7 : Int32) (tr_worth : Nat → Int32) (H : Heap) (locs : List Loc) (ls : Array Slot), K9 x1 x2 x4 x5 x6 x7 tr_worth → va_P (dC, dI) classes (wd_X3_fillWorths cI cC cZ cB cJ a_tr a_tr_x a_tr_height a_tr_worth a_tr_ripe a_tr_foot a_tr_fork a_tr_settings tr_fruits tr_standings tr_comingFruits tr_comingStandings tr_worth) H → va_D A (wd_X3_fillWorths cI cC cZ cB cJ a_tr a_tr_x a_tr_height a_tr_worth a_tr_ripe a_tr_foot a_tr_fork a_tr_settings tr_fruits tr_standings tr_comingFruits tr_comingStandings tr_worth) → va_S A s.heap H locs → lv_has ls 9 [(0, .ref a_tr), (1, .int x1), (2, .int x2), (4, .int x4), (5, .int x5), (6, .int x6), (7, .int x7)] → W p l e rm_X3_fillWorths s m args below meth c H locs 0 0 (MQ below (q_X3_fillWorths dC dI cI cC cZ cB cJ A a_tr a_tr_x a_tr_height a_tr_worth a_tr_ripe a_tr_foot a_tr_fork a_tr_settings tr_fruits tr_standings tr_comingFruits tr_comingStandings post) args s 0 0 A) (F0 m 9 ls [])) : ∀ (x1 : Int32) (x2 : Int32) (x4 : Int32) (x5 : Int32) (x6 : Int32) (x7 : Int32) (k1 : Int32) (k2 : Int32) (tr_worth : Nat → Int32) (H : Heap) (locs : List Loc) (ls : Array Slot), (ws_X3_fillWorths_70 post K9 tr_fruits) x1 x2 x4 x5 x6 x7 k1 k2 tr_worth → va_P (dC, dI) classes (wd_X3_fillWorths cI cC cZ cB cJ a_tr a_tr_x a_tr_height a_tr_worth a_tr_ripe a_tr_foot a_tr_fork a_tr_settings tr_fruits tr_standings tr_comingFruits tr_comingStandings tr_worth) H → va_D A (wd_X3_fillWorths cI cC cZ cB cJ a_tr a_tr_x a_tr_height a_tr_worth a_tr_ripe a_tr_foot a_tr_fork a_tr_settings tr_fruits tr_standings tr_comingFruits tr_comingStandings tr_worth) → va_S A s.heap H locs → lv_has ls 9 [(0, .ref a_tr), (1, .int x1), (2, .int x2), (4, .int x4), (5, .int x5), (6, .int x6), (7, .int x7)] → W p l e rm_X3_fillWorths s m args below meth c H locs 0 0 (MQ below (q_X3_fillWorths dC dI cI cC cZ cB cJ A a_tr a_tr_x a_tr_height a_tr_worth a_tr_ripe a_tr_foot a_tr_fork a_tr_settings tr_fruits tr_standings tr_comingFruits tr_comingStandings post) args s 0 0 A) (F0 m 70 ls [.int k2, .int k1, .ref a_tr_worth]) := by
  obtain ⟨hx, hb, hr, hml, hown, hts, hlocks, hA, hK, hN, tL, tM, hZL, hTL, hZM, hTM, hZX⟩ := id C0
  intro x1 x2 x4 x5 x6 x7 k1 k2 tr_worth H locs ls hp hP hD hS hl
  unfold ws_X3_fillWorths_70 at hp
  have hin := hp.1
  have hp := hp.2
  refine va_iast hx hb hK hP hD hS 1 0 rfl rfl hin eX3_fillWorths_60.2.2.2.2.1 (fun H locs hP hD hS => ?_)
  have hP : va_P (dC, dI) classes (wd_X3_fillWorths cI cC cZ cB cJ a_tr a_tr_x a_tr_height a_tr_worth a_tr_ripe a_tr_foot a_tr_fork a_tr_settings tr_fruits tr_standings tr_comingFruits tr_comingStandings (upd tr_worth k1.toNatClampNeg k2)) H := hP
  have hD : va_D A (wd_X3_fillWorths cI cC cZ cB cJ a_tr a_tr_x a_tr_height a_tr_worth a_tr_ripe a_tr_foot a_tr_fork a_tr_settings tr_fruits tr_standings tr_comingFruits tr_comingStandings (upd tr_worth k1.toNatClampNeg k2)) := hD
  refine lv_iload hx hb eX3_fillWorths_60.2.2.2.2.2.1 (lv_at hl 4 rfl) ?_
  refine lv_aload_n hx hb eX3_fillWorths_60.2.2.2.2.2.2.1 rfl (lv_at hl 0 rfl) ?_
  refine va_get (D := (dC, dI)) (ci := 3) (v := .ref a_tr_worth) (C := RX3) (T := TX3) (N := 11) hx hb hts i_X3 hown hK hP 0 rfl rfl 2 (Nat.le_of_ble_eq_true rfl) (hts _ q_51) (fun _ h9 => h9) rfl eX3_fillWorths_60.2.2.2.2.2.2.2.1 ?_
  refine lv_iload hx hb eX3_fillWorths_60.2.2.2.2.2.2.2.2.1 (lv_at hl 6 rfl) ?_
  have hin := hp.1
  have hp := hp.2
  refine va_iald hx hb hK hP 1 0 rfl rfl hin eX3_fillWorths_60.2.2.2.2.2.2.2.2.2.1 ?_
  refine lv_iadd hx hb eX3_fillWorths_60.2.2.2.2.2.2.2.2.2.2.1 ?_
  refine lv_topi (fun v_1 ev_1 => ?_)
  have hp := hp v_1 ev_1
  refine lv_istore (lv' := [(5, .int v_1), (0, .ref a_tr), (1, .int x1), (2, .int x2), (4, .int x4), (6, .int x6), (7, .int x7)]) hx hb eX3_fillWorths_60.2.2.2.2.2.2.2.2.2.2.2.1 hl (by decide) rfl (fun ls hl => ?_)
  refine lv_iload hx hb eX3_fillWorths_60.2.2.2.2.2.2.2.2.2.2.2.2.1 (lv_at hl 5 rfl) ?_
  refine lv_iload hx hb eX3_fillWorths_60.2.2.2.2.2.2.2.2.2.2.2.2.2.1 (lv_at hl 4 rfl) ?_
  refine lv_iadd hx hb eX3_fillWorths_60.2.2.2.2.2.2.2.2.2.2.2.2.2.2.1 ?_
  refine lv_topi (fun v_2 ev_2 => ?_)
  have hp := hp v_2 ev_2
  refine lv_istore (lv' := [(6, .int v_2), (5, .int v_1), (0, .ref a_tr), (1, .int x1), (2, .int x2), (4, .int x4), (7, .int x7)]) hx hb eX3_fillWorths_60.2.2.2.2.2.2.2.2.2.2.2.2.2.2.2 hl (by decide) rfl (fun ls hl => ?_)
  obtain ⟨v_3, ev_3⟩ : ∃ y : Int32, y = x7 + 1 := ⟨_, rfl⟩
  refine lv_iinc (v := v_3) (lv' := [(7, .int v_3), (6, .int v_2), (5, .int v_1), (0, .ref a_tr), (1, .int x1), (2, .int x2), (4, .int x4)]) hx hb eX3_fillWorths_90.1 hl (k := 6) rfl (by rw [ev_3]; rfl) (by decide) rfl (fun ls hl => ?_)
  have hp := hp v_3 ev_3
  refine lv_goto (tgt := 9) hx hb eX3_fillWorths_90.2.1 (by decide) ?_
  exact hK9 x1 x2 x4 v_1 v_2 v_3 (upd tr_worth k1.toNatClampNeg k2) H locs ls hp hP hD hS (lv_sub hl [3, 4, 5, 6, 2, 1, 0] rfl)
def ws_X3_fillWorths_41 (post : Int32 → (Nat → Int32) → Prop) (K9 : Int32 → Int32 → Int32 → Int32 → Int32 → Int32 → (Nat → Int32) → Prop) (tr_fruits : Int32) (x1 : Int32) (x2 : Int32) (x4 : Int32) (x5 : Int32) (x6 : Int32) (x7 : Int32) (k0 : Int32) (tr_worth : Nat → Int32) : Prop := (x2 ≤ x7 → ws_X3_fillWorths_70 post K9 tr_fruits x1 x2 x4 x5 x6 x7 x7 0 tr_worth) ∧ (¬ x2 ≤ x7 → ∀ v_4 : Int32, v_4 = (if k0 < 9 then k0 else 9) → ∀ v_5 : Int32, v_5 = (if 0 < v_4 then v_4 else 0) → ws_X3_fillWorths_70 post K9 tr_fruits x1 x2 x4 x5 x6 x7 x7 v_5 tr_worth)
set_option maxHeartbeats 4000000 in
set_option maxRecDepth 100000 in
theorem ks_X3_fillWorths_41 (C0 : gc cX3_fillWorths (some .int) 9 RX3 (dC, dI) (tyl cI cC cZ cB cJ) A p s m args meth c) {K9 : Int32 → Int32 → Int32 → Int32 → Int32 → Int32 → (Nat → Int32) → Prop} (hK9 : ∀ (x1 : Int32) (x2 : Int32) (x4 : Int32) (x5 : Int32) (x6 : Int32) (x7 : Int32) (tr_worth : Nat → Int32) (H : Heap) (locs : List Loc) (ls : Array Slot), K9 x1 x2 x4 x5 x6 x7 tr_worth → va_P (dC, dI) classes (wd_X3_fillWorths cI cC cZ cB cJ a_tr a_tr_x a_tr_height a_tr_worth a_tr_ripe a_tr_foot a_tr_fork a_tr_settings tr_fruits tr_standings tr_comingFruits tr_comingStandings tr_worth) H → va_D A (wd_X3_fillWorths cI cC cZ cB cJ a_tr a_tr_x a_tr_height a_tr_worth a_tr_ripe a_tr_foot a_tr_fork a_tr_settings tr_fruits tr_standings tr_comingFruits tr_comingStandings tr_worth) → va_S A s.heap H locs → lv_has ls 9 [(0, .ref a_tr), (1, .int x1), (2, .int x2), (4, .int x4), (5, .int x5), (6, .int x6), (7, .int x7)] → W p l e rm_X3_fillWorths s m args below meth c H locs 0 0 (MQ below (q_X3_fillWorths dC dI cI cC cZ cB cJ A a_tr a_tr_x a_tr_height a_tr_worth a_tr_ripe a_tr_foot a_tr_fork a_tr_settings tr_fruits tr_standings tr_comingFruits tr_comingStandings post) args s 0 0 A) (F0 m 9 ls [])) : ∀ (x1 : Int32) (x2 : Int32) (x4 : Int32) (x5 : Int32) (x6 : Int32) (x7 : Int32) (k0 : Int32) (tr_worth : Nat → Int32) (H : Heap) (locs : List Loc) (ls : Array Slot), (ws_X3_fillWorths_41 post K9 tr_fruits) x1 x2 x4 x5 x6 x7 k0 tr_worth → va_P (dC, dI) classes (wd_X3_fillWorths cI cC cZ cB cJ a_tr a_tr_x a_tr_height a_tr_worth a_tr_ripe a_tr_foot a_tr_fork a_tr_settings tr_fruits tr_standings tr_comingFruits tr_comingStandings tr_worth) H → va_D A (wd_X3_fillWorths cI cC cZ cB cJ a_tr a_tr_x a_tr_height a_tr_worth a_tr_ripe a_tr_foot a_tr_fork a_tr_settings tr_fruits tr_standings tr_comingFruits tr_comingStandings tr_worth) → va_S A s.heap H locs → lv_has ls 9 [(0, .ref a_tr), (1, .int x1), (2, .int x2), (4, .int x4), (5, .int x5), (6, .int x6), (7, .int x7)] → W p l e rm_X3_fillWorths s m args below meth c H locs 0 0 (MQ below (q_X3_fillWorths dC dI cI cC cZ cB cJ A a_tr a_tr_x a_tr_height a_tr_worth a_tr_ripe a_tr_foot a_tr_fork a_tr_settings tr_fruits tr_standings tr_comingFruits tr_comingStandings post) args s 0 0 A) (F0 m 41 ls [.int k0]) := by
  obtain ⟨hx, hb, hr, hml, hown, hts, hlocks, hA, hK, hN, tL, tM, hZL, hTL, hZM, hTM, hZX⟩ := id C0
  intro x1 x2 x4 x5 x6 x7 k0 tr_worth H locs ls hp hP hD hS hl
  unfold ws_X3_fillWorths_41 at hp
  refine lv_istore (lv' := [(8, .int k0), (0, .ref a_tr), (1, .int x1), (2, .int x2), (4, .int x4), (5, .int x5), (6, .int x6), (7, .int x7)]) hx hb eX3_fillWorths_29.2.2.2.2.2.2.1 hl (by decide) rfl (fun ls hl => ?_)
  refine lv_aload_n hx hb eX3_fillWorths_29.2.2.2.2.2.2.2.1 rfl (lv_at hl 1 rfl) ?_
  refine va_get (D := (dC, dI)) (ci := 3) (v := .ref a_tr_worth) (C := RX3) (T := TX3) (N := 11) hx hb hts i_X3 hown hK hP 0 rfl rfl 2 (Nat.le_of_ble_eq_true rfl) (hts _ q_51) (fun _ h9 => h9) rfl eX3_fillWorths_29.2.2.2.2.2.2.2.2.1 ?_
  refine lv_iload hx hb eX3_fillWorths_29.2.2.2.2.2.2.2.2.2.1 (lv_at hl 7 rfl) ?_
  refine lv_iload hx hb eX3_fillWorths_29.2.2.2.2.2.2.2.2.2.2.1 (lv_at hl 7 rfl) ?_
  refine lv_iload_n hx hb eX3_fillWorths_29.2.2.2.2.2.2.2.2.2.2.2.1 rfl (lv_at hl 3 rfl) ?_
  refine lv_icmp_ge (tgt := 69) hx hb eX3_fillWorths_29.2.2.2.2.2.2.2.2.2.2.2.2.1 (by decide) (fun hc => ?_) (fun hc => ?_)
  · have hp := hp.1 hc
    refine lv_iconst (v := 0) hx hb eX3_fillWorths_60.2.2.2.1 (by decide) ?_
    exact ks_X3_fillWorths_70 C0 hK9 x1 x2 x4 x5 x6 x7 x7 0 tr_worth H locs ls hp hP hD hS (lv_sub hl [1, 2, 3, 4, 5, 6, 7] rfl)
  · have hp := hp.2 hc
    refine lv_iconst (v := 0) hx hb eX3_fillWorths_29.2.2.2.2.2.2.2.2.2.2.2.2.2.1 (by decide) ?_
    refine lv_bipush (v := 9) hx hb eX3_fillWorths_29.2.2.2.2.2.2.2.2.2.2.2.2.2.2.1 (by decide) ?_
    refine lv_iload hx hb eX3_fillWorths_29.2.2.2.2.2.2.2.2.2.2.2.2.2.2.2 (lv_at hl 0 rfl) ?_
    refine va_mmin hx hb (by rw [hml]; exact hl.1.symm) hown (hts _ q_208) (hts _ q_15) (hts _ q_16) (hts _ q_17) (Nat.le_of_ble_eq_true rfl) (Nat.le_of_ble_eq_true rfl) (Nat.zero_le _) (Nat.zero_le _) eX3_fillWorths_60.1 ?_
    refine lv_topi (fun v_4 ev_4 => ?_)
    have hp := hp v_4 ev_4
    refine va_mmax hx hb (by rw [hml]; exact hl.1.symm) hown (hts _ q_209) (hts _ q_134) (hts _ q_16) (hts _ q_135) (Nat.le_of_ble_eq_true rfl) (Nat.le_of_ble_eq_true rfl) (Nat.zero_le _) (Nat.zero_le _) eX3_fillWorths_60.2.1 ?_
    refine lv_topi (fun v_5 ev_5 => ?_)
    have hp := hp v_5 ev_5
    refine lv_goto (tgt := 70) hx hb eX3_fillWorths_60.2.2.1 (by decide) ?_
    exact ks_X3_fillWorths_70 C0 hK9 x1 x2 x4 x5 x6 x7 x7 v_5 tr_worth H locs ls hp hP hD hS (lv_sub hl [1, 2, 3, 4, 5, 6, 7] rfl)
def ws_X3_fillWorths_9 (post : Int32 → (Nat → Int32) → Prop) (next : Int32 → Int32 → Int32 → Int32 → Int32 → Int32 → (Nat → Int32) → Prop) (tr_fruits : Int32) (x1 : Int32) (x2 : Int32) (x4 : Int32) (x5 : Int32) (x6 : Int32) (x7 : Int32) (tr_worth : Nat → Int32) : Prop := (tr_fruits ≤ x7 → post x5 tr_worth) ∧ (¬ tr_fruits ≤ x7 → (¬ x1 = 0 → (¬ x1 = 1 → ws_X3_fillWorths_41 post next tr_fruits x1 x2 x4 x5 x6 x7 x6 tr_worth) ∧ (x1 = 1 → ∀ v_6 : Int32, v_6 = x6.toInt16.toInt32 → ws_X3_fillWorths_41 post next tr_fruits x1 x2 x4 x5 x6 x7 v_6 tr_worth)) ∧ (x1 = 0 → ∀ v_7 : Int32, v_7 = x6.toInt8.toInt32 → ws_X3_fillWorths_41 post next tr_fruits x1 x2 x4 x5 x6 x7 v_7 tr_worth))
noncomputable def wb_X3_fillWorths_9 (post : Int32 → (Nat → Int32) → Prop) (tr_fruits : Int32) : Nat → Int32 → Int32 → Int32 → Int32 → Int32 → Int32 → (Nat → Int32) → Prop := fun n => Nat.rec (motive := fun _ => Int32 → Int32 → Int32 → Int32 → Int32 → Int32 → (Nat → Int32) → Prop) (fun _ _ _ _ _ _ _ => False) (fun _ ih => ws_X3_fillWorths_9 post ih tr_fruits) n
set_option maxHeartbeats 4000000 in
set_option maxRecDepth 100000 in
theorem ks_X3_fillWorths_9 (C0 : gc cX3_fillWorths (some .int) 9 RX3 (dC, dI) (tyl cI cC cZ cB cJ) A p s m args meth c) {next : Int32 → Int32 → Int32 → Int32 → Int32 → Int32 → (Nat → Int32) → Prop} (hKn : ∀ (x1 : Int32) (x2 : Int32) (x4 : Int32) (x5 : Int32) (x6 : Int32) (x7 : Int32) (tr_worth : Nat → Int32) (H : Heap) (locs : List Loc) (ls : Array Slot), next x1 x2 x4 x5 x6 x7 tr_worth → va_P (dC, dI) classes (wd_X3_fillWorths cI cC cZ cB cJ a_tr a_tr_x a_tr_height a_tr_worth a_tr_ripe a_tr_foot a_tr_fork a_tr_settings tr_fruits tr_standings tr_comingFruits tr_comingStandings tr_worth) H → va_D A (wd_X3_fillWorths cI cC cZ cB cJ a_tr a_tr_x a_tr_height a_tr_worth a_tr_ripe a_tr_foot a_tr_fork a_tr_settings tr_fruits tr_standings tr_comingFruits tr_comingStandings tr_worth) → va_S A s.heap H locs → lv_has ls 9 [(0, .ref a_tr), (1, .int x1), (2, .int x2), (4, .int x4), (5, .int x5), (6, .int x6), (7, .int x7)] → W p l e rm_X3_fillWorths s m args below meth c H locs 0 0 (MQ below (q_X3_fillWorths dC dI cI cC cZ cB cJ A a_tr a_tr_x a_tr_height a_tr_worth a_tr_ripe a_tr_foot a_tr_fork a_tr_settings tr_fruits tr_standings tr_comingFruits tr_comingStandings post) args s 0 0 A) (F0 m 9 ls [])) : ∀ (x1 : Int32) (x2 : Int32) (x4 : Int32) (x5 : Int32) (x6 : Int32) (x7 : Int32) (tr_worth : Nat → Int32) (H : Heap) (locs : List Loc) (ls : Array Slot), (ws_X3_fillWorths_9 post next tr_fruits) x1 x2 x4 x5 x6 x7 tr_worth → va_P (dC, dI) classes (wd_X3_fillWorths cI cC cZ cB cJ a_tr a_tr_x a_tr_height a_tr_worth a_tr_ripe a_tr_foot a_tr_fork a_tr_settings tr_fruits tr_standings tr_comingFruits tr_comingStandings tr_worth) H → va_D A (wd_X3_fillWorths cI cC cZ cB cJ a_tr a_tr_x a_tr_height a_tr_worth a_tr_ripe a_tr_foot a_tr_fork a_tr_settings tr_fruits tr_standings tr_comingFruits tr_comingStandings tr_worth) → va_S A s.heap H locs → lv_has ls 9 [(0, .ref a_tr), (1, .int x1), (2, .int x2), (4, .int x4), (5, .int x5), (6, .int x6), (7, .int x7)] → W p l e rm_X3_fillWorths s m args below meth c H locs 0 0 (MQ below (q_X3_fillWorths dC dI cI cC cZ cB cJ A a_tr a_tr_x a_tr_height a_tr_worth a_tr_ripe a_tr_foot a_tr_fork a_tr_settings tr_fruits tr_standings tr_comingFruits tr_comingStandings post) args s 0 0 A) (F0 m 9 ls []) := by
  obtain ⟨hx, hb, hr, hml, hown, hts, hlocks, hA, hK, hN, tL, tM, hZL, hTL, hZM, hTM, hZX⟩ := id C0
  intro x1 x2 x4 x5 x6 x7 tr_worth H locs ls hp hP hD hS hl
  unfold ws_X3_fillWorths_9 at hp
  refine lv_iload hx hb eX3_fillWorths_0.2.2.2.2.2.2.1 (lv_at hl 6 rfl) ?_
  refine lv_aload_n hx hb eX3_fillWorths_0.2.2.2.2.2.2.2.1 rfl (lv_at hl 0 rfl) ?_
  refine va_get (D := (dC, dI)) (ci := 3) (v := .int tr_fruits) (C := RX3) (T := TX3) (N := 11) hx hb hts i_X3 hown hK hP 0 rfl rfl 7 (Nat.le_of_ble_eq_true rfl) (hts _ q_20) (fun _ h9 => h9) rfl eX3_fillWorths_0.2.2.2.2.2.2.2.2.1 ?_
  refine lv_icmp_ge (tgt := 96) hx hb eX3_fillWorths_0.2.2.2.2.2.2.2.2.2.1 (by decide) (fun hc => ?_) (fun hc => ?_)
  · have hp := hp.1 hc
    refine lv_iload hx hb eX3_fillWorths_90.2.2.1 (lv_at hl 4 rfl) ?_
    exact W.iret (v := x5) hx hb hr (fun t ht hW => ⟨⟨x5, tr_worth, rfl, hp, by rw [ht]; exact hP, va_K.moved hW.alike hK, hD⟩, hS.F ht⟩) hS.2.2 eX3_fillWorths_90.2.2.2
  · have hp := hp.2 hc
    refine lv_iload_n hx hb eX3_fillWorths_0.2.2.2.2.2.2.2.2.2.2.1 rfl (lv_at hl 1 rfl) ?_
    refine lv_if_ne (tgt := 28) hx hb eX3_fillWorths_0.2.2.2.2.2.2.2.2.2.2.2.1 (by decide) (fun hc => ?_) (fun hc => ?_)
    · have hp := hp.1 hc
      refine lv_iload_n hx hb eX3_fillWorths_0.2.2.2.2.2.2.2.2.2.2.2.2.2.2.2 rfl (lv_at hl 1 rfl) ?_
      refine lv_iconst (v := 1) hx hb eX3_fillWorths_29.1 (by decide) ?_
      refine lv_icmp_ne (tgt := 39) hx hb eX3_fillWorths_29.2.1 (by decide) (fun hc => ?_) (fun hc => ?_)
      · have hp := hp.1 hc
        refine lv_iload hx hb eX3_fillWorths_29.2.2.2.2.2.1 (lv_at hl 5 rfl) ?_
        exact ks_X3_fillWorths_41 C0 hKn x1 x2 x4 x5 x6 x7 x6 tr_worth H locs ls hp hP hD hS (lv_sub hl [0, 1, 2, 3, 4, 5, 6] rfl)
      · have hp := hp.2 hc
        refine lv_iload hx hb eX3_fillWorths_29.2.2.1 (lv_at hl 5 rfl) ?_
        refine lv_i2s hx hb eX3_fillWorths_29.2.2.2.1 rfl ?_
        refine lv_topi (fun v_6 ev_6 => ?_)
        have hp := hp v_6 ev_6
        refine lv_goto (tgt := 41) hx hb eX3_fillWorths_29.2.2.2.2.1 (by decide) ?_
        exact ks_X3_fillWorths_41 C0 hKn x1 x2 x4 x5 x6 x7 v_6 tr_worth H locs ls hp hP hD hS (lv_sub hl [0, 1, 2, 3, 4, 5, 6] rfl)
    · have hp := hp.2 hc
      refine lv_iload hx hb eX3_fillWorths_0.2.2.2.2.2.2.2.2.2.2.2.2.1 (lv_at hl 5 rfl) ?_
      refine lv_i2b hx hb eX3_fillWorths_0.2.2.2.2.2.2.2.2.2.2.2.2.2.1 rfl ?_
      refine lv_topi (fun v_7 ev_7 => ?_)
      have hp := hp v_7 ev_7
      refine lv_goto (tgt := 41) hx hb eX3_fillWorths_0.2.2.2.2.2.2.2.2.2.2.2.2.2.2.1 (by decide) ?_
      exact ks_X3_fillWorths_41 C0 hKn x1 x2 x4 x5 x6 x7 v_7 tr_worth H locs ls hp hP hD hS (lv_sub hl [0, 1, 2, 3, 4, 5, 6] rfl)
set_option maxHeartbeats 4000000 in
set_option maxRecDepth 100000 in
theorem kb_X3_fillWorths_9 (C0 : gc cX3_fillWorths (some .int) 9 RX3 (dC, dI) (tyl cI cC cZ cB cJ) A p s m args meth c) : ∀ (n : Nat), ∀ (x1 : Int32) (x2 : Int32) (x4 : Int32) (x5 : Int32) (x6 : Int32) (x7 : Int32) (tr_worth : Nat → Int32) (H : Heap) (locs : List Loc) (ls : Array Slot), (wb_X3_fillWorths_9 post tr_fruits n) x1 x2 x4 x5 x6 x7 tr_worth → va_P (dC, dI) classes (wd_X3_fillWorths cI cC cZ cB cJ a_tr a_tr_x a_tr_height a_tr_worth a_tr_ripe a_tr_foot a_tr_fork a_tr_settings tr_fruits tr_standings tr_comingFruits tr_comingStandings tr_worth) H → va_D A (wd_X3_fillWorths cI cC cZ cB cJ a_tr a_tr_x a_tr_height a_tr_worth a_tr_ripe a_tr_foot a_tr_fork a_tr_settings tr_fruits tr_standings tr_comingFruits tr_comingStandings tr_worth) → va_S A s.heap H locs → lv_has ls 9 [(0, .ref a_tr), (1, .int x1), (2, .int x2), (4, .int x4), (5, .int x5), (6, .int x6), (7, .int x7)] → W p l e rm_X3_fillWorths s m args below meth c H locs 0 0 (MQ below (q_X3_fillWorths dC dI cI cC cZ cB cJ A a_tr a_tr_x a_tr_height a_tr_worth a_tr_ripe a_tr_foot a_tr_fork a_tr_settings tr_fruits tr_standings tr_comingFruits tr_comingStandings post) args s 0 0 A) (F0 m 9 ls []) := by
  intro n
  induction n with
  | zero =>
    intro x1 x2 x4 x5 x6 x7 tr_worth H locs ls hp
    exact False.elim hp
  | succ n ih =>
    intro x1 x2 x4 x5 x6 x7 tr_worth H locs ls hp
    exact ks_X3_fillWorths_9 C0 ih x1 x2 x4 x5 x6 x7 tr_worth H locs ls hp
end S_X3_fillWorths
def wp_X3_fillWorths (post : Int32 → (Nat → Int32) → Prop) (p0 : Int32) (p1 : Int32) (p2 : Int32) (p3 : Int32) (tr_fruits : Int32) (tr_worth : Nat → Int32) : Prop := ∃ n : Nat, wb_X3_fillWorths_9 post tr_fruits n p0 p1 p3 0 p2 0 tr_worth
set_option maxHeartbeats 4000000 in
set_option maxRecDepth 100000 in
theorem c_X3_fillWorths (l : Launch) (dC : Nat → ClassId) (dI : Nat → Nat → Nat) (cI cC cZ cB cJ : ClassId) (a_tr : Nat) (a_tr_x : Nat) (a_tr_height : Nat) (a_tr_worth : Nat) (a_tr_ripe : Nat) (a_tr_foot : Nat) (a_tr_fork : Nat) (a_tr_settings : Nat) (sz : Nat) (p0 : Int32) (p1 : Int32) (p2 : Int32) (p3 : Int32) (tr_fruits : Int32) (tr_standings : Int32) (tr_comingFruits : Int32) (tr_comingStandings : Int32) (tr_worth : Nat → Int32) (post : Int32 → (Nat → Int32) → Prop) (hw : wp_X3_fillWorths post p0 p1 p2 p3 tr_fruits tr_worth) : Met l yX3_fillWorths (gw yX3_fillWorths cX3_fillWorths 9 (some .int)) rm_X3_fillWorths (va_Pc [.ref a_tr, .int p0, .int p1, .int p2, .int p3] (gPre (dC, dI) (tyl cI cC cZ cB cJ) (wd_X3_fillWorths cI cC cZ cB cJ a_tr a_tr_x a_tr_height a_tr_worth a_tr_ripe a_tr_foot a_tr_fork a_tr_settings tr_fruits tr_standings tr_comingFruits tr_comingStandings tr_worth) sz)) (q_X3_fillWorths dC dI cI cC cZ cB cJ (va_A (wd_X3_fillWorths cI cC cZ cB cJ a_tr a_tr_x a_tr_height a_tr_worth a_tr_ripe a_tr_foot a_tr_fork a_tr_settings tr_fruits tr_standings tr_comingFruits tr_comingStandings tr_worth) sz) a_tr a_tr_x a_tr_height a_tr_worth a_tr_ripe a_tr_foot a_tr_fork a_tr_settings tr_fruits tr_standings tr_comingFruits tr_comingStandings post) 0 0 (va_A (wd_X3_fillWorths cI cC cZ cB cJ a_tr a_tr_x a_tr_height a_tr_worth a_tr_ripe a_tr_foot a_tr_fork a_tr_settings tr_fruits tr_standings tr_comingFruits tr_comingStandings tr_worth) sz) := by
  refine g_enter (own := RX3) (dC, dI) (tyl cI cC cZ cB cJ) (wd_X3_fillWorths cI cC cZ cB cJ a_tr a_tr_x a_tr_height a_tr_worth a_tr_ripe a_tr_foot a_tr_fork a_tr_settings tr_fruits tr_standings tr_comingFruits tr_comingStandings tr_worth) sz [.ref a_tr, .int p0, .int p1, .int p2, .int p3] (fun A => q_X3_fillWorths dC dI cI cC cZ cB cJ A a_tr a_tr_x a_tr_height a_tr_worth a_tr_ripe a_tr_foot a_tr_fork a_tr_settings tr_fruits tr_standings tr_comingFruits tr_comingStandings post) (by decide) rfl (Nat.le_of_ble_eq_true rfl) ?_
  intro p e s m args below meth c A H locs ls C0 hP hD hS hl
  have hl : lv_has ls 9 [(0, .ref a_tr), (1, .int p0), (2, .int p1), (3, .int p2), (4, .int p3)] := hl
  obtain ⟨hx, hb, hr, hml, hown, hts, hlocks, hA, hK, hN, tL, tM, hZL, hTL, hZM, hTM, hZX⟩ := id C0
  have hp := hw
  unfold wp_X3_fillWorths at hp
  refine lv_iconst (v := 0) hx hb eX3_fillWorths_0.1 (by decide) ?_
  refine lv_istore (lv' := [(5, .int 0), (0, .ref a_tr), (1, .int p0), (2, .int p1), (3, .int p2), (4, .int p3)]) hx hb eX3_fillWorths_0.2.1 hl (by decide) rfl (fun ls hl => ?_)
  refine lv_iload_n hx hb eX3_fillWorths_0.2.2.1 rfl (lv_at hl 4 rfl) ?_
  refine lv_istore (lv' := [(6, .int p2), (5, .int 0), (0, .ref a_tr), (1, .int p0), (2, .int p1), (3, .int p2), (4, .int p3)]) hx hb eX3_fillWorths_0.2.2.2.1 hl (by decide) rfl (fun ls hl => ?_)
  refine lv_iconst (v := 0) hx hb eX3_fillWorths_0.2.2.2.2.1 (by decide) ?_
  refine lv_istore (lv' := [(7, .int 0), (6, .int p2), (5, .int 0), (0, .ref a_tr), (1, .int p0), (2, .int p1), (3, .int p2), (4, .int p3)]) hx hb eX3_fillWorths_0.2.2.2.2.2.1 hl (by decide) rfl (fun ls hl => ?_)
  obtain ⟨n9, hp⟩ := hp
  exact kb_X3_fillWorths_9 C0 n9 p0 p1 p3 0 p2 0 tr_worth H locs ls hp hP hD hS (lv_sub hl [3, 4, 5, 7, 2, 1, 0] rfl)
abbrev wd_X9_sheet (cI cC cZ cB cJ : ClassId) (a_x : Nat) (a_tx : Nat) (a_pl : Nat) (a_ga : Nat) (a_tr : Nat) (a_no : Nat) (a_pa : Nat) (a_ro : Nat) (a_mk : Nat) (a_x_acts : Nat) (a_tr_x : Nat) (a_tr_height : Nat) (a_tr_worth : Nat) (a_tr_ripe : Nat) (a_tr_foot : Nat) (a_tr_fork : Nat) (a_tr_settings : Nat) (tr_fruits : Int32) (tr_standings : Int32) (tr_comingFruits : Int32) (tr_comingStandings : Int32) (tr_worth : Nat → Int32) : va_W := [(a_x, .inr (9, [.ref a_tx, .ref a_pl, .ref a_ga, .ref a_tr, .ref a_no, .ref a_pa, .ref a_ro, .ref a_mk, .ref a_x_acts])), (a_tr, .inr (3, [.ref a_tr_x, .ref a_tr_height, .ref a_tr_worth, .ref a_tr_ripe, .ref a_tr_foot, .ref a_tr_fork, .ref a_tr_settings, .int tr_fruits, .int tr_standings, .int tr_comingFruits, .int tr_comingStandings])), (a_tr_worth, .inl (cI, 16, .inl tr_worth))]
abbrev q_X9_sheet (dC : Nat → ClassId) (dI : Nat → Nat → Nat) (cI cC cZ cB cJ : ClassId) (A : Nat → Prop) (a_x : Nat) (a_tx : Nat) (a_pl : Nat) (a_ga : Nat) (a_tr : Nat) (a_no : Nat) (a_pa : Nat) (a_ro : Nat) (a_mk : Nat) (a_x_acts : Nat) (a_tr_x : Nat) (a_tr_height : Nat) (a_tr_worth : Nat) (a_tr_ripe : Nat) (a_tr_foot : Nat) (a_tr_fork : Nat) (a_tr_settings : Nat) (tr_fruits : Int32) (tr_standings : Int32) (tr_comingFruits : Int32) (tr_comingStandings : Int32) (post : Int32 → (Nat → Int32) → Prop) : Array Value → State → Outcome → State → Prop := va_Qi (fun (r : Int32) (u : (Nat → Int32)) => post r u) (fun u t => gB (dC, dI) (tyl cI cC cZ cB cJ) A (wd_X9_sheet cI cC cZ cB cJ a_x a_tx a_pl a_ga a_tr a_no a_pa a_ro a_mk a_x_acts a_tr_x a_tr_height a_tr_worth a_tr_ripe a_tr_foot a_tr_fork a_tr_settings tr_fruits tr_standings tr_comingFruits tr_comingStandings u) t) A
abbrev rm_X9_sheet : Room := { frames := 2, cells := 0, slots := 0, locals := 49 }
def wp_X9_sheet (post : Int32 → (Nat → Int32) → Prop) (p0 : Int32) (p1 : Int32) (p2 : Int32) (p3 : Int32) (tr_fruits : Int32) (tr_worth : Nat → Int32) : Prop := (p0 < 0 → post (-1) tr_worth) ∧ (¬ p0 < 0 → (3 < p0 → post (-1) tr_worth) ∧ (¬ 3 < p0 → (p1 ≤ 16 → (¬ p0 = 3 → (0 ≤ p1 → wp_X3_fillWorths (fun r_1 tr_worth_2 => post r_1 tr_worth_2) p0 p1 p2 p3 tr_fruits tr_worth) ∧ (¬ 0 ≤ p1 → post (-2) tr_worth)) ∧ (p0 = 3 → wp_X3_fillWorths (fun r_3 tr_worth_4 => post (-3) tr_worth_4) 2 0 0 0 tr_fruits tr_worth)) ∧ (¬ p1 ≤ 16 → post (-1) tr_worth)))
set_option maxHeartbeats 4000000 in
set_option maxRecDepth 100000 in
theorem c_X9_sheet (l : Launch) (dC : Nat → ClassId) (dI : Nat → Nat → Nat) (cI cC cZ cB cJ : ClassId) (a_x : Nat) (a_tx : Nat) (a_pl : Nat) (a_ga : Nat) (a_tr : Nat) (a_no : Nat) (a_pa : Nat) (a_ro : Nat) (a_mk : Nat) (a_x_acts : Nat) (a_tr_x : Nat) (a_tr_height : Nat) (a_tr_worth : Nat) (a_tr_ripe : Nat) (a_tr_foot : Nat) (a_tr_fork : Nat) (a_tr_settings : Nat) (sz : Nat) (p0 : Int32) (p1 : Int32) (p2 : Int32) (p3 : Int32) (tr_fruits : Int32) (tr_standings : Int32) (tr_comingFruits : Int32) (tr_comingStandings : Int32) (tr_worth : Nat → Int32) (post : Int32 → (Nat → Int32) → Prop) (hw : wp_X9_sheet post p0 p1 p2 p3 tr_fruits tr_worth) : Met l yX9_sheet (gw yX9_sheet cX9_sheet 5 (some .int)) rm_X9_sheet (va_Pc [.ref a_x, .int p0, .int p1, .int p2, .int p3] (gPre (dC, dI) (tyl cI cC cZ cB cJ) (wd_X9_sheet cI cC cZ cB cJ a_x a_tx a_pl a_ga a_tr a_no a_pa a_ro a_mk a_x_acts a_tr_x a_tr_height a_tr_worth a_tr_ripe a_tr_foot a_tr_fork a_tr_settings tr_fruits tr_standings tr_comingFruits tr_comingStandings tr_worth) sz)) (q_X9_sheet dC dI cI cC cZ cB cJ (va_A (wd_X9_sheet cI cC cZ cB cJ a_x a_tx a_pl a_ga a_tr a_no a_pa a_ro a_mk a_x_acts a_tr_x a_tr_height a_tr_worth a_tr_ripe a_tr_foot a_tr_fork a_tr_settings tr_fruits tr_standings tr_comingFruits tr_comingStandings tr_worth) sz) a_x a_tx a_pl a_ga a_tr a_no a_pa a_ro a_mk a_x_acts a_tr_x a_tr_height a_tr_worth a_tr_ripe a_tr_foot a_tr_fork a_tr_settings tr_fruits tr_standings tr_comingFruits tr_comingStandings post) 0 0 (va_A (wd_X9_sheet cI cC cZ cB cJ a_x a_tx a_pl a_ga a_tr a_no a_pa a_ro a_mk a_x_acts a_tr_x a_tr_height a_tr_worth a_tr_ripe a_tr_foot a_tr_fork a_tr_settings tr_fruits tr_standings tr_comingFruits tr_comingStandings tr_worth) sz) := by
  refine g_enter (own := RX9) (dC, dI) (tyl cI cC cZ cB cJ) (wd_X9_sheet cI cC cZ cB cJ a_x a_tx a_pl a_ga a_tr a_no a_pa a_ro a_mk a_x_acts a_tr_x a_tr_height a_tr_worth a_tr_ripe a_tr_foot a_tr_fork a_tr_settings tr_fruits tr_standings tr_comingFruits tr_comingStandings tr_worth) sz [.ref a_x, .int p0, .int p1, .int p2, .int p3] (fun A => q_X9_sheet dC dI cI cC cZ cB cJ A a_x a_tx a_pl a_ga a_tr a_no a_pa a_ro a_mk a_x_acts a_tr_x a_tr_height a_tr_worth a_tr_ripe a_tr_foot a_tr_fork a_tr_settings tr_fruits tr_standings tr_comingFruits tr_comingStandings post) (by decide) rfl (Nat.le_of_ble_eq_true rfl) ?_
  intro p e s m args below meth c A H locs ls C0 hP hD hS hl
  have hl : lv_has ls 5 [(0, .ref a_x), (1, .int p0), (2, .int p1), (3, .int p2), (4, .int p3)] := hl
  obtain ⟨hx, hb, hr, hml, hown, hts, hlocks, hA, hK, hN, tL, tM, hZL, hTL, hZM, hTM, hZX⟩ := id C0
  have hp := hw
  unfold wp_X9_sheet at hp
  refine lv_iload_n hx hb eX9_sheet_0.1 rfl (lv_at hl 1 rfl) ?_
  refine lv_if_lt (tgt := 15) hx hb eX9_sheet_0.2.1 (by decide) (fun hc => ?_) (fun hc => ?_)
  · have hp := hp.1 hc
    refine lv_iconst (v := (-1)) hx hb eX9_sheet_0.2.2.2.2.2.2.2.2.1 (by decide) ?_
    exact W.iret (v := (-1)) hx hb hr (fun t ht hW => ⟨⟨(-1), tr_worth, rfl, hp, by rw [ht]; exact hP, va_K.moved hW.alike hK, hD⟩, hS.F ht⟩) hS.2.2 eX9_sheet_0.2.2.2.2.2.2.2.2.2.1
  · have hp := hp.2 hc
    refine lv_iload_n hx hb eX9_sheet_0.2.2.1 rfl (lv_at hl 1 rfl) ?_
    refine lv_iconst (v := 3) hx hb eX9_sheet_0.2.2.2.1 (by decide) ?_
    refine lv_icmp_gt (tgt := 15) hx hb eX9_sheet_0.2.2.2.2.1 (by decide) (fun hc => ?_) (fun hc => ?_)
    · have hp := hp.1 hc
      refine lv_iconst (v := (-1)) hx hb eX9_sheet_0.2.2.2.2.2.2.2.2.1 (by decide) ?_
      exact W.iret (v := (-1)) hx hb hr (fun t ht hW => ⟨⟨(-1), tr_worth, rfl, hp, by rw [ht]; exact hP, va_K.moved hW.alike hK, hD⟩, hS.F ht⟩) hS.2.2 eX9_sheet_0.2.2.2.2.2.2.2.2.2.1
    · have hp := hp.2 hc
      refine lv_iload_n hx hb eX9_sheet_0.2.2.2.2.2.1 rfl (lv_at hl 2 rfl) ?_
      refine lv_bipush (v := 16) hx hb eX9_sheet_0.2.2.2.2.2.2.1 (by decide) ?_
      refine lv_icmp_le (tgt := 17) hx hb eX9_sheet_0.2.2.2.2.2.2.2.1 (by decide) (fun hc => ?_) (fun hc => ?_)
      · have hp := hp.1 hc
        refine lv_iload_n hx hb eX9_sheet_0.2.2.2.2.2.2.2.2.2.2.1 rfl (lv_at hl 1 rfl) ?_
        refine lv_iconst (v := 3) hx hb eX9_sheet_0.2.2.2.2.2.2.2.2.2.2.2.1 (by decide) ?_
        refine lv_icmp_ne (tgt := 37) hx hb eX9_sheet_0.2.2.2.2.2.2.2.2.2.2.2.2.1 (by decide) (fun hc => ?_) (fun hc => ?_)
        · have hp := hp.1 hc
          refine lv_iload_n hx hb eX9_sheet_27.2.2.2.2.2.2.2.1 rfl (lv_at hl 2 rfl) ?_
          refine lv_if_ge (tgt := 46) hx hb eX9_sheet_27.2.2.2.2.2.2.2.2.1 (by decide) (fun hc => ?_) (fun hc => ?_)
          · have hp := hp.1 hc
            refine lv_aload_n hx hb eX9_sheet_27.2.2.2.2.2.2.2.2.2.2.2.1 rfl (lv_at hl 0 rfl) ?_
            refine va_get (D := (dC, dI)) (ci := 9) (v := .ref a_tr) (C := RX9) (T := TX9) (N := 9) hx hb hts i_X9 hown hK hP 0 rfl rfl 3 (Nat.le_of_ble_eq_true rfl) (hts _ q_74) (fun _ h9 => h9) rfl eX9_sheet_27.2.2.2.2.2.2.2.2.2.2.2.2.1 ?_
            refine lv_iload_n hx hb eX9_sheet_27.2.2.2.2.2.2.2.2.2.2.2.2.2.1 rfl (lv_at hl 1 rfl) ?_
            refine lv_iload_n hx hb eX9_sheet_27.2.2.2.2.2.2.2.2.2.2.2.2.2.2.1 rfl (lv_at hl 2 rfl) ?_
            refine lv_iload_n hx hb eX9_sheet_27.2.2.2.2.2.2.2.2.2.2.2.2.2.2.2 rfl (lv_at hl 3 rfl) ?_
            refine lv_iload hx hb eX9_sheet_53.1 (lv_at hl 4 rfl) ?_
            refine g_calli (wc := (wd_X3_fillWorths cI cC cZ cB cJ a_tr a_tr_x a_tr_height a_tr_worth a_tr_ripe a_tr_foot a_tr_fork a_tr_settings tr_fruits tr_standings tr_comingFruits tr_comingStandings tr_worth)) hP hD hS hA [1, 2] [0] rfl rfl rfl rfl (g_runV (As := [.int p0, .int p1, .int p2, .int p3]) (rest := []) C0 hP hD hS [1, 2] rfl rfl 1 3 rfl rfl (c_X3_fillWorths l dC dI cI cC cZ cB cJ a_tr a_tr_x a_tr_height a_tr_worth a_tr_ripe a_tr_foot a_tr_fork a_tr_settings H.size p0 p1 p2 p3 tr_fruits tr_standings tr_comingFruits tr_comingStandings tr_worth _ hp) q_210 q_213 q_211 q_212 q_48 h_X3_fillWorths rfl rfl ⟨Nat.le_of_ble_eq_true rfl, Nat.le_of_ble_eq_true rfl⟩ rfl rfl hl.1 rfl (lv_room (Nat.le_of_ble_eq_true rfl)) eX9_sheet_53.2.1 ⟨Nat.zero_le _, Nat.zero_le _⟩) (fun r_1 u H locs hp hP hD hS => ?_)
            obtain ⟨tr_worth_2, rfl⟩ : ∃ z, z = u := ⟨_, rfl⟩
            have hPD := PDs (ws' := (wd_X9_sheet cI cC cZ cB cJ a_x a_tx a_pl a_ga a_tr a_no a_pa a_ro a_mk a_x_acts a_tr_x a_tr_height a_tr_worth a_tr_ripe a_tr_foot a_tr_fork a_tr_settings tr_fruits tr_standings tr_comingFruits tr_comingStandings tr_worth_2)) hP hD [0, 1, 2] (by decide) rfl
            have hP := hPD.1
            have hD := hPD.2
            exact W.iret (v := r_1) hx hb hr (fun t ht hW => ⟨⟨r_1, tr_worth_2, rfl, hp, by rw [ht]; exact hP, va_K.moved hW.alike hK, hD⟩, hS.F ht⟩) hS.2.2 eX9_sheet_53.2.2
          · have hp := hp.2 hc
            refine lv_bipush (v := (-2)) hx hb eX9_sheet_27.2.2.2.2.2.2.2.2.2.1 (by decide) ?_
            refine lv_goto (tgt := 58) hx hb eX9_sheet_27.2.2.2.2.2.2.2.2.2.2.1 (by decide) ?_
            exact W.iret (v := (-2)) hx hb hr (fun t ht hW => ⟨⟨(-2), tr_worth, rfl, hp, by rw [ht]; exact hP, va_K.moved hW.alike hK, hD⟩, hS.F ht⟩) hS.2.2 eX9_sheet_53.2.2
        · have hp := hp.2 hc
          refine lv_aload_n hx hb eX9_sheet_0.2.2.2.2.2.2.2.2.2.2.2.2.2.1 rfl (lv_at hl 0 rfl) ?_
          refine va_get (D := (dC, dI)) (ci := 9) (v := .ref a_tr) (C := RX9) (T := TX9) (N := 9) hx hb hts i_X9 hown hK hP 0 rfl rfl 3 (Nat.le_of_ble_eq_true rfl) (hts _ q_74) (fun _ h9 => h9) rfl eX9_sheet_0.2.2.2.2.2.2.2.2.2.2.2.2.2.2.1 ?_
          refine lv_iconst (v := 2) hx hb eX9_sheet_0.2.2.2.2.2.2.2.2.2.2.2.2.2.2.2 (by decide) ?_
          refine lv_iconst (v := 0) hx hb eX9_sheet_27.1 (by decide) ?_
          refine lv_iconst (v := 0) hx hb eX9_sheet_27.2.1 (by decide) ?_
          refine lv_iconst (v := 0) hx hb eX9_sheet_27.2.2.1 (by decide) ?_
          refine g_calli (wc := (wd_X3_fillWorths cI cC cZ cB cJ a_tr a_tr_x a_tr_height a_tr_worth a_tr_ripe a_tr_foot a_tr_fork a_tr_settings tr_fruits tr_standings tr_comingFruits tr_comingStandings tr_worth)) hP hD hS hA [1, 2] [0] rfl rfl rfl rfl (g_runV (As := [.int 2, .int 0, .int 0, .int 0]) (rest := []) C0 hP hD hS [1, 2] rfl rfl 1 3 rfl rfl (c_X3_fillWorths l dC dI cI cC cZ cB cJ a_tr a_tr_x a_tr_height a_tr_worth a_tr_ripe a_tr_foot a_tr_fork a_tr_settings H.size 2 0 0 0 tr_fruits tr_standings tr_comingFruits tr_comingStandings tr_worth _ hp) q_210 q_213 q_211 q_212 q_48 h_X3_fillWorths rfl rfl ⟨Nat.le_of_ble_eq_true rfl, Nat.le_of_ble_eq_true rfl⟩ rfl rfl hl.1 rfl (lv_room (Nat.le_of_ble_eq_true rfl)) eX9_sheet_27.2.2.2.1 ⟨Nat.zero_le _, Nat.zero_le _⟩) (fun r_3 u H locs hp hP hD hS => ?_)
          obtain ⟨tr_worth_4, rfl⟩ : ∃ z, z = u := ⟨_, rfl⟩
          have hPD := PDs (ws' := (wd_X9_sheet cI cC cZ cB cJ a_x a_tx a_pl a_ga a_tr a_no a_pa a_ro a_mk a_x_acts a_tr_x a_tr_height a_tr_worth a_tr_ripe a_tr_foot a_tr_fork a_tr_settings tr_fruits tr_standings tr_comingFruits tr_comingStandings tr_worth_4)) hP hD [0, 1, 2] (by decide) rfl
          have hP := hPD.1
          have hD := hPD.2
          refine lv_pop hx hb eX9_sheet_27.2.2.2.2.1 rfl ?_
          refine lv_bipush (v := (-3)) hx hb eX9_sheet_27.2.2.2.2.2.1 (by decide) ?_
          exact W.iret (v := (-3)) hx hb hr (fun t ht hW => ⟨⟨(-3), tr_worth_4, rfl, hp, by rw [ht]; exact hP, va_K.moved hW.alike hK, hD⟩, hS.F ht⟩) hS.2.2 eX9_sheet_27.2.2.2.2.2.2.1
      · have hp := hp.2 hc
        refine lv_iconst (v := (-1)) hx hb eX9_sheet_0.2.2.2.2.2.2.2.2.1 (by decide) ?_
        exact W.iret (v := (-1)) hx hb hr (fun t ht hW => ⟨⟨(-1), tr_worth, rfl, hp, by rw [ht]; exact hP, va_K.moved hW.alike hK, hD⟩, hS.F ht⟩) hS.2.2 eX9_sheet_0.2.2.2.2.2.2.2.2.2.1
abbrev wd_X2_write (cI cC cZ cB cJ : ClassId) (a_no : Nat) (a_pa_cells : Nat) (no_apron : Int32) (no_basket : Int32) (no_ground : Int32) (no_bruised : Int32) (no_ladder : Int32) (no_helper : Int32) (no_today : Int32) (no_clock : Int32) (pa_cells : Nat → Int32) : va_W := [(a_no, .inr (2, [.int no_apron, .int no_basket, .int no_ground, .int no_bruised, .int no_ladder, .int no_helper, .int no_today, .int no_clock])), (a_pa_cells, .inl (cI, 104, .inl pa_cells))]
abbrev q_X2_write (dC : Nat → ClassId) (dI : Nat → Nat → Nat) (cI cC cZ cB cJ : ClassId) (A : Nat → Prop) (a_no : Nat) (a_pa_cells : Nat) (no_apron : Int32) (no_basket : Int32) (no_ground : Int32) (no_bruised : Int32) (no_ladder : Int32) (no_helper : Int32) (no_today : Int32) (no_clock : Int32) (post : (Nat → Int32) → Prop) : Array Value → State → Outcome → State → Prop := va_Qv (fun (u : (Nat → Int32)) => post u) (fun u t => gB (dC, dI) (tyl cI cC cZ cB cJ) A (wd_X2_write cI cC cZ cB cJ a_no a_pa_cells no_apron no_basket no_ground no_bruised no_ladder no_helper no_today no_clock u) t) A
abbrev rm_X2_write : Room := { frames := 0, cells := 0, slots := 0, locals := 0 }
def wp_X2_write (post : (Nat → Int32) → Prop) (p1 : Int32) (no_apron : Int32) (no_basket : Int32) (no_ground : Int32) (no_bruised : Int32) (no_ladder : Int32) (no_helper : Int32) (no_today : Int32) (no_clock : Int32) (pa_cells : Nat → Int32) : Prop := (p1 < 0 → post pa_cells) ∧ (¬ p1 < 0 → (p1 ≤ (104 - 8) → vp_in p1 104 ∧ (∀ v_1 : Int32, v_1 = p1 + 1 → vp_in v_1 104 ∧ (∀ v_2 : Int32, v_2 = p1 + 2 → vp_in v_2 104 ∧ (∀ v_3 : Int32, v_3 = p1 + 3 → vp_in v_3 104 ∧ (∀ v_4 : Int32, v_4 = p1 + 4 → vp_in v_4 104 ∧ (∀ v_5 : Int32, v_5 = p1 + 5 → vp_in v_5 104 ∧ (∀ v_6 : Int32, v_6 = p1 + 6 → vp_in v_6 104 ∧ (∀ v_7 : Int32, v_7 = p1 + 7 → vp_in v_7 104 ∧ (post (upd (upd (upd (upd (upd (upd (upd (upd pa_cells p1.toNatClampNeg no_apron) v_1.toNatClampNeg no_basket) v_2.toNatClampNeg no_ground) v_3.toNatClampNeg no_bruised) v_4.toNatClampNeg no_ladder) v_5.toNatClampNeg no_helper) v_6.toNatClampNeg no_today) v_7.toNatClampNeg no_clock)))))))))) ∧ (¬ p1 ≤ (104 - 8) → post pa_cells))
set_option maxHeartbeats 4000000 in
set_option maxRecDepth 100000 in
theorem c_X2_write (l : Launch) (dC : Nat → ClassId) (dI : Nat → Nat → Nat) (cI cC cZ cB cJ : ClassId) (a_no : Nat) (a_pa_cells : Nat) (sz : Nat) (p1 : Int32) (no_apron : Int32) (no_basket : Int32) (no_ground : Int32) (no_bruised : Int32) (no_ladder : Int32) (no_helper : Int32) (no_today : Int32) (no_clock : Int32) (pa_cells : Nat → Int32) (post : (Nat → Int32) → Prop) (hw : wp_X2_write post p1 no_apron no_basket no_ground no_bruised no_ladder no_helper no_today no_clock pa_cells) : Met l yX2_write (gw yX2_write cX2_write 3 none) rm_X2_write (va_Pc [.ref a_no, .ref a_pa_cells, .int p1] (gPre (dC, dI) (tyl cI cC cZ cB cJ) (wd_X2_write cI cC cZ cB cJ a_no a_pa_cells no_apron no_basket no_ground no_bruised no_ladder no_helper no_today no_clock pa_cells) sz)) (q_X2_write dC dI cI cC cZ cB cJ (va_A (wd_X2_write cI cC cZ cB cJ a_no a_pa_cells no_apron no_basket no_ground no_bruised no_ladder no_helper no_today no_clock pa_cells) sz) a_no a_pa_cells no_apron no_basket no_ground no_bruised no_ladder no_helper no_today no_clock post) 0 0 (va_A (wd_X2_write cI cC cZ cB cJ a_no a_pa_cells no_apron no_basket no_ground no_bruised no_ladder no_helper no_today no_clock pa_cells) sz) := by
  refine g_enter (own := RX2) (dC, dI) (tyl cI cC cZ cB cJ) (wd_X2_write cI cC cZ cB cJ a_no a_pa_cells no_apron no_basket no_ground no_bruised no_ladder no_helper no_today no_clock pa_cells) sz [.ref a_no, .ref a_pa_cells, .int p1] (fun A => q_X2_write dC dI cI cC cZ cB cJ A a_no a_pa_cells no_apron no_basket no_ground no_bruised no_ladder no_helper no_today no_clock post) (by decide) rfl (Nat.le_of_ble_eq_true rfl) ?_
  intro p e s m args below meth c A H locs ls C0 hP hD hS hl
  have hl : lv_has ls 3 [(0, .ref a_no), (1, .ref a_pa_cells), (2, .int p1)] := hl
  obtain ⟨hx, hb, hr, hml, hown, hts, hlocks, hA, hK, hN, tL, tM, hZL, hTL, hZM, hTM, hZX⟩ := id C0
  have hp := hw
  unfold wp_X2_write at hp
  refine lv_iload_n hx hb eX2_write_0.1 rfl (lv_at hl 2 rfl) ?_
  refine lv_if_lt (tgt := 13) hx hb eX2_write_0.2.1 (by decide) (fun hc => ?_) (fun hc => ?_)
  · have hp := hp.1 hc
    exact W.vret hx hb hr (fun t ht hW => ⟨⟨pa_cells, rfl, hp, by rw [ht]; exact hP, va_K.moved hW.alike hK, hD⟩, hS.F ht⟩) hS.2.2 eX2_write_0.2.2.2.2.2.2.2.2.1
  · have hp := hp.2 hc
    refine lv_iload_n hx hb eX2_write_0.2.2.1 rfl (lv_at hl 2 rfl) ?_
    refine lv_aload_n hx hb eX2_write_0.2.2.2.1 rfl (lv_at hl 1 rfl) ?_
    refine va_alen (v := 104) hx hb hK hP 1 0 rfl rfl rfl eX2_write_0.2.2.2.2.1 ?_
    refine lv_bipush (v := 8) hx hb eX2_write_0.2.2.2.2.2.1 (by decide) ?_
    refine lv_isub hx hb eX2_write_0.2.2.2.2.2.2.1 ?_
    refine lv_icmp_le (tgt := 14) hx hb eX2_write_0.2.2.2.2.2.2.2.1 (by decide) (fun hc => ?_) (fun hc => ?_)
    · have hp := hp.1 hc
      refine lv_aload_n hx hb eX2_write_0.2.2.2.2.2.2.2.2.2.1 rfl (lv_at hl 1 rfl) ?_
      refine lv_iload_n hx hb eX2_write_0.2.2.2.2.2.2.2.2.2.2.1 rfl (lv_at hl 2 rfl) ?_
      refine lv_aload_n hx hb eX2_write_0.2.2.2.2.2.2.2.2.2.2.2.1 rfl (lv_at hl 0 rfl) ?_
      refine va_get (D := (dC, dI)) (ci := 2) (v := .int no_apron) (C := RX2) (T := TX2) (N := 8) hx hb hts i_X2 hown hK hP 0 rfl rfl 0 (Nat.le_of_ble_eq_true rfl) (hts _ q_168) (fun _ h9 => h9) rfl eX2_write_0.2.2.2.2.2.2.2.2.2.2.2.2.1 ?_
      have hin := hp.1
      have hp := hp.2
      refine va_iast hx hb hK hP hD hS 1 0 rfl rfl hin eX2_write_0.2.2.2.2.2.2.2.2.2.2.2.2.2.1 (fun H locs hP hD hS => ?_)
      have hP : va_P (dC, dI) classes (wd_X2_write cI cC cZ cB cJ a_no a_pa_cells no_apron no_basket no_ground no_bruised no_ladder no_helper no_today no_clock (upd pa_cells p1.toNatClampNeg no_apron)) H := hP
      have hD : va_D A (wd_X2_write cI cC cZ cB cJ a_no a_pa_cells no_apron no_basket no_ground no_bruised no_ladder no_helper no_today no_clock (upd pa_cells p1.toNatClampNeg no_apron)) := hD
      refine lv_aload_n hx hb eX2_write_0.2.2.2.2.2.2.2.2.2.2.2.2.2.2.1 rfl (lv_at hl 1 rfl) ?_
      refine lv_iload_n hx hb eX2_write_0.2.2.2.2.2.2.2.2.2.2.2.2.2.2.2 rfl (lv_at hl 2 rfl) ?_
      refine lv_iconst (v := 1) hx hb eX2_write_23.1 (by decide) ?_
      refine lv_iadd hx hb eX2_write_23.2.1 ?_
      refine lv_topi (fun v_1 ev_1 => ?_)
      have hp := hp v_1 ev_1
      refine lv_aload_n hx hb eX2_write_23.2.2.1 rfl (lv_at hl 0 rfl) ?_
      refine va_get (D := (dC, dI)) (ci := 2) (v := .int no_basket) (C := RX2) (T := TX2) (N := 8) hx hb hts i_X2 hown hK hP 0 rfl rfl 1 (Nat.le_of_ble_eq_true rfl) (hts _ q_169) (fun _ h9 => h9) rfl eX2_write_23.2.2.2.1 ?_
      have hin := hp.1
      have hp := hp.2
      refine va_iast hx hb hK hP hD hS 1 0 rfl rfl hin eX2_write_23.2.2.2.2.1 (fun H locs hP hD hS => ?_)
      have hP : va_P (dC, dI) classes (wd_X2_write cI cC cZ cB cJ a_no a_pa_cells no_apron no_basket no_ground no_bruised no_ladder no_helper no_today no_clock (upd (upd pa_cells p1.toNatClampNeg no_apron) v_1.toNatClampNeg no_basket)) H := hP
      have hD : va_D A (wd_X2_write cI cC cZ cB cJ a_no a_pa_cells no_apron no_basket no_ground no_bruised no_ladder no_helper no_today no_clock (upd (upd pa_cells p1.toNatClampNeg no_apron) v_1.toNatClampNeg no_basket)) := hD
      refine lv_aload_n hx hb eX2_write_23.2.2.2.2.2.1 rfl (lv_at hl 1 rfl) ?_
      refine lv_iload_n hx hb eX2_write_23.2.2.2.2.2.2.1 rfl (lv_at hl 2 rfl) ?_
      refine lv_iconst (v := 2) hx hb eX2_write_23.2.2.2.2.2.2.2.1 (by decide) ?_
      refine lv_iadd hx hb eX2_write_23.2.2.2.2.2.2.2.2.1 ?_
      refine lv_topi (fun v_2 ev_2 => ?_)
      have hp := hp v_2 ev_2
      refine lv_aload_n hx hb eX2_write_23.2.2.2.2.2.2.2.2.2.1 rfl (lv_at hl 0 rfl) ?_
      refine va_get (D := (dC, dI)) (ci := 2) (v := .int no_ground) (C := RX2) (T := TX2) (N := 8) hx hb hts i_X2 hown hK hP 0 rfl rfl 2 (Nat.le_of_ble_eq_true rfl) (hts _ q_170) (fun _ h9 => h9) rfl eX2_write_23.2.2.2.2.2.2.2.2.2.2.1 ?_
      have hin := hp.1
      have hp := hp.2
      refine va_iast hx hb hK hP hD hS 1 0 rfl rfl hin eX2_write_23.2.2.2.2.2.2.2.2.2.2.2.1 (fun H locs hP hD hS => ?_)
      have hP : va_P (dC, dI) classes (wd_X2_write cI cC cZ cB cJ a_no a_pa_cells no_apron no_basket no_ground no_bruised no_ladder no_helper no_today no_clock (upd (upd (upd pa_cells p1.toNatClampNeg no_apron) v_1.toNatClampNeg no_basket) v_2.toNatClampNeg no_ground)) H := hP
      have hD : va_D A (wd_X2_write cI cC cZ cB cJ a_no a_pa_cells no_apron no_basket no_ground no_bruised no_ladder no_helper no_today no_clock (upd (upd (upd pa_cells p1.toNatClampNeg no_apron) v_1.toNatClampNeg no_basket) v_2.toNatClampNeg no_ground)) := hD
      refine lv_aload_n hx hb eX2_write_23.2.2.2.2.2.2.2.2.2.2.2.2.1 rfl (lv_at hl 1 rfl) ?_
      refine lv_iload_n hx hb eX2_write_23.2.2.2.2.2.2.2.2.2.2.2.2.2.1 rfl (lv_at hl 2 rfl) ?_
      refine lv_iconst (v := 3) hx hb eX2_write_23.2.2.2.2.2.2.2.2.2.2.2.2.2.2.1 (by decide) ?_
      refine lv_iadd hx hb eX2_write_23.2.2.2.2.2.2.2.2.2.2.2.2.2.2.2 ?_
      refine lv_topi (fun v_3 ev_3 => ?_)
      have hp := hp v_3 ev_3
      refine lv_aload_n hx hb eX2_write_43.1 rfl (lv_at hl 0 rfl) ?_
      refine va_get (D := (dC, dI)) (ci := 2) (v := .int no_bruised) (C := RX2) (T := TX2) (N := 8) hx hb hts i_X2 hown hK hP 0 rfl rfl 3 (Nat.le_of_ble_eq_true rfl) (hts _ q_214) (fun _ h9 => h9) rfl eX2_write_43.2.1 ?_
      have hin := hp.1
      have hp := hp.2
      refine va_iast hx hb hK hP hD hS 1 0 rfl rfl hin eX2_write_43.2.2.1 (fun H locs hP hD hS => ?_)
      have hP : va_P (dC, dI) classes (wd_X2_write cI cC cZ cB cJ a_no a_pa_cells no_apron no_basket no_ground no_bruised no_ladder no_helper no_today no_clock (upd (upd (upd (upd pa_cells p1.toNatClampNeg no_apron) v_1.toNatClampNeg no_basket) v_2.toNatClampNeg no_ground) v_3.toNatClampNeg no_bruised)) H := hP
      have hD : va_D A (wd_X2_write cI cC cZ cB cJ a_no a_pa_cells no_apron no_basket no_ground no_bruised no_ladder no_helper no_today no_clock (upd (upd (upd (upd pa_cells p1.toNatClampNeg no_apron) v_1.toNatClampNeg no_basket) v_2.toNatClampNeg no_ground) v_3.toNatClampNeg no_bruised)) := hD
      refine lv_aload_n hx hb eX2_write_43.2.2.2.1 rfl (lv_at hl 1 rfl) ?_
      refine lv_iload_n hx hb eX2_write_43.2.2.2.2.1 rfl (lv_at hl 2 rfl) ?_
      refine lv_iconst (v := 4) hx hb eX2_write_43.2.2.2.2.2.1 (by decide) ?_
      refine lv_iadd hx hb eX2_write_43.2.2.2.2.2.2.1 ?_
      refine lv_topi (fun v_4 ev_4 => ?_)
      have hp := hp v_4 ev_4
      refine lv_aload_n hx hb eX2_write_43.2.2.2.2.2.2.2.1 rfl (lv_at hl 0 rfl) ?_
      refine va_get (D := (dC, dI)) (ci := 2) (v := .int no_ladder) (C := RX2) (T := TX2) (N := 8) hx hb hts i_X2 hown hK hP 0 rfl rfl 4 (Nat.le_of_ble_eq_true rfl) (hts _ q_215) (fun _ h9 => h9) rfl eX2_write_43.2.2.2.2.2.2.2.2.1 ?_
      have hin := hp.1
      have hp := hp.2
      refine va_iast hx hb hK hP hD hS 1 0 rfl rfl hin eX2_write_43.2.2.2.2.2.2.2.2.2.1 (fun H locs hP hD hS => ?_)
      have hP : va_P (dC, dI) classes (wd_X2_write cI cC cZ cB cJ a_no a_pa_cells no_apron no_basket no_ground no_bruised no_ladder no_helper no_today no_clock (upd (upd (upd (upd (upd pa_cells p1.toNatClampNeg no_apron) v_1.toNatClampNeg no_basket) v_2.toNatClampNeg no_ground) v_3.toNatClampNeg no_bruised) v_4.toNatClampNeg no_ladder)) H := hP
      have hD : va_D A (wd_X2_write cI cC cZ cB cJ a_no a_pa_cells no_apron no_basket no_ground no_bruised no_ladder no_helper no_today no_clock (upd (upd (upd (upd (upd pa_cells p1.toNatClampNeg no_apron) v_1.toNatClampNeg no_basket) v_2.toNatClampNeg no_ground) v_3.toNatClampNeg no_bruised) v_4.toNatClampNeg no_ladder)) := hD
      refine lv_aload_n hx hb eX2_write_43.2.2.2.2.2.2.2.2.2.2.1 rfl (lv_at hl 1 rfl) ?_
      refine lv_iload_n hx hb eX2_write_43.2.2.2.2.2.2.2.2.2.2.2.1 rfl (lv_at hl 2 rfl) ?_
      refine lv_iconst (v := 5) hx hb eX2_write_43.2.2.2.2.2.2.2.2.2.2.2.2.1 (by decide) ?_
      refine lv_iadd hx hb eX2_write_43.2.2.2.2.2.2.2.2.2.2.2.2.2.1 ?_
      refine lv_topi (fun v_5 ev_5 => ?_)
      have hp := hp v_5 ev_5
      refine lv_aload_n hx hb eX2_write_43.2.2.2.2.2.2.2.2.2.2.2.2.2.2.1 rfl (lv_at hl 0 rfl) ?_
      refine va_get (D := (dC, dI)) (ci := 2) (v := .int no_helper) (C := RX2) (T := TX2) (N := 8) hx hb hts i_X2 hown hK hP 0 rfl rfl 5 (Nat.le_of_ble_eq_true rfl) (hts _ q_216) (fun _ h9 => h9) rfl eX2_write_43.2.2.2.2.2.2.2.2.2.2.2.2.2.2.2 ?_
      have hin := hp.1
      have hp := hp.2
      refine va_iast hx hb hK hP hD hS 1 0 rfl rfl hin eX2_write_65.1 (fun H locs hP hD hS => ?_)
      have hP : va_P (dC, dI) classes (wd_X2_write cI cC cZ cB cJ a_no a_pa_cells no_apron no_basket no_ground no_bruised no_ladder no_helper no_today no_clock (upd (upd (upd (upd (upd (upd pa_cells p1.toNatClampNeg no_apron) v_1.toNatClampNeg no_basket) v_2.toNatClampNeg no_ground) v_3.toNatClampNeg no_bruised) v_4.toNatClampNeg no_ladder) v_5.toNatClampNeg no_helper)) H := hP
      have hD : va_D A (wd_X2_write cI cC cZ cB cJ a_no a_pa_cells no_apron no_basket no_ground no_bruised no_ladder no_helper no_today no_clock (upd (upd (upd (upd (upd (upd pa_cells p1.toNatClampNeg no_apron) v_1.toNatClampNeg no_basket) v_2.toNatClampNeg no_ground) v_3.toNatClampNeg no_bruised) v_4.toNatClampNeg no_ladder) v_5.toNatClampNeg no_helper)) := hD
      refine lv_aload_n hx hb eX2_write_65.2.1 rfl (lv_at hl 1 rfl) ?_
      refine lv_iload_n hx hb eX2_write_65.2.2.1 rfl (lv_at hl 2 rfl) ?_
      refine lv_bipush (v := 6) hx hb eX2_write_65.2.2.2.1 (by decide) ?_
      refine lv_iadd hx hb eX2_write_65.2.2.2.2.1 ?_
      refine lv_topi (fun v_6 ev_6 => ?_)
      have hp := hp v_6 ev_6
      refine lv_aload_n hx hb eX2_write_65.2.2.2.2.2.1 rfl (lv_at hl 0 rfl) ?_
      refine va_get (D := (dC, dI)) (ci := 2) (v := .int no_today) (C := RX2) (T := TX2) (N := 8) hx hb hts i_X2 hown hK hP 0 rfl rfl 6 (Nat.le_of_ble_eq_true rfl) (hts _ q_217) (fun _ h9 => h9) rfl eX2_write_65.2.2.2.2.2.2.1 ?_
      have hin := hp.1
      have hp := hp.2
      refine va_iast hx hb hK hP hD hS 1 0 rfl rfl hin eX2_write_65.2.2.2.2.2.2.2.1 (fun H locs hP hD hS => ?_)
      have hP : va_P (dC, dI) classes (wd_X2_write cI cC cZ cB cJ a_no a_pa_cells no_apron no_basket no_ground no_bruised no_ladder no_helper no_today no_clock (upd (upd (upd (upd (upd (upd (upd pa_cells p1.toNatClampNeg no_apron) v_1.toNatClampNeg no_basket) v_2.toNatClampNeg no_ground) v_3.toNatClampNeg no_bruised) v_4.toNatClampNeg no_ladder) v_5.toNatClampNeg no_helper) v_6.toNatClampNeg no_today)) H := hP
      have hD : va_D A (wd_X2_write cI cC cZ cB cJ a_no a_pa_cells no_apron no_basket no_ground no_bruised no_ladder no_helper no_today no_clock (upd (upd (upd (upd (upd (upd (upd pa_cells p1.toNatClampNeg no_apron) v_1.toNatClampNeg no_basket) v_2.toNatClampNeg no_ground) v_3.toNatClampNeg no_bruised) v_4.toNatClampNeg no_ladder) v_5.toNatClampNeg no_helper) v_6.toNatClampNeg no_today)) := hD
      refine lv_aload_n hx hb eX2_write_65.2.2.2.2.2.2.2.2.1 rfl (lv_at hl 1 rfl) ?_
      refine lv_iload_n hx hb eX2_write_65.2.2.2.2.2.2.2.2.2.1 rfl (lv_at hl 2 rfl) ?_
      refine lv_bipush (v := 7) hx hb eX2_write_65.2.2.2.2.2.2.2.2.2.2.1 (by decide) ?_
      refine lv_iadd hx hb eX2_write_65.2.2.2.2.2.2.2.2.2.2.2.1 ?_
      refine lv_topi (fun v_7 ev_7 => ?_)
      have hp := hp v_7 ev_7
      refine lv_aload_n hx hb eX2_write_65.2.2.2.2.2.2.2.2.2.2.2.2.1 rfl (lv_at hl 0 rfl) ?_
      refine va_get (D := (dC, dI)) (ci := 2) (v := .int no_clock) (C := RX2) (T := TX2) (N := 8) hx hb hts i_X2 hown hK hP 0 rfl rfl 7 (Nat.le_of_ble_eq_true rfl) (hts _ q_218) (fun _ h9 => h9) rfl eX2_write_65.2.2.2.2.2.2.2.2.2.2.2.2.2.1 ?_
      have hin := hp.1
      have hp := hp.2
      refine va_iast hx hb hK hP hD hS 1 0 rfl rfl hin eX2_write_65.2.2.2.2.2.2.2.2.2.2.2.2.2.2.1 (fun H locs hP hD hS => ?_)
      have hP : va_P (dC, dI) classes (wd_X2_write cI cC cZ cB cJ a_no a_pa_cells no_apron no_basket no_ground no_bruised no_ladder no_helper no_today no_clock (upd (upd (upd (upd (upd (upd (upd (upd pa_cells p1.toNatClampNeg no_apron) v_1.toNatClampNeg no_basket) v_2.toNatClampNeg no_ground) v_3.toNatClampNeg no_bruised) v_4.toNatClampNeg no_ladder) v_5.toNatClampNeg no_helper) v_6.toNatClampNeg no_today) v_7.toNatClampNeg no_clock)) H := hP
      have hD : va_D A (wd_X2_write cI cC cZ cB cJ a_no a_pa_cells no_apron no_basket no_ground no_bruised no_ladder no_helper no_today no_clock (upd (upd (upd (upd (upd (upd (upd (upd pa_cells p1.toNatClampNeg no_apron) v_1.toNatClampNeg no_basket) v_2.toNatClampNeg no_ground) v_3.toNatClampNeg no_bruised) v_4.toNatClampNeg no_ladder) v_5.toNatClampNeg no_helper) v_6.toNatClampNeg no_today) v_7.toNatClampNeg no_clock)) := hD
      exact W.vret hx hb hr (fun t ht hW => ⟨⟨(upd (upd (upd (upd (upd (upd (upd (upd pa_cells p1.toNatClampNeg no_apron) v_1.toNatClampNeg no_basket) v_2.toNatClampNeg no_ground) v_3.toNatClampNeg no_bruised) v_4.toNatClampNeg no_ladder) v_5.toNatClampNeg no_helper) v_6.toNatClampNeg no_today) v_7.toNatClampNeg no_clock), rfl, hp, by rw [ht]; exact hP, va_K.moved hW.alike hK, hD⟩, hS.F ht⟩) hS.2.2 eX2_write_65.2.2.2.2.2.2.2.2.2.2.2.2.2.2.2
    · have hp := hp.2 hc
      exact W.vret hx hb hr (fun t ht hW => ⟨⟨pa_cells, rfl, hp, by rw [ht]; exact hP, va_K.moved hW.alike hK, hD⟩, hS.F ht⟩) hS.2.2 eX2_write_0.2.2.2.2.2.2.2.2.1
abbrev wd_X4_note (cI cC cZ cB cJ : ClassId) (a_no : Nat) (a_pa : Nat) (a_pa_cells : Nat) (a_pa_keptCells : Nat) (a_pa_isKept : Nat) (no_apron : Int32) (no_basket : Int32) (no_ground : Int32) (no_bruised : Int32) (no_ladder : Int32) (no_helper : Int32) (no_today : Int32) (no_clock : Int32) (pa_undoable : Int32) (pa_free : Int32) (pa_cells : Nat → Int32) : va_W := [(a_no, .inr (2, [.int no_apron, .int no_basket, .int no_ground, .int no_bruised, .int no_ladder, .int no_helper, .int no_today, .int no_clock])), (a_pa, .inr (4, [.ref a_pa_cells, .ref a_pa_keptCells, .ref a_pa_isKept, .int pa_undoable, .int pa_free])), (a_pa_cells, .inl (cI, 104, .inl pa_cells))]
abbrev q_X4_note (dC : Nat → ClassId) (dI : Nat → Nat → Nat) (cI cC cZ cB cJ : ClassId) (A : Nat → Prop) (a_no : Nat) (a_pa : Nat) (a_pa_cells : Nat) (a_pa_keptCells : Nat) (a_pa_isKept : Nat) (no_apron : Int32) (no_basket : Int32) (no_ground : Int32) (no_bruised : Int32) (no_ladder : Int32) (no_helper : Int32) (no_today : Int32) (no_clock : Int32) (pa_undoable : Int32) (pa_free : Int32) (post : (Nat → Int32) → Prop) : Array Value → State → Outcome → State → Prop := va_Qv (fun (u : (Nat → Int32)) => post u) (fun u t => gB (dC, dI) (tyl cI cC cZ cB cJ) A (wd_X4_note cI cC cZ cB cJ a_no a_pa a_pa_cells a_pa_keptCells a_pa_isKept no_apron no_basket no_ground no_bruised no_ladder no_helper no_today no_clock pa_undoable pa_free u) t) A
abbrev rm_X4_note : Room := { frames := 1, cells := 0, slots := 0, locals := 22 }
def wp_X4_note (post : (Nat → Int32) → Prop) (no_apron : Int32) (no_basket : Int32) (no_ground : Int32) (no_bruised : Int32) (no_ladder : Int32) (no_helper : Int32) (no_today : Int32) (no_clock : Int32) (pa_free : Int32) (pa_cells : Nat → Int32) : Prop := ∀ v_1 : Int32, v_1 = pa_free * 8 → wp_X2_write (fun pa_cells_2 => post pa_cells_2) v_1 no_apron no_basket no_ground no_bruised no_ladder no_helper no_today no_clock pa_cells
set_option maxHeartbeats 4000000 in
set_option maxRecDepth 100000 in
theorem c_X4_note (l : Launch) (dC : Nat → ClassId) (dI : Nat → Nat → Nat) (cI cC cZ cB cJ : ClassId) (a_no : Nat) (a_pa : Nat) (a_pa_cells : Nat) (a_pa_keptCells : Nat) (a_pa_isKept : Nat) (sz : Nat) (no_apron : Int32) (no_basket : Int32) (no_ground : Int32) (no_bruised : Int32) (no_ladder : Int32) (no_helper : Int32) (no_today : Int32) (no_clock : Int32) (pa_undoable : Int32) (pa_free : Int32) (pa_cells : Nat → Int32) (post : (Nat → Int32) → Prop) (hw : wp_X4_note post no_apron no_basket no_ground no_bruised no_ladder no_helper no_today no_clock pa_free pa_cells) : Met l yX4_note (gw yX4_note cX4_note 2 none) rm_X4_note (va_Pc [.ref a_pa, .ref a_no] (gPre (dC, dI) (tyl cI cC cZ cB cJ) (wd_X4_note cI cC cZ cB cJ a_no a_pa a_pa_cells a_pa_keptCells a_pa_isKept no_apron no_basket no_ground no_bruised no_ladder no_helper no_today no_clock pa_undoable pa_free pa_cells) sz)) (q_X4_note dC dI cI cC cZ cB cJ (va_A (wd_X4_note cI cC cZ cB cJ a_no a_pa a_pa_cells a_pa_keptCells a_pa_isKept no_apron no_basket no_ground no_bruised no_ladder no_helper no_today no_clock pa_undoable pa_free pa_cells) sz) a_no a_pa a_pa_cells a_pa_keptCells a_pa_isKept no_apron no_basket no_ground no_bruised no_ladder no_helper no_today no_clock pa_undoable pa_free post) 0 0 (va_A (wd_X4_note cI cC cZ cB cJ a_no a_pa a_pa_cells a_pa_keptCells a_pa_isKept no_apron no_basket no_ground no_bruised no_ladder no_helper no_today no_clock pa_undoable pa_free pa_cells) sz) := by
  refine g_enter (own := RX4) (dC, dI) (tyl cI cC cZ cB cJ) (wd_X4_note cI cC cZ cB cJ a_no a_pa a_pa_cells a_pa_keptCells a_pa_isKept no_apron no_basket no_ground no_bruised no_ladder no_helper no_today no_clock pa_undoable pa_free pa_cells) sz [.ref a_pa, .ref a_no] (fun A => q_X4_note dC dI cI cC cZ cB cJ A a_no a_pa a_pa_cells a_pa_keptCells a_pa_isKept no_apron no_basket no_ground no_bruised no_ladder no_helper no_today no_clock pa_undoable pa_free post) (by decide) rfl (Nat.le_of_ble_eq_true rfl) ?_
  intro p e s m args below meth c A H locs ls C0 hP hD hS hl
  have hl : lv_has ls 2 [(0, .ref a_pa), (1, .ref a_no)] := hl
  obtain ⟨hx, hb, hr, hml, hown, hts, hlocks, hA, hK, hN, tL, tM, hZL, hTL, hZM, hTM, hZX⟩ := id C0
  have hp := hw
  unfold wp_X4_note at hp
  refine lv_aload_n hx hb eX4_note_0.1 rfl (lv_at hl 1 rfl) ?_
  refine lv_aload_n hx hb eX4_note_0.2.1 rfl (lv_at hl 0 rfl) ?_
  refine va_get (D := (dC, dI)) (ci := 4) (v := .ref a_pa_cells) (C := RX4) (T := TX4) (N := 5) hx hb hts i_X4 hown hK hP 1 rfl rfl 0 (Nat.le_of_ble_eq_true rfl) (hts _ q_219) (fun _ h9 => h9) rfl eX4_note_0.2.2.1 ?_
  refine lv_aload_n hx hb eX4_note_0.2.2.2.1 rfl (lv_at hl 0 rfl) ?_
  refine va_get (D := (dC, dI)) (ci := 4) (v := .int pa_free) (C := RX4) (T := TX4) (N := 5) hx hb hts i_X4 hown hK hP 1 rfl rfl 4 (Nat.le_of_ble_eq_true rfl) (hts _ q_220) (fun _ h9 => h9) rfl eX4_note_0.2.2.2.2.1 ?_
  refine lv_bipush (v := 8) hx hb eX4_note_0.2.2.2.2.2.1 (by decide) ?_
  refine lv_imul hx hb eX4_note_0.2.2.2.2.2.2.1 ?_
  refine lv_topi (fun v_1 ev_1 => ?_)
  have hp := hp v_1 ev_1
  refine g_callv (wc := (wd_X2_write cI cC cZ cB cJ a_no a_pa_cells no_apron no_basket no_ground no_bruised no_ladder no_helper no_today no_clock pa_cells)) hP hD hS hA [0, 2] [1] rfl rfl rfl rfl (g_runV (As := [.ref a_pa_cells, .int v_1]) (rest := []) C0 hP hD hS [0, 2] rfl rfl 0 2 rfl rfl (c_X2_write l dC dI cI cC cZ cB cJ a_no a_pa_cells H.size v_1 no_apron no_basket no_ground no_bruised no_ladder no_helper no_today no_clock pa_cells _ hp) q_221 q_224 q_222 q_223 q_181 h_X2_write rfl rfl ⟨Nat.le_of_ble_eq_true rfl, Nat.le_of_ble_eq_true rfl⟩ rfl rfl hl.1 rfl (lv_room (Nat.le_of_ble_eq_true rfl)) eX4_note_0.2.2.2.2.2.2.2.1 ⟨Nat.zero_le _, Nat.zero_le _⟩) (fun u H locs hp hP hD hS => ?_)
  obtain ⟨pa_cells_2, rfl⟩ : ∃ z, z = u := ⟨_, rfl⟩
  have hPD := PDs (ws' := (wd_X4_note cI cC cZ cB cJ a_no a_pa a_pa_cells a_pa_keptCells a_pa_isKept no_apron no_basket no_ground no_bruised no_ladder no_helper no_today no_clock pa_undoable pa_free pa_cells_2)) hP hD [1, 0, 2] (by decide) rfl
  have hP := hPD.1
  have hD := hPD.2
  exact W.vret hx hb hr (fun t ht hW => ⟨⟨pa_cells_2, rfl, hp, by rw [ht]; exact hP, va_K.moved hW.alike hK, hD⟩, hS.F ht⟩) hS.2.2 eX4_note_0.2.2.2.2.2.2.2.2
abbrev wd_X3_moveSeconds (cI cC cZ cB cJ : ClassId) (a_tr : Nat) (a_tr_x : Nat) (a_tr_height : Nat) (a_tr_worth : Nat) (a_tr_ripe : Nat) (a_tr_foot : Nat) (a_tr_fork : Nat) (a_tr_settings : Nat) (tr_fruits : Int32) (tr_standings : Int32) (tr_comingFruits : Int32) (tr_comingStandings : Int32) (tr_foot : Nat → Int32) (tr_settings : Nat → Int32) : va_W := [(a_tr, .inr (3, [.ref a_tr_x, .ref a_tr_height, .ref a_tr_worth, .ref a_tr_ripe, .ref a_tr_foot, .ref a_tr_fork, .ref a_tr_settings, .int tr_fruits, .int tr_standings, .int tr_comingFruits, .int tr_comingStandings])), (a_tr_foot, .inl (cI, 8, .inl tr_foot)), (a_tr_settings, .inl (cI, 5, .inl tr_settings))]
abbrev q_X3_moveSeconds (dC : Nat → ClassId) (dI : Nat → Nat → Nat) (cI cC cZ cB cJ : ClassId) (A : Nat → Prop) (a_tr : Nat) (a_tr_x : Nat) (a_tr_height : Nat) (a_tr_worth : Nat) (a_tr_ripe : Nat) (a_tr_foot : Nat) (a_tr_fork : Nat) (a_tr_settings : Nat) (tr_fruits : Int32) (tr_standings : Int32) (tr_comingFruits : Int32) (tr_comingStandings : Int32) (tr_foot : Nat → Int32) (tr_settings : Nat → Int32) (post : Int32 → Prop) : Array Value → State → Outcome → State → Prop := va_Qi (fun (r : Int32) (u : Unit) => post r) (fun u t => gB (dC, dI) (tyl cI cC cZ cB cJ) A (wd_X3_moveSeconds cI cC cZ cB cJ a_tr a_tr_x a_tr_height a_tr_worth a_tr_ripe a_tr_foot a_tr_fork a_tr_settings tr_fruits tr_standings tr_comingFruits tr_comingStandings tr_foot tr_settings) t) A
abbrev rm_X3_moveSeconds : Room := { frames := 1, cells := 0, slots := 0, locals := 21 }
def wp_X3_moveSeconds (post : Int32 → Prop) (p0 : Int32) (p1 : Int32) (tr_foot : Nat → Int32) (tr_settings : Nat → Int32) : Prop := (¬ p0 = (-1) → ∀ v_1 : Int32, v_1 = tr_settings (3 : Int32).toNatClampNeg → vp_in p0 8 ∧ (∀ v_2 : Int32, v_2 = tr_foot p0.toNatClampNeg → vp_in p1 8 ∧ (∀ v_3 : Int32, v_3 = v_2 - (tr_foot p1.toNatClampNeg) → ∀ v_4 : Int32, v_4 = (if 0 ≤ v_3 then v_3 else 0 - v_3) → post (9 + (v_1 * v_4))))) ∧ (p0 = (-1) → post 9)
set_option maxHeartbeats 4000000 in
set_option maxRecDepth 100000 in
theorem c_X3_moveSeconds (l : Launch) (dC : Nat → ClassId) (dI : Nat → Nat → Nat) (cI cC cZ cB cJ : ClassId) (a_tr : Nat) (a_tr_x : Nat) (a_tr_height : Nat) (a_tr_worth : Nat) (a_tr_ripe : Nat) (a_tr_foot : Nat) (a_tr_fork : Nat) (a_tr_settings : Nat) (sz : Nat) (p0 : Int32) (p1 : Int32) (tr_fruits : Int32) (tr_standings : Int32) (tr_comingFruits : Int32) (tr_comingStandings : Int32) (tr_foot : Nat → Int32) (tr_settings : Nat → Int32) (post : Int32 → Prop) (hw : wp_X3_moveSeconds post p0 p1 tr_foot tr_settings) : Met l yX3_moveSeconds (gw yX3_moveSeconds cX3_moveSeconds 3 (some .int)) rm_X3_moveSeconds (va_Pc [.ref a_tr, .int p0, .int p1] (gPre (dC, dI) (tyl cI cC cZ cB cJ) (wd_X3_moveSeconds cI cC cZ cB cJ a_tr a_tr_x a_tr_height a_tr_worth a_tr_ripe a_tr_foot a_tr_fork a_tr_settings tr_fruits tr_standings tr_comingFruits tr_comingStandings tr_foot tr_settings) sz)) (q_X3_moveSeconds dC dI cI cC cZ cB cJ (va_A (wd_X3_moveSeconds cI cC cZ cB cJ a_tr a_tr_x a_tr_height a_tr_worth a_tr_ripe a_tr_foot a_tr_fork a_tr_settings tr_fruits tr_standings tr_comingFruits tr_comingStandings tr_foot tr_settings) sz) a_tr a_tr_x a_tr_height a_tr_worth a_tr_ripe a_tr_foot a_tr_fork a_tr_settings tr_fruits tr_standings tr_comingFruits tr_comingStandings tr_foot tr_settings post) 0 0 (va_A (wd_X3_moveSeconds cI cC cZ cB cJ a_tr a_tr_x a_tr_height a_tr_worth a_tr_ripe a_tr_foot a_tr_fork a_tr_settings tr_fruits tr_standings tr_comingFruits tr_comingStandings tr_foot tr_settings) sz) := by
  refine g_enter (own := RX3) (dC, dI) (tyl cI cC cZ cB cJ) (wd_X3_moveSeconds cI cC cZ cB cJ a_tr a_tr_x a_tr_height a_tr_worth a_tr_ripe a_tr_foot a_tr_fork a_tr_settings tr_fruits tr_standings tr_comingFruits tr_comingStandings tr_foot tr_settings) sz [.ref a_tr, .int p0, .int p1] (fun A => q_X3_moveSeconds dC dI cI cC cZ cB cJ A a_tr a_tr_x a_tr_height a_tr_worth a_tr_ripe a_tr_foot a_tr_fork a_tr_settings tr_fruits tr_standings tr_comingFruits tr_comingStandings tr_foot tr_settings post) (by decide) rfl (Nat.le_of_ble_eq_true rfl) ?_
  intro p e s m args below meth c A H locs ls C0 hP hD hS hl
  have hl : lv_has ls 3 [(0, .ref a_tr), (1, .int p0), (2, .int p1)] := hl
  obtain ⟨hx, hb, hr, hml, hown, hts, hlocks, hA, hK, hN, tL, tM, hZL, hTL, hZM, hTM, hZX⟩ := id C0
  have hp := hw
  unfold wp_X3_moveSeconds at hp
  refine lv_iload_n hx hb eX3_moveSeconds_0.1 rfl (lv_at hl 1 rfl) ?_
  refine lv_iconst (v := (-1)) hx hb eX3_moveSeconds_0.2.1 (by decide) ?_
  refine lv_icmp_ne (tgt := 10) hx hb eX3_moveSeconds_0.2.2.1 (by decide) (fun hc => ?_) (fun hc => ?_)
  · have hp := hp.1 hc
    refine lv_bipush (v := 9) hx hb eX3_moveSeconds_0.2.2.2.2.2.1 (by decide) ?_
    refine lv_aload_n hx hb eX3_moveSeconds_0.2.2.2.2.2.2.1 rfl (lv_at hl 0 rfl) ?_
    refine va_get (D := (dC, dI)) (ci := 3) (v := .ref a_tr_settings) (C := RX3) (T := TX3) (N := 11) hx hb hts i_X3 hown hK hP 0 rfl rfl 6 (Nat.le_of_ble_eq_true rfl) (hts _ q_225) (fun _ h9 => h9) rfl eX3_moveSeconds_0.2.2.2.2.2.2.2.1 ?_
    refine lv_iconst (v := 3) hx hb eX3_moveSeconds_0.2.2.2.2.2.2.2.2.1 (by decide) ?_
    refine va_iald hx hb hK hP 2 0 rfl rfl (g_in rfl) eX3_moveSeconds_0.2.2.2.2.2.2.2.2.2.1 ?_
    refine lv_topi (fun v_1 ev_1 => ?_)
    have hp := hp v_1 ev_1
    refine lv_aload_n hx hb eX3_moveSeconds_0.2.2.2.2.2.2.2.2.2.2.1 rfl (lv_at hl 0 rfl) ?_
    refine va_get (D := (dC, dI)) (ci := 3) (v := .ref a_tr_foot) (C := RX3) (T := TX3) (N := 11) hx hb hts i_X3 hown hK hP 0 rfl rfl 4 (Nat.le_of_ble_eq_true rfl) (hts _ q_53) (fun _ h9 => h9) rfl eX3_moveSeconds_0.2.2.2.2.2.2.2.2.2.2.2.1 ?_
    refine lv_iload_n hx hb eX3_moveSeconds_0.2.2.2.2.2.2.2.2.2.2.2.2.1 rfl (lv_at hl 1 rfl) ?_
    have hin := hp.1
    have hp := hp.2
    refine va_iald hx hb hK hP 1 0 rfl rfl hin eX3_moveSeconds_0.2.2.2.2.2.2.2.2.2.2.2.2.2.1 ?_
    refine lv_topi (fun v_2 ev_2 => ?_)
    have hp := hp v_2 ev_2
    refine lv_aload_n hx hb eX3_moveSeconds_0.2.2.2.2.2.2.2.2.2.2.2.2.2.2.1 rfl (lv_at hl 0 rfl) ?_
    refine va_get (D := (dC, dI)) (ci := 3) (v := .ref a_tr_foot) (C := RX3) (T := TX3) (N := 11) hx hb hts i_X3 hown hK hP 0 rfl rfl 4 (Nat.le_of_ble_eq_true rfl) (hts _ q_53) (fun _ h9 => h9) rfl eX3_moveSeconds_0.2.2.2.2.2.2.2.2.2.2.2.2.2.2.2 ?_
    refine lv_iload_n hx hb eX3_moveSeconds_28.1 rfl (lv_at hl 2 rfl) ?_
    have hin := hp.1
    have hp := hp.2
    refine va_iald hx hb hK hP 1 0 rfl rfl hin eX3_moveSeconds_28.2.1 ?_
    refine lv_isub hx hb eX3_moveSeconds_28.2.2.1 ?_
    refine lv_topi (fun v_3 ev_3 => ?_)
    have hp := hp v_3 ev_3
    refine va_mabs hx hb (by rw [hml]; exact hl.1.symm) hown (hts _ q_165) (hts _ q_166) (hts _ q_16) (hts _ q_167) (Nat.le_of_ble_eq_true rfl) (Nat.le_of_ble_eq_true rfl) (Nat.zero_le _) (Nat.zero_le _) eX3_moveSeconds_28.2.2.2.1 ?_
    refine lv_topi (fun v_4 ev_4 => ?_)
    have hp := hp v_4 ev_4
    refine lv_imul hx hb eX3_moveSeconds_28.2.2.2.2.1 ?_
    refine lv_iadd hx hb eX3_moveSeconds_28.2.2.2.2.2.1 ?_
    exact W.iret (v := 9 + (v_1 * v_4)) hx hb hr (fun t ht hW => ⟨⟨9 + (v_1 * v_4), (), rfl, hp, by rw [ht]; exact hP, va_K.moved hW.alike hK, hD⟩, hS.F ht⟩) hS.2.2 eX3_moveSeconds_28.2.2.2.2.2.2
  · have hp := hp.2 hc
    refine lv_bipush (v := 9) hx hb eX3_moveSeconds_0.2.2.2.1 (by decide) ?_
    refine lv_goto (tgt := 36) hx hb eX3_moveSeconds_0.2.2.2.2.1 (by decide) ?_
    exact W.iret (v := 9) hx hb hr (fun t ht hW => ⟨⟨9, (), rfl, hp, by rw [ht]; exact hP, va_K.moved hW.alike hK, hD⟩, hS.F ht⟩) hS.2.2 eX3_moveSeconds_28.2.2.2.2.2.2
abbrev wd_X2_emptyApron (cI cC cZ cB cJ : ClassId) (a_no : Nat) (no_apron : Int32) (no_basket : Int32) (no_ground : Int32) (no_bruised : Int32) (no_ladder : Int32) (no_helper : Int32) (no_today : Int32) (no_clock : Int32) : va_W := [(a_no, .inr (2, [.int no_apron, .int no_basket, .int no_ground, .int no_bruised, .int no_ladder, .int no_helper, .int no_today, .int no_clock]))]
abbrev q_X2_emptyApron (dC : Nat → ClassId) (dI : Nat → Nat → Nat) (cI cC cZ cB cJ : ClassId) (A : Nat → Prop) (a_no : Nat) (no_ground : Int32) (no_bruised : Int32) (no_ladder : Int32) (no_helper : Int32) (no_today : Int32) (no_clock : Int32) (post : Int32 → Int32 → Prop) : Array Value → State → Outcome → State → Prop := va_Qv (fun (u : Int32 × Int32) => post u.1 u.2) (fun u t => gB (dC, dI) (tyl cI cC cZ cB cJ) A (wd_X2_emptyApron cI cC cZ cB cJ a_no u.1 u.2 no_ground no_bruised no_ladder no_helper no_today no_clock) t) A
abbrev rm_X2_emptyApron : Room := { frames := 0, cells := 0, slots := 0, locals := 0 }
def wp_X2_emptyApron (post : Int32 → Int32 → Prop) (no_apron : Int32) (no_basket : Int32) : Prop := ∀ v_1 : Int32, v_1 = no_basket ||| no_apron → post 0 v_1
set_option maxHeartbeats 4000000 in
set_option maxRecDepth 100000 in
theorem c_X2_emptyApron (l : Launch) (dC : Nat → ClassId) (dI : Nat → Nat → Nat) (cI cC cZ cB cJ : ClassId) (a_no : Nat) (sz : Nat) (no_apron : Int32) (no_basket : Int32) (no_ground : Int32) (no_bruised : Int32) (no_ladder : Int32) (no_helper : Int32) (no_today : Int32) (no_clock : Int32) (post : Int32 → Int32 → Prop) (hw : wp_X2_emptyApron post no_apron no_basket) : Met l yX2_emptyApron (gw yX2_emptyApron cX2_emptyApron 1 none) rm_X2_emptyApron (va_Pc [.ref a_no] (gPre (dC, dI) (tyl cI cC cZ cB cJ) (wd_X2_emptyApron cI cC cZ cB cJ a_no no_apron no_basket no_ground no_bruised no_ladder no_helper no_today no_clock) sz)) (q_X2_emptyApron dC dI cI cC cZ cB cJ (va_A (wd_X2_emptyApron cI cC cZ cB cJ a_no no_apron no_basket no_ground no_bruised no_ladder no_helper no_today no_clock) sz) a_no no_ground no_bruised no_ladder no_helper no_today no_clock post) 0 0 (va_A (wd_X2_emptyApron cI cC cZ cB cJ a_no no_apron no_basket no_ground no_bruised no_ladder no_helper no_today no_clock) sz) := by
  refine g_enter (own := RX2) (dC, dI) (tyl cI cC cZ cB cJ) (wd_X2_emptyApron cI cC cZ cB cJ a_no no_apron no_basket no_ground no_bruised no_ladder no_helper no_today no_clock) sz [.ref a_no] (fun A => q_X2_emptyApron dC dI cI cC cZ cB cJ A a_no no_ground no_bruised no_ladder no_helper no_today no_clock post) (by decide) rfl (Nat.le_of_ble_eq_true rfl) ?_
  intro p e s m args below meth c A H locs ls C0 hP hD hS hl
  have hl : lv_has ls 1 [(0, .ref a_no)] := hl
  obtain ⟨hx, hb, hr, hml, hown, hts, hlocks, hA, hK, hN, tL, tM, hZL, hTL, hZM, hTM, hZX⟩ := id C0
  have hp := hw
  unfold wp_X2_emptyApron at hp
  refine lv_aload_n hx hb eX2_emptyApron_0.1 rfl (lv_at hl 0 rfl) ?_
  refine lv_dup hx hb eX2_emptyApron_0.2.1 rfl ?_
  refine va_get (D := (dC, dI)) (ci := 2) (v := .int no_basket) (C := RX2) (T := TX2) (N := 8) hx hb hts i_X2 hown hK hP 0 rfl rfl 1 (Nat.le_of_ble_eq_true rfl) (hts _ q_169) (fun _ h9 => h9) rfl eX2_emptyApron_0.2.2.1 ?_
  refine lv_aload_n hx hb eX2_emptyApron_0.2.2.2.1 rfl (lv_at hl 0 rfl) ?_
  refine va_get (D := (dC, dI)) (ci := 2) (v := .int no_apron) (C := RX2) (T := TX2) (N := 8) hx hb hts i_X2 hown hK hP 0 rfl rfl 0 (Nat.le_of_ble_eq_true rfl) (hts _ q_168) (fun _ h9 => h9) rfl eX2_emptyApron_0.2.2.2.2.1 ?_
  refine lv_ior hx hb eX2_emptyApron_0.2.2.2.2.2.1 ?_
  refine lv_topi (fun v_1 ev_1 => ?_)
  have hp := hp v_1 ev_1
  refine va_put (D := (dC, dI)) (ci := 2) (v := .int v_1) (ty := .int) (C := RX2) (T := TX2) (N := 8) hx hb hts i_X2 tyX2 tyX2_ok nmX2 hown hK hP hD hS 0 rfl rfl 1 (Nat.le_of_ble_eq_true rfl) (hts _ q_169) (fun _ h9 => h9) rfl (tyX2_ok 1 (Nat.le_of_ble_eq_true rfl)) rfl rfl (Nat.le_of_ble_eq_true rfl) eX2_emptyApron_0.2.2.2.2.2.2.1 (fun H locs hP hD hS => ?_)
  have hP : va_P (dC, dI) classes (wd_X2_emptyApron cI cC cZ cB cJ a_no no_apron v_1 no_ground no_bruised no_ladder no_helper no_today no_clock) H := hP
  have hD : va_D A (wd_X2_emptyApron cI cC cZ cB cJ a_no no_apron v_1 no_ground no_bruised no_ladder no_helper no_today no_clock) := hD
  refine lv_aload_n hx hb eX2_emptyApron_0.2.2.2.2.2.2.2.1 rfl (lv_at hl 0 rfl) ?_
  refine lv_iconst (v := 0) hx hb eX2_emptyApron_0.2.2.2.2.2.2.2.2.1 (by decide) ?_
  refine va_put (D := (dC, dI)) (ci := 2) (v := .int 0) (ty := .int) (C := RX2) (T := TX2) (N := 8) hx hb hts i_X2 tyX2 tyX2_ok nmX2 hown hK hP hD hS 0 rfl rfl 0 (Nat.le_of_ble_eq_true rfl) (hts _ q_168) (fun _ h9 => h9) rfl (tyX2_ok 0 (Nat.le_of_ble_eq_true rfl)) rfl rfl (Nat.le_of_ble_eq_true rfl) eX2_emptyApron_0.2.2.2.2.2.2.2.2.2.1 (fun H locs hP hD hS => ?_)
  have hP : va_P (dC, dI) classes (wd_X2_emptyApron cI cC cZ cB cJ a_no 0 v_1 no_ground no_bruised no_ladder no_helper no_today no_clock) H := hP
  have hD : va_D A (wd_X2_emptyApron cI cC cZ cB cJ a_no 0 v_1 no_ground no_bruised no_ladder no_helper no_today no_clock) := hD
  exact W.vret hx hb hr (fun t ht hW => ⟨⟨(0, v_1), rfl, hp, by rw [ht]; exact hP, va_K.moved hW.alike hK, hD⟩, hS.F ht⟩) hS.2.2 eX2_emptyApron_0.2.2.2.2.2.2.2.2.2.2
abbrev wd_X2_spend (cI cC cZ cB cJ : ClassId) (a_no : Nat) (no_apron : Int32) (no_basket : Int32) (no_ground : Int32) (no_bruised : Int32) (no_ladder : Int32) (no_helper : Int32) (no_today : Int32) (no_clock : Int32) : va_W := [(a_no, .inr (2, [.int no_apron, .int no_basket, .int no_ground, .int no_bruised, .int no_ladder, .int no_helper, .int no_today, .int no_clock]))]
abbrev q_X2_spend (dC : Nat → ClassId) (dI : Nat → Nat → Nat) (cI cC cZ cB cJ : ClassId) (A : Nat → Prop) (a_no : Nat) (no_apron : Int32) (no_basket : Int32) (no_ground : Int32) (no_bruised : Int32) (no_ladder : Int32) (no_helper : Int32) (no_today : Int32) (post : Int32 → Prop) : Array Value → State → Outcome → State → Prop := va_Qv (fun (u : Int32) => post u) (fun u t => gB (dC, dI) (tyl cI cC cZ cB cJ) A (wd_X2_spend cI cC cZ cB cJ a_no no_apron no_basket no_ground no_bruised no_ladder no_helper no_today u) t) A
abbrev rm_X2_spend : Room := { frames := 1, cells := 0, slots := 0, locals := 21 }
def wp_X2_spend (post : Int32 → Prop) (p0 : Int32) (no_clock : Int32) : Prop := ∀ v_1 : Int32, v_1 = no_clock + p0 → ∀ v_2 : Int32, v_2 = (if v_1 < 9999 then v_1 else 9999) → post v_2
set_option maxHeartbeats 4000000 in
set_option maxRecDepth 100000 in
theorem c_X2_spend (l : Launch) (dC : Nat → ClassId) (dI : Nat → Nat → Nat) (cI cC cZ cB cJ : ClassId) (a_no : Nat) (sz : Nat) (p0 : Int32) (no_apron : Int32) (no_basket : Int32) (no_ground : Int32) (no_bruised : Int32) (no_ladder : Int32) (no_helper : Int32) (no_today : Int32) (no_clock : Int32) (post : Int32 → Prop) (hw : wp_X2_spend post p0 no_clock) : Met l yX2_spend (gw yX2_spend cX2_spend 2 none) rm_X2_spend (va_Pc [.ref a_no, .int p0] (gPre (dC, dI) (tyl cI cC cZ cB cJ) (wd_X2_spend cI cC cZ cB cJ a_no no_apron no_basket no_ground no_bruised no_ladder no_helper no_today no_clock) sz)) (q_X2_spend dC dI cI cC cZ cB cJ (va_A (wd_X2_spend cI cC cZ cB cJ a_no no_apron no_basket no_ground no_bruised no_ladder no_helper no_today no_clock) sz) a_no no_apron no_basket no_ground no_bruised no_ladder no_helper no_today post) 0 0 (va_A (wd_X2_spend cI cC cZ cB cJ a_no no_apron no_basket no_ground no_bruised no_ladder no_helper no_today no_clock) sz) := by
  refine g_enter (own := RX2) (dC, dI) (tyl cI cC cZ cB cJ) (wd_X2_spend cI cC cZ cB cJ a_no no_apron no_basket no_ground no_bruised no_ladder no_helper no_today no_clock) sz [.ref a_no, .int p0] (fun A => q_X2_spend dC dI cI cC cZ cB cJ A a_no no_apron no_basket no_ground no_bruised no_ladder no_helper no_today post) (by decide) rfl (Nat.le_of_ble_eq_true rfl) ?_
  intro p e s m args below meth c A H locs ls C0 hP hD hS hl
  have hl : lv_has ls 2 [(0, .ref a_no), (1, .int p0)] := hl
  obtain ⟨hx, hb, hr, hml, hown, hts, hlocks, hA, hK, hN, tL, tM, hZL, hTL, hZM, hTM, hZX⟩ := id C0
  have hp := hw
  unfold wp_X2_spend at hp
  refine lv_aload_n hx hb eX2_spend_0.1 rfl (lv_at hl 0 rfl) ?_
  refine lv_sipush (v := 9999) hx hb eX2_spend_0.2.1 (by decide) ?_
  refine lv_aload_n hx hb eX2_spend_0.2.2.1 rfl (lv_at hl 0 rfl) ?_
  refine va_get (D := (dC, dI)) (ci := 2) (v := .int no_clock) (C := RX2) (T := TX2) (N := 8) hx hb hts i_X2 hown hK hP 0 rfl rfl 7 (Nat.le_of_ble_eq_true rfl) (hts _ q_218) (fun _ h9 => h9) rfl eX2_spend_0.2.2.2.1 ?_
  refine lv_iload_n hx hb eX2_spend_0.2.2.2.2.1 rfl (lv_at hl 1 rfl) ?_
  refine lv_iadd hx hb eX2_spend_0.2.2.2.2.2.1 ?_
  refine lv_topi (fun v_1 ev_1 => ?_)
  have hp := hp v_1 ev_1
  refine va_mmin hx hb (by rw [hml]; exact hl.1.symm) hown (hts _ q_226) (hts _ q_15) (hts _ q_16) (hts _ q_17) (Nat.le_of_ble_eq_true rfl) (Nat.le_of_ble_eq_true rfl) (Nat.zero_le _) (Nat.zero_le _) eX2_spend_0.2.2.2.2.2.2.1 ?_
  refine lv_topi (fun v_2 ev_2 => ?_)
  have hp := hp v_2 ev_2
  refine va_put (D := (dC, dI)) (ci := 2) (v := .int v_2) (ty := .int) (C := RX2) (T := TX2) (N := 8) hx hb hts i_X2 tyX2 tyX2_ok nmX2 hown hK hP hD hS 0 rfl rfl 7 (Nat.le_of_ble_eq_true rfl) (hts _ q_218) (fun _ h9 => h9) rfl (tyX2_ok 7 (Nat.le_of_ble_eq_true rfl)) rfl rfl (Nat.le_of_ble_eq_true rfl) eX2_spend_0.2.2.2.2.2.2.2.1 (fun H locs hP hD hS => ?_)
  have hP : va_P (dC, dI) classes (wd_X2_spend cI cC cZ cB cJ a_no no_apron no_basket no_ground no_bruised no_ladder no_helper no_today v_2) H := hP
  have hD : va_D A (wd_X2_spend cI cC cZ cB cJ a_no no_apron no_basket no_ground no_bruised no_ladder no_helper no_today v_2) := hD
  exact W.vret hx hb hr (fun t ht hW => ⟨⟨v_2, rfl, hp, by rw [ht]; exact hP, va_K.moved hW.alike hK, hD⟩, hS.F ht⟩) hS.2.2 eX2_spend_0.2.2.2.2.2.2.2.2
abbrev wd_X0_setLadder (cI cC cZ cB cJ : ClassId) (a_ga : Nat) (a_tr : Nat) (a_no : Nat) (a_ru : Nat) (a_tr_x : Nat) (a_tr_height : Nat) (a_tr_worth : Nat) (a_tr_ripe : Nat) (a_tr_foot : Nat) (a_tr_fork : Nat) (a_tr_settings : Nat) (tr_fruits : Int32) (tr_standings : Int32) (tr_comingFruits : Int32) (tr_comingStandings : Int32) (tr_foot : Nat → Int32) (tr_fork : Nat → Int32) (tr_settings : Nat → Int32) (no_apron : Int32) (no_basket : Int32) (no_ground : Int32) (no_bruised : Int32) (no_ladder : Int32) (no_helper : Int32) (no_today : Int32) (no_clock : Int32) : va_W := [(a_ga, .inr (0, [.ref a_tr, .ref a_no, .ref a_ru])), (a_tr, .inr (3, [.ref a_tr_x, .ref a_tr_height, .ref a_tr_worth, .ref a_tr_ripe, .ref a_tr_foot, .ref a_tr_fork, .ref a_tr_settings, .int tr_fruits, .int tr_standings, .int tr_comingFruits, .int tr_comingStandings])), (a_tr_foot, .inl (cI, 8, .inl tr_foot)), (a_tr_fork, .inl (cI, 8, .inl tr_fork)), (a_tr_settings, .inl (cI, 5, .inl tr_settings)), (a_no, .inr (2, [.int no_apron, .int no_basket, .int no_ground, .int no_bruised, .int no_ladder, .int no_helper, .int no_today, .int no_clock]))]
abbrev q_X0_setLadder (dC : Nat → ClassId) (dI : Nat → Nat → Nat) (cI cC cZ cB cJ : ClassId) (A : Nat → Prop) (a_ga : Nat) (a_tr : Nat) (a_no : Nat) (a_ru : Nat) (a_tr_x : Nat) (a_tr_height : Nat) (a_tr_worth : Nat) (a_tr_ripe : Nat) (a_tr_foot : Nat) (a_tr_fork : Nat) (a_tr_settings : Nat) (tr_fruits : Int32) (tr_standings : Int32) (tr_comingFruits : Int32) (tr_comingStandings : Int32) (tr_foot : Nat → Int32) (tr_fork : Nat → Int32) (tr_settings : Nat → Int32) (no_ground : Int32) (no_bruised : Int32) (no_helper : Int32) (no_today : Int32) (post : Int32 → Int32 → Int32 → Int32 → Int32 → Prop) : Array Value → State → Outcome → State → Prop := va_Qi (fun (r : Int32) (u : Int32 × Int32 × Int32 × Int32) => post r u.1 u.2.1 u.2.2.1 u.2.2.2) (fun u t => gB (dC, dI) (tyl cI cC cZ cB cJ) A (wd_X0_setLadder cI cC cZ cB cJ a_ga a_tr a_no a_ru a_tr_x a_tr_height a_tr_worth a_tr_ripe a_tr_foot a_tr_fork a_tr_settings tr_fruits tr_standings tr_comingFruits tr_comingStandings tr_foot tr_fork tr_settings u.1 u.2.1 no_ground no_bruised u.2.2.1 no_helper no_today u.2.2.2) t) A
abbrev rm_X0_setLadder : Room := { frames := 2, cells := 0, slots := 0, locals := 43 }
section S_X0_setLadder
variable {p : Program} {l : Launch} {e : Env} {s : State} {m : MethodId} {args : Array Value} {below : List Frame} {meth : Method} {c : Code} {dC : Nat → ClassId} {dI : Nat → Nat → Nat} {cI cC cZ cB cJ : ClassId} {A : Nat → Prop} {a_ga : Nat} {a_tr : Nat} {a_no : Nat} {a_ru : Nat} {a_tr_x : Nat} {a_tr_height : Nat} {a_tr_worth : Nat} {a_tr_ripe : Nat} {a_tr_foot : Nat} {a_tr_fork : Nat} {a_tr_settings : Nat} {tr_fruits : Int32} {tr_standings : Int32} {tr_comingFruits : Int32} {tr_comingStandings : Int32} {tr_foot : Nat → Int32} {tr_fork : Nat → Int32} {tr_settings : Nat → Int32} {no_ground : Int32} {no_bruised : Int32} {no_helper : Int32} {no_today : Int32} {post : Int32 → Int32 → Int32 → Int32 → Int32 → Prop}
def ws_X0_setLadder_81 (post : Int32 → Int32 → Int32 → Int32 → Int32 → Prop) (tr_standings : Int32) (tr_foot : Nat → Int32) (tr_fork : Nat → Int32) (tr_settings : Nat → Int32) (x1 : Int32) (x2 : Int32) (no_apron : Int32) (no_basket : Int32) (no_ladder : Int32) (no_clock : Int32) : Prop := wp_X2_emptyApron (fun no_apron_3 no_basket_4 => wp_X2_spend (fun no_clock_5 => post x2 no_apron_3 no_basket_4 x1 no_clock_5) x2 no_clock) no_apron no_basket
set_option maxHeartbeats 4000000 in
set_option maxRecDepth 100000 in
theorem ks_X0_setLadder_81 (C0 : gc cX0_setLadder (some .int) 3 RX0 (dC, dI) (tyl cI cC cZ cB cJ) A p s m args meth c) : ∀ (x1 : Int32) (x2 : Int32) (no_apron : Int32) (no_basket : Int32) (no_ladder : Int32) (no_clock : Int32) (H : Heap) (locs : List Loc) (ls : Array Slot), (ws_X0_setLadder_81 post tr_standings tr_foot tr_fork tr_settings) x1 x2 no_apron no_basket no_ladder no_clock → va_P (dC, dI) classes (wd_X0_setLadder cI cC cZ cB cJ a_ga a_tr a_no a_ru a_tr_x a_tr_height a_tr_worth a_tr_ripe a_tr_foot a_tr_fork a_tr_settings tr_fruits tr_standings tr_comingFruits tr_comingStandings tr_foot tr_fork tr_settings no_apron no_basket no_ground no_bruised no_ladder no_helper no_today no_clock) H → va_D A (wd_X0_setLadder cI cC cZ cB cJ a_ga a_tr a_no a_ru a_tr_x a_tr_height a_tr_worth a_tr_ripe a_tr_foot a_tr_fork a_tr_settings tr_fruits tr_standings tr_comingFruits tr_comingStandings tr_foot tr_fork tr_settings no_apron no_basket no_ground no_bruised no_ladder no_helper no_today no_clock) → va_S A s.heap H locs → lv_has ls 3 [(0, .ref a_ga), (1, .int x1), (2, .int x2)] → W p l e rm_X0_setLadder s m args below meth c H locs 0 0 (MQ below (q_X0_setLadder dC dI cI cC cZ cB cJ A a_ga a_tr a_no a_ru a_tr_x a_tr_height a_tr_worth a_tr_ripe a_tr_foot a_tr_fork a_tr_settings tr_fruits tr_standings tr_comingFruits tr_comingStandings tr_foot tr_fork tr_settings no_ground no_bruised no_helper no_today post) args s 0 0 A) (F0 m 81 ls []) := by
  obtain ⟨hx, hb, hr, hml, hown, hts, hlocks, hA, hK, hN, tL, tM, hZL, hTL, hZM, hTM, hZX⟩ := id C0
  intro x1 x2 no_apron no_basket no_ladder no_clock H locs ls hp hP hD hS hl
  unfold ws_X0_setLadder_81 at hp
  refine lv_aload_n hx hb eX0_setLadder_65.2.2.2.2.2.2.2.2.1 rfl (lv_at hl 0 rfl) ?_
  refine va_get (D := (dC, dI)) (ci := 0) (v := .ref a_no) (C := RX0) (T := TX0) (N := 3) hx hb hts i_X0 hown hK hP 0 rfl rfl 1 (Nat.le_of_ble_eq_true rfl) (hts _ q_161) (fun _ h9 => h9) rfl eX0_setLadder_65.2.2.2.2.2.2.2.2.2.1 ?_
  refine g_callv (wc := (wd_X2_emptyApron cI cC cZ cB cJ a_no no_apron no_basket no_ground no_bruised no_ladder no_helper no_today no_clock)) hP hD hS hA [5] [0, 1, 2, 3, 4] rfl rfl rfl rfl (g_runV (As := []) (rest := []) C0 hP hD hS [5] rfl rfl 5 2 rfl rfl (c_X2_emptyApron l dC dI cI cC cZ cB cJ a_no H.size no_apron no_basket no_ground no_bruised no_ladder no_helper no_today no_clock _ hp) q_233 q_236 q_234 q_235 q_181 h_X2_emptyApron rfl rfl ⟨Nat.le_of_ble_eq_true rfl, Nat.le_of_ble_eq_true rfl⟩ rfl rfl hl.1 rfl (lv_room (Nat.le_of_ble_eq_true rfl)) eX0_setLadder_65.2.2.2.2.2.2.2.2.2.2.1 ⟨Nat.zero_le _, Nat.zero_le _⟩) (fun u H locs hp hP hD hS => ?_)
  obtain ⟨no_apron_3, no_basket_4⟩ := u
  have hPD := PDs (ws' := (wd_X0_setLadder cI cC cZ cB cJ a_ga a_tr a_no a_ru a_tr_x a_tr_height a_tr_worth a_tr_ripe a_tr_foot a_tr_fork a_tr_settings tr_fruits tr_standings tr_comingFruits tr_comingStandings tr_foot tr_fork tr_settings no_apron_3 no_basket_4 no_ground no_bruised no_ladder no_helper no_today no_clock)) hP hD [0, 1, 2, 3, 4, 5] (by decide) rfl
  have hP := hPD.1
  have hD := hPD.2
  refine lv_aload_n hx hb eX0_setLadder_65.2.2.2.2.2.2.2.2.2.2.2.1 rfl (lv_at hl 0 rfl) ?_
  refine va_get (D := (dC, dI)) (ci := 0) (v := .ref a_no) (C := RX0) (T := TX0) (N := 3) hx hb hts i_X0 hown hK hP 0 rfl rfl 1 (Nat.le_of_ble_eq_true rfl) (hts _ q_161) (fun _ h9 => h9) rfl eX0_setLadder_65.2.2.2.2.2.2.2.2.2.2.2.2.1 ?_
  refine lv_iload_n hx hb eX0_setLadder_65.2.2.2.2.2.2.2.2.2.2.2.2.2.1 rfl (lv_at hl 1 rfl) ?_
  refine va_put (D := (dC, dI)) (ci := 2) (v := .int x1) (ty := .int) (C := RX2) (T := TX2) (N := 8) hx hb hts i_X2 tyX2 tyX2_ok nmX2 hown hK hP hD hS 5 rfl rfl 4 (Nat.le_of_ble_eq_true rfl) (hts _ q_228) (fun _ h9 => h9) rfl (tyX2_ok 4 (Nat.le_of_ble_eq_true rfl)) rfl rfl (Nat.le_of_ble_eq_true rfl) eX0_setLadder_65.2.2.2.2.2.2.2.2.2.2.2.2.2.2.1 (fun H locs hP hD hS => ?_)
  have hP : va_P (dC, dI) classes (wd_X0_setLadder cI cC cZ cB cJ a_ga a_tr a_no a_ru a_tr_x a_tr_height a_tr_worth a_tr_ripe a_tr_foot a_tr_fork a_tr_settings tr_fruits tr_standings tr_comingFruits tr_comingStandings tr_foot tr_fork tr_settings no_apron_3 no_basket_4 no_ground no_bruised x1 no_helper no_today no_clock) H := hP
  have hD : va_D A (wd_X0_setLadder cI cC cZ cB cJ a_ga a_tr a_no a_ru a_tr_x a_tr_height a_tr_worth a_tr_ripe a_tr_foot a_tr_fork a_tr_settings tr_fruits tr_standings tr_comingFruits tr_comingStandings tr_foot tr_fork tr_settings no_apron_3 no_basket_4 no_ground no_bruised x1 no_helper no_today no_clock) := hD
  refine lv_aload_n hx hb eX0_setLadder_65.2.2.2.2.2.2.2.2.2.2.2.2.2.2.2 rfl (lv_at hl 0 rfl) ?_
  refine va_get (D := (dC, dI)) (ci := 0) (v := .ref a_no) (C := RX0) (T := TX0) (N := 3) hx hb hts i_X0 hown hK hP 0 rfl rfl 1 (Nat.le_of_ble_eq_true rfl) (hts _ q_161) (fun _ h9 => h9) rfl eX0_setLadder_97.1 ?_
  refine lv_iload_n hx hb eX0_setLadder_97.2.1 rfl (lv_at hl 2 rfl) ?_
  refine g_callv (wc := (wd_X2_spend cI cC cZ cB cJ a_no no_apron_3 no_basket_4 no_ground no_bruised x1 no_helper no_today no_clock)) hP hD hS hA [5] [0, 1, 2, 3, 4] rfl rfl rfl rfl (g_runV (As := [.int x2]) (rest := []) C0 hP hD hS [5] rfl rfl 5 2 rfl rfl (c_X2_spend l dC dI cI cC cZ cB cJ a_no H.size x2 no_apron_3 no_basket_4 no_ground no_bruised x1 no_helper no_today no_clock _ hp) q_237 q_240 q_238 q_239 q_181 h_X2_spend rfl rfl ⟨Nat.le_of_ble_eq_true rfl, Nat.le_of_ble_eq_true rfl⟩ rfl rfl hl.1 rfl (lv_room (Nat.le_of_ble_eq_true rfl)) eX0_setLadder_97.2.2.1 ⟨Nat.zero_le _, Nat.zero_le _⟩) (fun u H locs hp hP hD hS => ?_)
  obtain ⟨no_clock_5, rfl⟩ : ∃ z, z = u := ⟨_, rfl⟩
  have hPD := PDs (ws' := (wd_X0_setLadder cI cC cZ cB cJ a_ga a_tr a_no a_ru a_tr_x a_tr_height a_tr_worth a_tr_ripe a_tr_foot a_tr_fork a_tr_settings tr_fruits tr_standings tr_comingFruits tr_comingStandings tr_foot tr_fork tr_settings no_apron_3 no_basket_4 no_ground no_bruised x1 no_helper no_today no_clock_5)) hP hD [0, 1, 2, 3, 4, 5] (by decide) rfl
  have hP := hPD.1
  have hD := hPD.2
  refine lv_iload_n hx hb eX0_setLadder_97.2.2.2.1 rfl (lv_at hl 2 rfl) ?_
  exact W.iret (v := x2) hx hb hr (fun t ht hW => ⟨⟨x2, (no_apron_3, no_basket_4, x1, no_clock_5), rfl, hp, by rw [ht]; exact hP, va_K.moved hW.alike hK, hD⟩, hS.F ht⟩) hS.2.2 eX0_setLadder_97.2.2.2.2
end S_X0_setLadder
def wp_X0_setLadder (post : Int32 → Int32 → Int32 → Int32 → Int32 → Prop) (p0 : Int32) (tr_standings : Int32) (tr_foot : Nat → Int32) (tr_fork : Nat → Int32) (tr_settings : Nat → Int32) (no_apron : Int32) (no_basket : Int32) (no_ladder : Int32) (no_clock : Int32) : Prop := wp_X3_hasStanding (fun r_1 => (¬ r_1 = 0 → (¬ p0 = no_ladder → wp_X3_moveSeconds (fun r_2 => (no_apron = 0 → ws_X0_setLadder_81 post tr_standings tr_foot tr_fork tr_settings p0 r_2 no_apron no_basket no_ladder no_clock) ∧ (¬ no_apron = 0 → (no_ladder = (-1) → ws_X0_setLadder_81 post tr_standings tr_foot tr_fork tr_settings p0 r_2 no_apron no_basket no_ladder no_clock) ∧ (¬ no_ladder = (-1) → wp_X3_downSeconds (fun r_6 => ∀ v_7 : Int32, v_7 = r_2 + r_6 → ws_X0_setLadder_81 post tr_standings tr_foot tr_fork tr_settings p0 v_7 no_apron no_basket no_ladder no_clock) no_ladder tr_fork))) no_ladder p0 tr_foot tr_settings) ∧ (p0 = no_ladder → post (-2) no_apron no_basket no_ladder no_clock)) ∧ (r_1 = 0 → post (-1) no_apron no_basket no_ladder no_clock)) p0 tr_standings
set_option maxHeartbeats 4000000 in
set_option maxRecDepth 100000 in
theorem c_X0_setLadder (l : Launch) (dC : Nat → ClassId) (dI : Nat → Nat → Nat) (cI cC cZ cB cJ : ClassId) (a_ga : Nat) (a_tr : Nat) (a_no : Nat) (a_ru : Nat) (a_tr_x : Nat) (a_tr_height : Nat) (a_tr_worth : Nat) (a_tr_ripe : Nat) (a_tr_foot : Nat) (a_tr_fork : Nat) (a_tr_settings : Nat) (sz : Nat) (p0 : Int32) (tr_fruits : Int32) (tr_standings : Int32) (tr_comingFruits : Int32) (tr_comingStandings : Int32) (tr_foot : Nat → Int32) (tr_fork : Nat → Int32) (tr_settings : Nat → Int32) (no_apron : Int32) (no_basket : Int32) (no_ground : Int32) (no_bruised : Int32) (no_ladder : Int32) (no_helper : Int32) (no_today : Int32) (no_clock : Int32) (post : Int32 → Int32 → Int32 → Int32 → Int32 → Prop) (hw : wp_X0_setLadder post p0 tr_standings tr_foot tr_fork tr_settings no_apron no_basket no_ladder no_clock) : Met l yX0_setLadder (gw yX0_setLadder cX0_setLadder 3 (some .int)) rm_X0_setLadder (va_Pc [.ref a_ga, .int p0] (gPre (dC, dI) (tyl cI cC cZ cB cJ) (wd_X0_setLadder cI cC cZ cB cJ a_ga a_tr a_no a_ru a_tr_x a_tr_height a_tr_worth a_tr_ripe a_tr_foot a_tr_fork a_tr_settings tr_fruits tr_standings tr_comingFruits tr_comingStandings tr_foot tr_fork tr_settings no_apron no_basket no_ground no_bruised no_ladder no_helper no_today no_clock) sz)) (q_X0_setLadder dC dI cI cC cZ cB cJ (va_A (wd_X0_setLadder cI cC cZ cB cJ a_ga a_tr a_no a_ru a_tr_x a_tr_height a_tr_worth a_tr_ripe a_tr_foot a_tr_fork a_tr_settings tr_fruits tr_standings tr_comingFruits tr_comingStandings tr_foot tr_fork tr_settings no_apron no_basket no_ground no_bruised no_ladder no_helper no_today no_clock) sz) a_ga a_tr a_no a_ru a_tr_x a_tr_height a_tr_worth a_tr_ripe a_tr_foot a_tr_fork a_tr_settings tr_fruits tr_standings tr_comingFruits tr_comingStandings tr_foot tr_fork tr_settings no_ground no_bruised no_helper no_today post) 0 0 (va_A (wd_X0_setLadder cI cC cZ cB cJ a_ga a_tr a_no a_ru a_tr_x a_tr_height a_tr_worth a_tr_ripe a_tr_foot a_tr_fork a_tr_settings tr_fruits tr_standings tr_comingFruits tr_comingStandings tr_foot tr_fork tr_settings no_apron no_basket no_ground no_bruised no_ladder no_helper no_today no_clock) sz) := by
  refine g_enter (own := RX0) (dC, dI) (tyl cI cC cZ cB cJ) (wd_X0_setLadder cI cC cZ cB cJ a_ga a_tr a_no a_ru a_tr_x a_tr_height a_tr_worth a_tr_ripe a_tr_foot a_tr_fork a_tr_settings tr_fruits tr_standings tr_comingFruits tr_comingStandings tr_foot tr_fork tr_settings no_apron no_basket no_ground no_bruised no_ladder no_helper no_today no_clock) sz [.ref a_ga, .int p0] (fun A => q_X0_setLadder dC dI cI cC cZ cB cJ A a_ga a_tr a_no a_ru a_tr_x a_tr_height a_tr_worth a_tr_ripe a_tr_foot a_tr_fork a_tr_settings tr_fruits tr_standings tr_comingFruits tr_comingStandings tr_foot tr_fork tr_settings no_ground no_bruised no_helper no_today post) (by decide) rfl (Nat.le_of_ble_eq_true rfl) ?_
  intro p e s m args below meth c A H locs ls C0 hP hD hS hl
  have hl : lv_has ls 3 [(0, .ref a_ga), (1, .int p0)] := hl
  obtain ⟨hx, hb, hr, hml, hown, hts, hlocks, hA, hK, hN, tL, tM, hZL, hTL, hZM, hTM, hZX⟩ := id C0
  have hp := hw
  unfold wp_X0_setLadder at hp
  refine lv_aload_n hx hb eX0_setLadder_0.1 rfl (lv_at hl 0 rfl) ?_
  refine va_get (D := (dC, dI)) (ci := 0) (v := .ref a_tr) (C := RX0) (T := TX0) (N := 3) hx hb hts i_X0 hown hK hP 0 rfl rfl 0 (Nat.le_of_ble_eq_true rfl) (hts _ q_156) (fun _ h9 => h9) rfl eX0_setLadder_0.2.1 ?_
  refine lv_iload_n hx hb eX0_setLadder_0.2.2.1 rfl (lv_at hl 1 rfl) ?_
  refine g_calli (wc := (wd_X3_hasStanding cI cC cZ cB cJ a_tr a_tr_x a_tr_height a_tr_worth a_tr_ripe a_tr_foot a_tr_fork a_tr_settings tr_fruits tr_standings tr_comingFruits tr_comingStandings)) hP hD hS hA [1] [0, 2, 3, 4, 5] rfl rfl rfl rfl (g_runV (As := [.int p0]) (rest := []) C0 hP hD hS [1] rfl rfl 1 3 rfl rfl (c_X3_hasStanding l dC dI cI cC cZ cB cJ a_tr a_tr_x a_tr_height a_tr_worth a_tr_ripe a_tr_foot a_tr_fork a_tr_settings H.size p0 tr_fruits tr_standings tr_comingFruits tr_comingStandings _ hp) q_195 q_227 q_196 q_197 q_48 h_X3_hasStanding rfl rfl ⟨Nat.le_of_ble_eq_true rfl, Nat.le_of_ble_eq_true rfl⟩ rfl rfl hl.1 rfl (lv_room (Nat.le_of_ble_eq_true rfl)) eX0_setLadder_0.2.2.2.1 ⟨Nat.zero_le _, Nat.zero_le _⟩) (fun r_1 u H locs hp hP hD hS => ?_)
  have hPD := PDs (ws' := (wd_X0_setLadder cI cC cZ cB cJ a_ga a_tr a_no a_ru a_tr_x a_tr_height a_tr_worth a_tr_ripe a_tr_foot a_tr_fork a_tr_settings tr_fruits tr_standings tr_comingFruits tr_comingStandings tr_foot tr_fork tr_settings no_apron no_basket no_ground no_bruised no_ladder no_helper no_today no_clock)) hP hD [0, 5, 1, 2, 3, 4] (by decide) rfl
  have hP := hPD.1
  have hD := hPD.2
  refine lv_if_ne (tgt := 13) hx hb eX0_setLadder_0.2.2.2.2.1 (by decide) (fun hc => ?_) (fun hc => ?_)
  · have hp := hp.1 hc
    refine lv_iload_n hx hb eX0_setLadder_0.2.2.2.2.2.2.2.1 rfl (lv_at hl 1 rfl) ?_
    refine lv_aload_n hx hb eX0_setLadder_0.2.2.2.2.2.2.2.2.1 rfl (lv_at hl 0 rfl) ?_
    refine va_get (D := (dC, dI)) (ci := 0) (v := .ref a_no) (C := RX0) (T := TX0) (N := 3) hx hb hts i_X0 hown hK hP 0 rfl rfl 1 (Nat.le_of_ble_eq_true rfl) (hts _ q_161) (fun _ h9 => h9) rfl eX0_setLadder_0.2.2.2.2.2.2.2.2.2.1 ?_
    refine va_get (D := (dC, dI)) (ci := 2) (v := .int no_ladder) (C := RX2) (T := TX2) (N := 8) hx hb hts i_X2 hown hK hP 5 rfl rfl 4 (Nat.le_of_ble_eq_true rfl) (hts _ q_228) (fun _ h9 => h9) rfl eX0_setLadder_0.2.2.2.2.2.2.2.2.2.2.1 ?_
    refine lv_icmp_ne (tgt := 27) hx hb eX0_setLadder_0.2.2.2.2.2.2.2.2.2.2.2.1 (by decide) (fun hc => ?_) (fun hc => ?_)
    · have hp := hp.1 hc
      refine lv_aload_n hx hb eX0_setLadder_0.2.2.2.2.2.2.2.2.2.2.2.2.2.2.1 rfl (lv_at hl 0 rfl) ?_
      refine va_get (D := (dC, dI)) (ci := 0) (v := .ref a_tr) (C := RX0) (T := TX0) (N := 3) hx hb hts i_X0 hown hK hP 0 rfl rfl 0 (Nat.le_of_ble_eq_true rfl) (hts _ q_156) (fun _ h9 => h9) rfl eX0_setLadder_0.2.2.2.2.2.2.2.2.2.2.2.2.2.2.2 ?_
      refine lv_aload_n hx hb eX0_setLadder_31.1 rfl (lv_at hl 0 rfl) ?_
      refine va_get (D := (dC, dI)) (ci := 0) (v := .ref a_no) (C := RX0) (T := TX0) (N := 3) hx hb hts i_X0 hown hK hP 0 rfl rfl 1 (Nat.le_of_ble_eq_true rfl) (hts _ q_161) (fun _ h9 => h9) rfl eX0_setLadder_31.2.1 ?_
      refine va_get (D := (dC, dI)) (ci := 2) (v := .int no_ladder) (C := RX2) (T := TX2) (N := 8) hx hb hts i_X2 hown hK hP 5 rfl rfl 4 (Nat.le_of_ble_eq_true rfl) (hts _ q_228) (fun _ h9 => h9) rfl eX0_setLadder_31.2.2.1 ?_
      refine lv_iload_n hx hb eX0_setLadder_31.2.2.2.1 rfl (lv_at hl 1 rfl) ?_
      refine g_calli (wc := (wd_X3_moveSeconds cI cC cZ cB cJ a_tr a_tr_x a_tr_height a_tr_worth a_tr_ripe a_tr_foot a_tr_fork a_tr_settings tr_fruits tr_standings tr_comingFruits tr_comingStandings tr_foot tr_settings)) hP hD hS hA [1, 2, 4] [0, 3, 5] rfl rfl rfl rfl (g_runV (As := [.int no_ladder, .int p0]) (rest := []) C0 hP hD hS [1, 2, 4] rfl rfl 1 3 rfl rfl (c_X3_moveSeconds l dC dI cI cC cZ cB cJ a_tr a_tr_x a_tr_height a_tr_worth a_tr_ripe a_tr_foot a_tr_fork a_tr_settings H.size no_ladder p0 tr_fruits tr_standings tr_comingFruits tr_comingStandings tr_foot tr_settings _ hp) q_229 q_232 q_230 q_231 q_48 h_X3_moveSeconds rfl rfl ⟨Nat.le_of_ble_eq_true rfl, Nat.le_of_ble_eq_true rfl⟩ rfl rfl hl.1 rfl (lv_room (Nat.le_of_ble_eq_true rfl)) eX0_setLadder_31.2.2.2.2.1 ⟨Nat.zero_le _, Nat.zero_le _⟩) (fun r_2 u H locs hp hP hD hS => ?_)
      have hPD := PDs (ws' := (wd_X0_setLadder cI cC cZ cB cJ a_ga a_tr a_no a_ru a_tr_x a_tr_height a_tr_worth a_tr_ripe a_tr_foot a_tr_fork a_tr_settings tr_fruits tr_standings tr_comingFruits tr_comingStandings tr_foot tr_fork tr_settings no_apron no_basket no_ground no_bruised no_ladder no_helper no_today no_clock)) hP hD [0, 3, 4, 1, 5, 2] (by decide) rfl
      have hP := hPD.1
      have hD := hPD.2
      refine lv_istore_n (lv' := [(2, .int r_2), (0, .ref a_ga), (1, .int p0)]) hx hb eX0_setLadder_31.2.2.2.2.2.1 rfl hl (by decide) rfl (fun ls hl => ?_)
      refine lv_aload_n hx hb eX0_setLadder_31.2.2.2.2.2.2.1 rfl (lv_at hl 1 rfl) ?_
      refine va_get (D := (dC, dI)) (ci := 0) (v := .ref a_no) (C := RX0) (T := TX0) (N := 3) hx hb hts i_X0 hown hK hP 0 rfl rfl 1 (Nat.le_of_ble_eq_true rfl) (hts _ q_161) (fun _ h9 => h9) rfl eX0_setLadder_31.2.2.2.2.2.2.2.1 ?_
      refine va_get (D := (dC, dI)) (ci := 2) (v := .int no_apron) (C := RX2) (T := TX2) (N := 8) hx hb hts i_X2 hown hK hP 5 rfl rfl 0 (Nat.le_of_ble_eq_true rfl) (hts _ q_162) (fun _ h9 => h9) rfl eX0_setLadder_31.2.2.2.2.2.2.2.2.1 ?_
      refine lv_if_eq (tgt := 81) hx hb eX0_setLadder_31.2.2.2.2.2.2.2.2.2.1 (by decide) (fun hc => ?_) (fun hc => ?_)
      · have hp := hp.1 hc
        exact ks_X0_setLadder_81 C0 p0 r_2 no_apron no_basket no_ladder no_clock H locs ls hp hP hD hS (lv_sub hl [1, 2, 0] rfl)
      · have hp := hp.2 hc
        refine lv_aload_n hx hb eX0_setLadder_31.2.2.2.2.2.2.2.2.2.2.1 rfl (lv_at hl 1 rfl) ?_
        refine va_get (D := (dC, dI)) (ci := 0) (v := .ref a_no) (C := RX0) (T := TX0) (N := 3) hx hb hts i_X0 hown hK hP 0 rfl rfl 1 (Nat.le_of_ble_eq_true rfl) (hts _ q_161) (fun _ h9 => h9) rfl eX0_setLadder_31.2.2.2.2.2.2.2.2.2.2.2.1 ?_
        refine va_get (D := (dC, dI)) (ci := 2) (v := .int no_ladder) (C := RX2) (T := TX2) (N := 8) hx hb hts i_X2 hown hK hP 5 rfl rfl 4 (Nat.le_of_ble_eq_true rfl) (hts _ q_228) (fun _ h9 => h9) rfl eX0_setLadder_31.2.2.2.2.2.2.2.2.2.2.2.2.1 ?_
        refine lv_iconst (v := (-1)) hx hb eX0_setLadder_31.2.2.2.2.2.2.2.2.2.2.2.2.2.1 (by decide) ?_
        refine lv_icmp_eq (tgt := 81) hx hb eX0_setLadder_31.2.2.2.2.2.2.2.2.2.2.2.2.2.2.1 (by decide) (fun hc => ?_) (fun hc => ?_)
        · have hp := hp.1 hc
          exact ks_X0_setLadder_81 C0 p0 r_2 no_apron no_basket no_ladder no_clock H locs ls hp hP hD hS (lv_sub hl [1, 2, 0] rfl)
        · have hp := hp.2 hc
          refine lv_iload_n hx hb eX0_setLadder_31.2.2.2.2.2.2.2.2.2.2.2.2.2.2.2 rfl (lv_at hl 0 rfl) ?_
          refine lv_aload_n hx hb eX0_setLadder_65.1 rfl (lv_at hl 1 rfl) ?_
          refine va_get (D := (dC, dI)) (ci := 0) (v := .ref a_tr) (C := RX0) (T := TX0) (N := 3) hx hb hts i_X0 hown hK hP 0 rfl rfl 0 (Nat.le_of_ble_eq_true rfl) (hts _ q_156) (fun _ h9 => h9) rfl eX0_setLadder_65.2.1 ?_
          refine lv_aload_n hx hb eX0_setLadder_65.2.2.1 rfl (lv_at hl 1 rfl) ?_
          refine va_get (D := (dC, dI)) (ci := 0) (v := .ref a_no) (C := RX0) (T := TX0) (N := 3) hx hb hts i_X0 hown hK hP 0 rfl rfl 1 (Nat.le_of_ble_eq_true rfl) (hts _ q_161) (fun _ h9 => h9) rfl eX0_setLadder_65.2.2.2.1 ?_
          refine va_get (D := (dC, dI)) (ci := 2) (v := .int no_ladder) (C := RX2) (T := TX2) (N := 8) hx hb hts i_X2 hown hK hP 5 rfl rfl 4 (Nat.le_of_ble_eq_true rfl) (hts _ q_228) (fun _ h9 => h9) rfl eX0_setLadder_65.2.2.2.2.1 ?_
          refine g_calli (wc := (wd_X3_downSeconds cI cC cZ cB cJ a_tr a_tr_x a_tr_height a_tr_worth a_tr_ripe a_tr_foot a_tr_fork a_tr_settings tr_fruits tr_standings tr_comingFruits tr_comingStandings tr_fork)) hP hD hS hA [1, 3] [0, 2, 4, 5] rfl rfl rfl rfl (g_runV (As := [.int no_ladder]) (rest := [.int r_2]) C0 hP hD hS [1, 3] rfl rfl 1 3 rfl rfl (c_X3_downSeconds l dC dI cI cC cZ cB cJ a_tr a_tr_x a_tr_height a_tr_worth a_tr_ripe a_tr_foot a_tr_fork a_tr_settings H.size no_ladder tr_fruits tr_standings tr_comingFruits tr_comingStandings tr_fork _ hp) q_201 q_241 q_202 q_203 q_48 h_X3_downSeconds rfl rfl ⟨Nat.le_of_ble_eq_true rfl, Nat.le_of_ble_eq_true rfl⟩ rfl rfl hl.1 rfl (lv_room (Nat.le_of_ble_eq_true rfl)) eX0_setLadder_65.2.2.2.2.2.1 ⟨Nat.zero_le _, Nat.zero_le _⟩) (fun r_6 u H locs hp hP hD hS => ?_)
          have hPD := PDs (ws' := (wd_X0_setLadder cI cC cZ cB cJ a_ga a_tr a_no a_ru a_tr_x a_tr_height a_tr_worth a_tr_ripe a_tr_foot a_tr_fork a_tr_settings tr_fruits tr_standings tr_comingFruits tr_comingStandings tr_foot tr_fork tr_settings no_apron no_basket no_ground no_bruised no_ladder no_helper no_today no_clock)) hP hD [0, 4, 1, 5, 2, 3] (by decide) rfl
          have hP := hPD.1
          have hD := hPD.2
          refine lv_iadd hx hb eX0_setLadder_65.2.2.2.2.2.2.1 ?_
          refine lv_topi (fun v_7 ev_7 => ?_)
          have hp := hp v_7 ev_7
          refine lv_istore_n (lv' := [(2, .int v_7), (0, .ref a_ga), (1, .int p0)]) hx hb eX0_setLadder_65.2.2.2.2.2.2.2.1 rfl hl (by decide) rfl (fun ls hl => ?_)
          exact ks_X0_setLadder_81 C0 p0 v_7 no_apron no_basket no_ladder no_clock H locs ls hp hP hD hS (lv_sub hl [1, 2, 0] rfl)
    · have hp := hp.2 hc
      refine lv_bipush (v := (-2)) hx hb eX0_setLadder_0.2.2.2.2.2.2.2.2.2.2.2.2.1 (by decide) ?_
      exact W.iret (v := (-2)) hx hb hr (fun t ht hW => ⟨⟨(-2), (no_apron, no_basket, no_ladder, no_clock), rfl, hp, by rw [ht]; exact hP, va_K.moved hW.alike hK, hD⟩, hS.F ht⟩) hS.2.2 eX0_setLadder_0.2.2.2.2.2.2.2.2.2.2.2.2.2.1
  · have hp := hp.2 hc
    refine lv_iconst (v := (-1)) hx hb eX0_setLadder_0.2.2.2.2.2.1 (by decide) ?_
    exact W.iret (v := (-1)) hx hb hr (fun t ht hW => ⟨⟨(-1), (no_apron, no_basket, no_ladder, no_clock), rfl, hp, by rw [ht]; exact hP, va_K.moved hW.alike hK, hD⟩, hS.F ht⟩) hS.2.2 eX0_setLadder_0.2.2.2.2.2.2.1
abbrev wd_X4_hold (cI cC cZ cB cJ : ClassId) (a_pa : Nat) (a_pa_cells : Nat) (a_pa_keptCells : Nat) (a_pa_isKept : Nat) (pa_undoable : Int32) (pa_free : Int32) : va_W := [(a_pa, .inr (4, [.ref a_pa_cells, .ref a_pa_keptCells, .ref a_pa_isKept, .int pa_undoable, .int pa_free]))]
abbrev q_X4_hold (dC : Nat → ClassId) (dI : Nat → Nat → Nat) (cI cC cZ cB cJ : ClassId) (A : Nat → Prop) (a_pa : Nat) (a_pa_cells : Nat) (a_pa_keptCells : Nat) (a_pa_isKept : Nat) (post : Int32 → Int32 → Prop) : Array Value → State → Outcome → State → Prop := va_Qv (fun (u : Int32 × Int32) => post u.1 u.2) (fun u t => gB (dC, dI) (tyl cI cC cZ cB cJ) A (wd_X4_hold cI cC cZ cB cJ a_pa a_pa_cells a_pa_keptCells a_pa_isKept u.1 u.2) t) A
abbrev rm_X4_hold : Room := { frames := 1, cells := 0, slots := 0, locals := 21 }
def wp_X4_hold (post : Int32 → Int32 → Prop) (pa_undoable : Int32) (pa_free : Int32) : Prop := ∀ v_1 : Int32, v_1 = pa_free + 1 → ∀ v_2 : Int32, v_2 = v_1 - v_1 / 13 * 13 → ∀ v_3 : Int32, v_3 = pa_undoable + 1 → ∀ v_4 : Int32, v_4 = (if v_3 < 12 then v_3 else 12) → post v_4 v_2
set_option maxHeartbeats 4000000 in
set_option maxRecDepth 100000 in
theorem c_X4_hold (l : Launch) (dC : Nat → ClassId) (dI : Nat → Nat → Nat) (cI cC cZ cB cJ : ClassId) (a_pa : Nat) (a_pa_cells : Nat) (a_pa_keptCells : Nat) (a_pa_isKept : Nat) (sz : Nat) (pa_undoable : Int32) (pa_free : Int32) (post : Int32 → Int32 → Prop) (hw : wp_X4_hold post pa_undoable pa_free) : Met l yX4_hold (gw yX4_hold cX4_hold 1 none) rm_X4_hold (va_Pc [.ref a_pa] (gPre (dC, dI) (tyl cI cC cZ cB cJ) (wd_X4_hold cI cC cZ cB cJ a_pa a_pa_cells a_pa_keptCells a_pa_isKept pa_undoable pa_free) sz)) (q_X4_hold dC dI cI cC cZ cB cJ (va_A (wd_X4_hold cI cC cZ cB cJ a_pa a_pa_cells a_pa_keptCells a_pa_isKept pa_undoable pa_free) sz) a_pa a_pa_cells a_pa_keptCells a_pa_isKept post) 0 0 (va_A (wd_X4_hold cI cC cZ cB cJ a_pa a_pa_cells a_pa_keptCells a_pa_isKept pa_undoable pa_free) sz) := by
  refine g_enter (own := RX4) (dC, dI) (tyl cI cC cZ cB cJ) (wd_X4_hold cI cC cZ cB cJ a_pa a_pa_cells a_pa_keptCells a_pa_isKept pa_undoable pa_free) sz [.ref a_pa] (fun A => q_X4_hold dC dI cI cC cZ cB cJ A a_pa a_pa_cells a_pa_keptCells a_pa_isKept post) (by decide) rfl (Nat.le_of_ble_eq_true rfl) ?_
  intro p e s m args below meth c A H locs ls C0 hP hD hS hl
  have hl : lv_has ls 1 [(0, .ref a_pa)] := hl
  obtain ⟨hx, hb, hr, hml, hown, hts, hlocks, hA, hK, hN, tL, tM, hZL, hTL, hZM, hTM, hZX⟩ := id C0
  have hp := hw
  unfold wp_X4_hold at hp
  refine lv_aload_n hx hb eX4_hold_0.1 rfl (lv_at hl 0 rfl) ?_
  refine lv_aload_n hx hb eX4_hold_0.2.1 rfl (lv_at hl 0 rfl) ?_
  refine va_get (D := (dC, dI)) (ci := 4) (v := .int pa_free) (C := RX4) (T := TX4) (N := 5) hx hb hts i_X4 hown hK hP 0 rfl rfl 4 (Nat.le_of_ble_eq_true rfl) (hts _ q_220) (fun _ h9 => h9) rfl eX4_hold_0.2.2.1 ?_
  refine lv_iconst (v := 1) hx hb eX4_hold_0.2.2.2.1 (by decide) ?_
  refine lv_iadd hx hb eX4_hold_0.2.2.2.2.1 ?_
  refine lv_topi (fun v_1 ev_1 => ?_)
  have hp := hp v_1 ev_1
  refine lv_bipush (v := 13) hx hb eX4_hold_0.2.2.2.2.2.1 (by decide) ?_
  refine lv_irem hx hb eX4_hold_0.2.2.2.2.2.2.1 (by decide) ?_
  refine lv_topi (fun v_2 ev_2 => ?_)
  have hp := hp v_2 ev_2
  refine va_put (D := (dC, dI)) (ci := 4) (v := .int v_2) (ty := .int) (C := RX4) (T := TX4) (N := 5) hx hb hts i_X4 tyX4 tyX4_ok nmX4 hown hK hP hD hS 0 rfl rfl 4 (Nat.le_of_ble_eq_true rfl) (hts _ q_220) (fun _ h9 => h9) rfl (tyX4_ok 4 (Nat.le_of_ble_eq_true rfl)) rfl rfl (Nat.le_of_ble_eq_true rfl) eX4_hold_0.2.2.2.2.2.2.2.1 (fun H locs hP hD hS => ?_)
  have hP : va_P (dC, dI) classes (wd_X4_hold cI cC cZ cB cJ a_pa a_pa_cells a_pa_keptCells a_pa_isKept pa_undoable v_2) H := hP
  have hD : va_D A (wd_X4_hold cI cC cZ cB cJ a_pa a_pa_cells a_pa_keptCells a_pa_isKept pa_undoable v_2) := hD
  refine lv_aload_n hx hb eX4_hold_0.2.2.2.2.2.2.2.2.1 rfl (lv_at hl 0 rfl) ?_
  refine lv_bipush (v := 12) hx hb eX4_hold_0.2.2.2.2.2.2.2.2.2.1 (by decide) ?_
  refine lv_aload_n hx hb eX4_hold_0.2.2.2.2.2.2.2.2.2.2.1 rfl (lv_at hl 0 rfl) ?_
  refine va_get (D := (dC, dI)) (ci := 4) (v := .int pa_undoable) (C := RX4) (T := TX4) (N := 5) hx hb hts i_X4 hown hK hP 0 rfl rfl 3 (Nat.le_of_ble_eq_true rfl) (hts _ q_23) (fun _ h9 => h9) rfl eX4_hold_0.2.2.2.2.2.2.2.2.2.2.2.1 ?_
  refine lv_iconst (v := 1) hx hb eX4_hold_0.2.2.2.2.2.2.2.2.2.2.2.2.1 (by decide) ?_
  refine lv_iadd hx hb eX4_hold_0.2.2.2.2.2.2.2.2.2.2.2.2.2.1 ?_
  refine lv_topi (fun v_3 ev_3 => ?_)
  have hp := hp v_3 ev_3
  refine va_mmin hx hb (by rw [hml]; exact hl.1.symm) hown (hts _ q_242) (hts _ q_15) (hts _ q_16) (hts _ q_17) (Nat.le_of_ble_eq_true rfl) (Nat.le_of_ble_eq_true rfl) (Nat.zero_le _) (Nat.zero_le _) eX4_hold_0.2.2.2.2.2.2.2.2.2.2.2.2.2.2.1 ?_
  refine lv_topi (fun v_4 ev_4 => ?_)
  have hp := hp v_4 ev_4
  refine va_put (D := (dC, dI)) (ci := 4) (v := .int v_4) (ty := .int) (C := RX4) (T := TX4) (N := 5) hx hb hts i_X4 tyX4 tyX4_ok nmX4 hown hK hP hD hS 0 rfl rfl 3 (Nat.le_of_ble_eq_true rfl) (hts _ q_23) (fun _ h9 => h9) rfl (tyX4_ok 3 (Nat.le_of_ble_eq_true rfl)) rfl rfl (Nat.le_of_ble_eq_true rfl) eX4_hold_0.2.2.2.2.2.2.2.2.2.2.2.2.2.2.2 (fun H locs hP hD hS => ?_)
  have hP : va_P (dC, dI) classes (wd_X4_hold cI cC cZ cB cJ a_pa a_pa_cells a_pa_keptCells a_pa_isKept v_4 v_2) H := hP
  have hD : va_D A (wd_X4_hold cI cC cZ cB cJ a_pa a_pa_cells a_pa_keptCells a_pa_isKept v_4 v_2) := hD
  exact W.vret hx hb hr (fun t ht hW => ⟨⟨(v_4, v_2), rfl, hp, by rw [ht]; exact hP, va_K.moved hW.alike hK, hD⟩, hS.F ht⟩) hS.2.2 dX4_hold_28
abbrev wd_X9_holdIfDone (cI cC cZ cB cJ : ClassId) (a_x : Nat) (a_tx : Nat) (a_pl : Nat) (a_ga : Nat) (a_tr : Nat) (a_no : Nat) (a_pa : Nat) (a_ro : Nat) (a_mk : Nat) (a_x_acts : Nat) (a_pa_cells : Nat) (a_pa_keptCells : Nat) (a_pa_isKept : Nat) (pa_undoable : Int32) (pa_free : Int32) : va_W := [(a_x, .inr (9, [.ref a_tx, .ref a_pl, .ref a_ga, .ref a_tr, .ref a_no, .ref a_pa, .ref a_ro, .ref a_mk, .ref a_x_acts])), (a_pa, .inr (4, [.ref a_pa_cells, .ref a_pa_keptCells, .ref a_pa_isKept, .int pa_undoable, .int pa_free]))]
abbrev q_X9_holdIfDone (dC : Nat → ClassId) (dI : Nat → Nat → Nat) (cI cC cZ cB cJ : ClassId) (A : Nat → Prop) (a_x : Nat) (a_tx : Nat) (a_pl : Nat) (a_ga : Nat) (a_tr : Nat) (a_no : Nat) (a_pa : Nat) (a_ro : Nat) (a_mk : Nat) (a_x_acts : Nat) (a_pa_cells : Nat) (a_pa_keptCells : Nat) (a_pa_isKept : Nat) (post : Int32 → Int32 → Int32 → Prop) : Array Value → State → Outcome → State → Prop := va_Qi (fun (r : Int32) (u : Int32 × Int32) => post r u.1 u.2) (fun u t => gB (dC, dI) (tyl cI cC cZ cB cJ) A (wd_X9_holdIfDone cI cC cZ cB cJ a_x a_tx a_pl a_ga a_tr a_no a_pa a_ro a_mk a_x_acts a_pa_cells a_pa_keptCells a_pa_isKept u.1 u.2) t) A
abbrev rm_X9_holdIfDone : Room := { frames := 2, cells := 0, slots := 0, locals := 41 }
def wp_X9_holdIfDone (post : Int32 → Int32 → Int32 → Prop) (p0 : Int32) (pa_undoable : Int32) (pa_free : Int32) : Prop := (p0 < 0 → post p0 pa_undoable pa_free) ∧ (¬ p0 < 0 → wp_X4_hold (fun pa_undoable_1 pa_free_2 => post p0 pa_undoable_1 pa_free_2) pa_undoable pa_free)
set_option maxHeartbeats 4000000 in
set_option maxRecDepth 100000 in
theorem c_X9_holdIfDone (l : Launch) (dC : Nat → ClassId) (dI : Nat → Nat → Nat) (cI cC cZ cB cJ : ClassId) (a_x : Nat) (a_tx : Nat) (a_pl : Nat) (a_ga : Nat) (a_tr : Nat) (a_no : Nat) (a_pa : Nat) (a_ro : Nat) (a_mk : Nat) (a_x_acts : Nat) (a_pa_cells : Nat) (a_pa_keptCells : Nat) (a_pa_isKept : Nat) (sz : Nat) (p0 : Int32) (pa_undoable : Int32) (pa_free : Int32) (post : Int32 → Int32 → Int32 → Prop) (hw : wp_X9_holdIfDone post p0 pa_undoable pa_free) : Met l yX9_holdIfDone (gw yX9_holdIfDone cX9_holdIfDone 2 (some .int)) rm_X9_holdIfDone (va_Pc [.ref a_x, .int p0] (gPre (dC, dI) (tyl cI cC cZ cB cJ) (wd_X9_holdIfDone cI cC cZ cB cJ a_x a_tx a_pl a_ga a_tr a_no a_pa a_ro a_mk a_x_acts a_pa_cells a_pa_keptCells a_pa_isKept pa_undoable pa_free) sz)) (q_X9_holdIfDone dC dI cI cC cZ cB cJ (va_A (wd_X9_holdIfDone cI cC cZ cB cJ a_x a_tx a_pl a_ga a_tr a_no a_pa a_ro a_mk a_x_acts a_pa_cells a_pa_keptCells a_pa_isKept pa_undoable pa_free) sz) a_x a_tx a_pl a_ga a_tr a_no a_pa a_ro a_mk a_x_acts a_pa_cells a_pa_keptCells a_pa_isKept post) 0 0 (va_A (wd_X9_holdIfDone cI cC cZ cB cJ a_x a_tx a_pl a_ga a_tr a_no a_pa a_ro a_mk a_x_acts a_pa_cells a_pa_keptCells a_pa_isKept pa_undoable pa_free) sz) := by
  refine g_enter (own := RX9) (dC, dI) (tyl cI cC cZ cB cJ) (wd_X9_holdIfDone cI cC cZ cB cJ a_x a_tx a_pl a_ga a_tr a_no a_pa a_ro a_mk a_x_acts a_pa_cells a_pa_keptCells a_pa_isKept pa_undoable pa_free) sz [.ref a_x, .int p0] (fun A => q_X9_holdIfDone dC dI cI cC cZ cB cJ A a_x a_tx a_pl a_ga a_tr a_no a_pa a_ro a_mk a_x_acts a_pa_cells a_pa_keptCells a_pa_isKept post) (by decide) rfl (Nat.le_of_ble_eq_true rfl) ?_
  intro p e s m args below meth c A H locs ls C0 hP hD hS hl
  have hl : lv_has ls 2 [(0, .ref a_x), (1, .int p0)] := hl
  obtain ⟨hx, hb, hr, hml, hown, hts, hlocks, hA, hK, hN, tL, tM, hZL, hTL, hZM, hTM, hZX⟩ := id C0
  have hp := hw
  unfold wp_X9_holdIfDone at hp
  refine lv_iload_n hx hb eX9_holdIfDone_0.1 rfl (lv_at hl 1 rfl) ?_
  refine lv_if_lt (tgt := 11) hx hb eX9_holdIfDone_0.2.1 (by decide) (fun hc => ?_) (fun hc => ?_)
  · have hp := hp.1 hc
    refine lv_iload_n hx hb eX9_holdIfDone_0.2.2.2.2.2.1 rfl (lv_at hl 1 rfl) ?_
    exact W.iret (v := p0) hx hb hr (fun t ht hW => ⟨⟨p0, (pa_undoable, pa_free), rfl, hp, by rw [ht]; exact hP, va_K.moved hW.alike hK, hD⟩, hS.F ht⟩) hS.2.2 eX9_holdIfDone_0.2.2.2.2.2.2
  · have hp := hp.2 hc
    refine lv_aload_n hx hb eX9_holdIfDone_0.2.2.1 rfl (lv_at hl 0 rfl) ?_
    refine va_get (D := (dC, dI)) (ci := 9) (v := .ref a_pa) (C := RX9) (T := TX9) (N := 9) hx hb hts i_X9 hown hK hP 0 rfl rfl 5 (Nat.le_of_ble_eq_true rfl) (hts _ q_91) (fun _ h9 => h9) rfl eX9_holdIfDone_0.2.2.2.1 ?_
    refine g_callv (wc := (wd_X4_hold cI cC cZ cB cJ a_pa a_pa_cells a_pa_keptCells a_pa_isKept pa_undoable pa_free)) hP hD hS hA [1] [0] rfl rfl rfl rfl (g_runV (As := []) (rest := []) C0 hP hD hS [1] rfl rfl 1 4 rfl rfl (c_X4_hold l dC dI cI cC cZ cB cJ a_pa a_pa_cells a_pa_keptCells a_pa_isKept H.size pa_undoable pa_free _ hp) q_243 q_246 q_244 q_245 q_93 h_X4_hold rfl rfl ⟨Nat.le_of_ble_eq_true rfl, Nat.le_of_ble_eq_true rfl⟩ rfl rfl hl.1 rfl (lv_room (Nat.le_of_ble_eq_true rfl)) eX9_holdIfDone_0.2.2.2.2.1 ⟨Nat.zero_le _, Nat.zero_le _⟩) (fun u H locs hp hP hD hS => ?_)
    obtain ⟨pa_undoable_1, pa_free_2⟩ := u
    have hPD := PDs (ws' := (wd_X9_holdIfDone cI cC cZ cB cJ a_x a_tx a_pl a_ga a_tr a_no a_pa a_ro a_mk a_x_acts a_pa_cells a_pa_keptCells a_pa_isKept pa_undoable_1 pa_free_2)) hP hD [0, 1] (by decide) rfl
    have hP := hPD.1
    have hD := hPD.2
    refine lv_iload_n hx hb eX9_holdIfDone_0.2.2.2.2.2.1 rfl (lv_at hl 1 rfl) ?_
    exact W.iret (v := p0) hx hb hr (fun t ht hW => ⟨⟨p0, (pa_undoable_1, pa_free_2), rfl, hp, by rw [ht]; exact hP, va_K.moved hW.alike hK, hD⟩, hS.F ht⟩) hS.2.2 eX9_holdIfDone_0.2.2.2.2.2.2
abbrev wd_X9_move (cI cC cZ cB cJ : ClassId) (a_x : Nat) (a_tx : Nat) (a_pl : Nat) (a_ga : Nat) (a_tr : Nat) (a_no : Nat) (a_pa : Nat) (a_ro : Nat) (a_mk : Nat) (a_x_acts : Nat) (a_ru : Nat) (a_tr_x : Nat) (a_tr_height : Nat) (a_tr_worth : Nat) (a_tr_ripe : Nat) (a_tr_foot : Nat) (a_tr_fork : Nat) (a_tr_settings : Nat) (a_pa_cells : Nat) (a_pa_keptCells : Nat) (a_pa_isKept : Nat) (tr_fruits : Int32) (tr_standings : Int32) (tr_comingFruits : Int32) (tr_comingStandings : Int32) (tr_foot : Nat → Int32) (tr_fork : Nat → Int32) (tr_settings : Nat → Int32) (no_apron : Int32) (no_basket : Int32) (no_ground : Int32) (no_bruised : Int32) (no_ladder : Int32) (no_helper : Int32) (no_today : Int32) (no_clock : Int32) (pa_undoable : Int32) (pa_free : Int32) (pa_cells : Nat → Int32) : va_W := [(a_x, .inr (9, [.ref a_tx, .ref a_pl, .ref a_ga, .ref a_tr, .ref a_no, .ref a_pa, .ref a_ro, .ref a_mk, .ref a_x_acts])), (a_ga, .inr (0, [.ref a_tr, .ref a_no, .ref a_ru])), (a_tr, .inr (3, [.ref a_tr_x, .ref a_tr_height, .ref a_tr_worth, .ref a_tr_ripe, .ref a_tr_foot, .ref a_tr_fork, .ref a_tr_settings, .int tr_fruits, .int tr_standings, .int tr_comingFruits, .int tr_comingStandings])), (a_tr_foot, .inl (cI, 8, .inl tr_foot)), (a_tr_fork, .inl (cI, 8, .inl tr_fork)), (a_tr_settings, .inl (cI, 5, .inl tr_settings)), (a_no, .inr (2, [.int no_apron, .int no_basket, .int no_ground, .int no_bruised, .int no_ladder, .int no_helper, .int no_today, .int no_clock])), (a_pa, .inr (4, [.ref a_pa_cells, .ref a_pa_keptCells, .ref a_pa_isKept, .int pa_undoable, .int pa_free])), (a_pa_cells, .inl (cI, 104, .inl pa_cells))]
abbrev q_X9_move (dC : Nat → ClassId) (dI : Nat → Nat → Nat) (cI cC cZ cB cJ : ClassId) (A : Nat → Prop) (a_x : Nat) (a_tx : Nat) (a_pl : Nat) (a_ga : Nat) (a_tr : Nat) (a_no : Nat) (a_pa : Nat) (a_ro : Nat) (a_mk : Nat) (a_x_acts : Nat) (a_ru : Nat) (a_tr_x : Nat) (a_tr_height : Nat) (a_tr_worth : Nat) (a_tr_ripe : Nat) (a_tr_foot : Nat) (a_tr_fork : Nat) (a_tr_settings : Nat) (a_pa_cells : Nat) (a_pa_keptCells : Nat) (a_pa_isKept : Nat) (tr_fruits : Int32) (tr_standings : Int32) (tr_comingFruits : Int32) (tr_comingStandings : Int32) (tr_foot : Nat → Int32) (tr_fork : Nat → Int32) (tr_settings : Nat → Int32) (no_ground : Int32) (no_bruised : Int32) (no_helper : Int32) (no_today : Int32) (post : Int32 → Int32 → Int32 → Int32 → Int32 → Int32 → Int32 → (Nat → Int32) → Prop) : Array Value → State → Outcome → State → Prop := va_Qi (fun (r : Int32) (u : Int32 × Int32 × Int32 × Int32 × Int32 × Int32 × (Nat → Int32)) => post r u.1 u.2.1 u.2.2.1 u.2.2.2.1 u.2.2.2.2.1 u.2.2.2.2.2.1 u.2.2.2.2.2.2) (fun u t => gB (dC, dI) (tyl cI cC cZ cB cJ) A (wd_X9_move cI cC cZ cB cJ a_x a_tx a_pl a_ga a_tr a_no a_pa a_ro a_mk a_x_acts a_ru a_tr_x a_tr_height a_tr_worth a_tr_ripe a_tr_foot a_tr_fork a_tr_settings a_pa_cells a_pa_keptCells a_pa_isKept tr_fruits tr_standings tr_comingFruits tr_comingStandings tr_foot tr_fork tr_settings u.1 u.2.1 no_ground no_bruised u.2.2.1 no_helper no_today u.2.2.2.1 u.2.2.2.2.1 u.2.2.2.2.2.1 u.2.2.2.2.2.2) t) A
abbrev rm_X9_move : Room := { frames := 3, cells := 0, slots := 0, locals := 65 }
def wp_X9_move (post : Int32 → Int32 → Int32 → Int32 → Int32 → Int32 → Int32 → (Nat → Int32) → Prop) (p0 : Int32) (tr_standings : Int32) (tr_foot : Nat → Int32) (tr_fork : Nat → Int32) (tr_settings : Nat → Int32) (no_apron : Int32) (no_basket : Int32) (no_ground : Int32) (no_bruised : Int32) (no_ladder : Int32) (no_helper : Int32) (no_today : Int32) (no_clock : Int32) (pa_undoable : Int32) (pa_free : Int32) (pa_cells : Nat → Int32) : Prop := wp_X4_note (fun pa_cells_1 => wp_X0_setLadder (fun r_2 no_apron_3 no_basket_4 no_ladder_5 no_clock_6 => wp_X9_holdIfDone (fun r_7 pa_undoable_8 pa_free_9 => post r_7 no_apron_3 no_basket_4 no_ladder_5 no_clock_6 pa_undoable_8 pa_free_9 pa_cells_1) r_2 pa_undoable pa_free) p0 tr_standings tr_foot tr_fork tr_settings no_apron no_basket no_ladder no_clock) no_apron no_basket no_ground no_bruised no_ladder no_helper no_today no_clock pa_free pa_cells
set_option maxHeartbeats 4000000 in
set_option maxRecDepth 100000 in
theorem c_X9_move (l : Launch) (dC : Nat → ClassId) (dI : Nat → Nat → Nat) (cI cC cZ cB cJ : ClassId) (a_x : Nat) (a_tx : Nat) (a_pl : Nat) (a_ga : Nat) (a_tr : Nat) (a_no : Nat) (a_pa : Nat) (a_ro : Nat) (a_mk : Nat) (a_x_acts : Nat) (a_ru : Nat) (a_tr_x : Nat) (a_tr_height : Nat) (a_tr_worth : Nat) (a_tr_ripe : Nat) (a_tr_foot : Nat) (a_tr_fork : Nat) (a_tr_settings : Nat) (a_pa_cells : Nat) (a_pa_keptCells : Nat) (a_pa_isKept : Nat) (sz : Nat) (p0 : Int32) (tr_fruits : Int32) (tr_standings : Int32) (tr_comingFruits : Int32) (tr_comingStandings : Int32) (tr_foot : Nat → Int32) (tr_fork : Nat → Int32) (tr_settings : Nat → Int32) (no_apron : Int32) (no_basket : Int32) (no_ground : Int32) (no_bruised : Int32) (no_ladder : Int32) (no_helper : Int32) (no_today : Int32) (no_clock : Int32) (pa_undoable : Int32) (pa_free : Int32) (pa_cells : Nat → Int32) (post : Int32 → Int32 → Int32 → Int32 → Int32 → Int32 → Int32 → (Nat → Int32) → Prop) (hw : wp_X9_move post p0 tr_standings tr_foot tr_fork tr_settings no_apron no_basket no_ground no_bruised no_ladder no_helper no_today no_clock pa_undoable pa_free pa_cells) : Met l yX9_move (gw yX9_move cX9_move 2 (some .int)) rm_X9_move (va_Pc [.ref a_x, .int p0] (gPre (dC, dI) (tyl cI cC cZ cB cJ) (wd_X9_move cI cC cZ cB cJ a_x a_tx a_pl a_ga a_tr a_no a_pa a_ro a_mk a_x_acts a_ru a_tr_x a_tr_height a_tr_worth a_tr_ripe a_tr_foot a_tr_fork a_tr_settings a_pa_cells a_pa_keptCells a_pa_isKept tr_fruits tr_standings tr_comingFruits tr_comingStandings tr_foot tr_fork tr_settings no_apron no_basket no_ground no_bruised no_ladder no_helper no_today no_clock pa_undoable pa_free pa_cells) sz)) (q_X9_move dC dI cI cC cZ cB cJ (va_A (wd_X9_move cI cC cZ cB cJ a_x a_tx a_pl a_ga a_tr a_no a_pa a_ro a_mk a_x_acts a_ru a_tr_x a_tr_height a_tr_worth a_tr_ripe a_tr_foot a_tr_fork a_tr_settings a_pa_cells a_pa_keptCells a_pa_isKept tr_fruits tr_standings tr_comingFruits tr_comingStandings tr_foot tr_fork tr_settings no_apron no_basket no_ground no_bruised no_ladder no_helper no_today no_clock pa_undoable pa_free pa_cells) sz) a_x a_tx a_pl a_ga a_tr a_no a_pa a_ro a_mk a_x_acts a_ru a_tr_x a_tr_height a_tr_worth a_tr_ripe a_tr_foot a_tr_fork a_tr_settings a_pa_cells a_pa_keptCells a_pa_isKept tr_fruits tr_standings tr_comingFruits tr_comingStandings tr_foot tr_fork tr_settings no_ground no_bruised no_helper no_today post) 0 0 (va_A (wd_X9_move cI cC cZ cB cJ a_x a_tx a_pl a_ga a_tr a_no a_pa a_ro a_mk a_x_acts a_ru a_tr_x a_tr_height a_tr_worth a_tr_ripe a_tr_foot a_tr_fork a_tr_settings a_pa_cells a_pa_keptCells a_pa_isKept tr_fruits tr_standings tr_comingFruits tr_comingStandings tr_foot tr_fork tr_settings no_apron no_basket no_ground no_bruised no_ladder no_helper no_today no_clock pa_undoable pa_free pa_cells) sz) := by
  refine g_enter (own := RX9) (dC, dI) (tyl cI cC cZ cB cJ) (wd_X9_move cI cC cZ cB cJ a_x a_tx a_pl a_ga a_tr a_no a_pa a_ro a_mk a_x_acts a_ru a_tr_x a_tr_height a_tr_worth a_tr_ripe a_tr_foot a_tr_fork a_tr_settings a_pa_cells a_pa_keptCells a_pa_isKept tr_fruits tr_standings tr_comingFruits tr_comingStandings tr_foot tr_fork tr_settings no_apron no_basket no_ground no_bruised no_ladder no_helper no_today no_clock pa_undoable pa_free pa_cells) sz [.ref a_x, .int p0] (fun A => q_X9_move dC dI cI cC cZ cB cJ A a_x a_tx a_pl a_ga a_tr a_no a_pa a_ro a_mk a_x_acts a_ru a_tr_x a_tr_height a_tr_worth a_tr_ripe a_tr_foot a_tr_fork a_tr_settings a_pa_cells a_pa_keptCells a_pa_isKept tr_fruits tr_standings tr_comingFruits tr_comingStandings tr_foot tr_fork tr_settings no_ground no_bruised no_helper no_today post) (by decide) rfl (Nat.le_of_ble_eq_true rfl) ?_
  intro p e s m args below meth c A H locs ls C0 hP hD hS hl
  have hl : lv_has ls 2 [(0, .ref a_x), (1, .int p0)] := hl
  obtain ⟨hx, hb, hr, hml, hown, hts, hlocks, hA, hK, hN, tL, tM, hZL, hTL, hZM, hTM, hZX⟩ := id C0
  have hp := hw
  unfold wp_X9_move at hp
  refine lv_aload_n hx hb eX9_move_0.1 rfl (lv_at hl 0 rfl) ?_
  refine va_get (D := (dC, dI)) (ci := 9) (v := .ref a_pa) (C := RX9) (T := TX9) (N := 9) hx hb hts i_X9 hown hK hP 0 rfl rfl 5 (Nat.le_of_ble_eq_true rfl) (hts _ q_91) (fun _ h9 => h9) rfl eX9_move_0.2.1 ?_
  refine lv_aload_n hx hb eX9_move_0.2.2.1 rfl (lv_at hl 0 rfl) ?_
  refine va_get (D := (dC, dI)) (ci := 9) (v := .ref a_no) (C := RX9) (T := TX9) (N := 9) hx hb hts i_X9 hown hK hP 0 rfl rfl 4 (Nat.le_of_ble_eq_true rfl) (hts _ q_179) (fun _ h9 => h9) rfl eX9_move_0.2.2.2.1 ?_
  refine g_callv (wc := (wd_X4_note cI cC cZ cB cJ a_no a_pa a_pa_cells a_pa_keptCells a_pa_isKept no_apron no_basket no_ground no_bruised no_ladder no_helper no_today no_clock pa_undoable pa_free pa_cells)) hP hD hS hA [6, 7, 8] [0, 1, 2, 3, 4, 5] rfl rfl rfl rfl (g_runV (As := [.ref a_no]) (rest := []) C0 hP hD hS [6, 7, 8] rfl rfl 7 4 rfl rfl (c_X4_note l dC dI cI cC cZ cB cJ a_no a_pa a_pa_cells a_pa_keptCells a_pa_isKept H.size no_apron no_basket no_ground no_bruised no_ladder no_helper no_today no_clock pa_undoable pa_free pa_cells _ hp) q_247 q_250 q_248 q_249 q_93 h_X4_note rfl rfl ⟨Nat.le_of_ble_eq_true rfl, Nat.le_of_ble_eq_true rfl⟩ rfl rfl hl.1 rfl (lv_room (Nat.le_of_ble_eq_true rfl)) eX9_move_0.2.2.2.2.1 ⟨Nat.zero_le _, Nat.zero_le _⟩) (fun u H locs hp hP hD hS => ?_)
  obtain ⟨pa_cells_1, rfl⟩ : ∃ z, z = u := ⟨_, rfl⟩
  have hPD := PDs (ws' := (wd_X9_move cI cC cZ cB cJ a_x a_tx a_pl a_ga a_tr a_no a_pa a_ro a_mk a_x_acts a_ru a_tr_x a_tr_height a_tr_worth a_tr_ripe a_tr_foot a_tr_fork a_tr_settings a_pa_cells a_pa_keptCells a_pa_isKept tr_fruits tr_standings tr_comingFruits tr_comingStandings tr_foot tr_fork tr_settings no_apron no_basket no_ground no_bruised no_ladder no_helper no_today no_clock pa_undoable pa_free pa_cells_1)) hP hD [0, 1, 2, 3, 4, 5, 6, 7, 8] (by decide) rfl
  have hP := hPD.1
  have hD := hPD.2
  refine lv_aload_n hx hb eX9_move_0.2.2.2.2.2.1 rfl (lv_at hl 0 rfl) ?_
  refine lv_aload_n hx hb eX9_move_0.2.2.2.2.2.2.1 rfl (lv_at hl 0 rfl) ?_
  refine va_get (D := (dC, dI)) (ci := 9) (v := .ref a_ga) (C := RX9) (T := TX9) (N := 9) hx hb hts i_X9 hown hK hP 0 rfl rfl 2 (Nat.le_of_ble_eq_true rfl) (hts _ q_146) (fun _ h9 => h9) rfl eX9_move_0.2.2.2.2.2.2.2.1 ?_
  refine lv_iload_n hx hb eX9_move_0.2.2.2.2.2.2.2.2.1 rfl (lv_at hl 1 rfl) ?_
  refine g_calli (wc := (wd_X0_setLadder cI cC cZ cB cJ a_ga a_tr a_no a_ru a_tr_x a_tr_height a_tr_worth a_tr_ripe a_tr_foot a_tr_fork a_tr_settings tr_fruits tr_standings tr_comingFruits tr_comingStandings tr_foot tr_fork tr_settings no_apron no_basket no_ground no_bruised no_ladder no_helper no_today no_clock)) hP hD hS hA [1, 2, 3, 4, 5, 6] [0, 7, 8] rfl rfl rfl rfl (g_runV (As := [.int p0]) (rest := [.ref a_x]) C0 hP hD hS [1, 2, 3, 4, 5, 6] rfl rfl 1 0 rfl rfl (c_X0_setLadder l dC dI cI cC cZ cB cJ a_ga a_tr a_no a_ru a_tr_x a_tr_height a_tr_worth a_tr_ripe a_tr_foot a_tr_fork a_tr_settings H.size p0 tr_fruits tr_standings tr_comingFruits tr_comingStandings tr_foot tr_fork tr_settings no_apron no_basket no_ground no_bruised no_ladder no_helper no_today no_clock _ hp) q_251 q_254 q_252 q_253 q_187 h_X0_setLadder rfl rfl ⟨Nat.le_of_ble_eq_true rfl, Nat.le_of_ble_eq_true rfl⟩ rfl rfl hl.1 rfl (lv_room (Nat.le_of_ble_eq_true rfl)) eX9_move_0.2.2.2.2.2.2.2.2.2.1 ⟨Nat.zero_le _, Nat.zero_le _⟩) (fun r_2 u H locs hp hP hD hS => ?_)
  obtain ⟨no_apron_3, no_basket_4, no_ladder_5, no_clock_6⟩ := u
  have hPD := PDs (ws' := (wd_X9_move cI cC cZ cB cJ a_x a_tx a_pl a_ga a_tr a_no a_pa a_ro a_mk a_x_acts a_ru a_tr_x a_tr_height a_tr_worth a_tr_ripe a_tr_foot a_tr_fork a_tr_settings a_pa_cells a_pa_keptCells a_pa_isKept tr_fruits tr_standings tr_comingFruits tr_comingStandings tr_foot tr_fork tr_settings no_apron_3 no_basket_4 no_ground no_bruised no_ladder_5 no_helper no_today no_clock_6 pa_undoable pa_free pa_cells_1)) hP hD [0, 3, 4, 5, 6, 7, 8, 1, 2] (by decide) rfl
  have hP := hPD.1
  have hD := hPD.2
  refine g_calli (wc := (wd_X9_holdIfDone cI cC cZ cB cJ a_x a_tx a_pl a_ga a_tr a_no a_pa a_ro a_mk a_x_acts a_pa_cells a_pa_keptCells a_pa_isKept pa_undoable pa_free)) hP hD hS hA [0, 7] [1, 2, 3, 4, 5, 6, 8] rfl rfl rfl rfl (g_runV (As := [.int r_2]) (rest := []) C0 hP hD hS [0, 7] rfl rfl 0 9 rfl rfl (c_X9_holdIfDone l dC dI cI cC cZ cB cJ a_x a_tx a_pl a_ga a_tr a_no a_pa a_ro a_mk a_x_acts a_pa_cells a_pa_keptCells a_pa_isKept H.size r_2 pa_undoable pa_free _ hp) q_255 q_259 q_257 q_258 q_256 h_X9_holdIfDone rfl rfl ⟨Nat.le_of_ble_eq_true rfl, Nat.le_of_ble_eq_true rfl⟩ rfl rfl hl.1 rfl (lv_room (Nat.le_of_ble_eq_true rfl)) eX9_move_0.2.2.2.2.2.2.2.2.2.2.1 ⟨Nat.zero_le _, Nat.zero_le _⟩) (fun r_7 u H locs hp hP hD hS => ?_)
  obtain ⟨pa_undoable_8, pa_free_9⟩ := u
  have hPD := PDs (ws' := (wd_X9_move cI cC cZ cB cJ a_x a_tx a_pl a_ga a_tr a_no a_pa a_ro a_mk a_x_acts a_ru a_tr_x a_tr_height a_tr_worth a_tr_ripe a_tr_foot a_tr_fork a_tr_settings a_pa_cells a_pa_keptCells a_pa_isKept tr_fruits tr_standings tr_comingFruits tr_comingStandings tr_foot tr_fork tr_settings no_apron_3 no_basket_4 no_ground no_bruised no_ladder_5 no_helper no_today no_clock_6 pa_undoable_8 pa_free_9 pa_cells_1)) hP hD [7, 0, 1, 2, 3, 4, 5, 8, 6] (by decide) rfl
  have hP := hPD.1
  have hD := hPD.2
  exact W.iret (v := r_7) hx hb hr (fun t ht hW => ⟨⟨r_7, (no_apron_3, no_basket_4, no_ladder_5, no_clock_6, pa_undoable_8, pa_free_9, pa_cells_1), rfl, hp, by rw [ht]; exact hP, va_K.moved hW.alike hK, hD⟩, hS.F ht⟩) hS.2.2 eX9_move_0.2.2.2.2.2.2.2.2.2.2.2
