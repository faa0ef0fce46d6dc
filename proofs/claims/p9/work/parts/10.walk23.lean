abbrev wd_X2_write_b2 (cI cC cZ cB cJ : ClassId) (a_no : Nat) (a_pa_keptCells : Nat) (no_apron : Int32) (no_basket : Int32) (no_ground : Int32) (no_bruised : Int32) (no_ladder : Int32) (no_helper : Int32) (no_today : Int32) (no_clock : Int32) (pa_keptCells : Nat → Int32) : va_W := [(a_no, .inr (2, [.int no_apron, .int no_basket, .int no_ground, .int no_bruised, .int no_ladder, .int no_helper, .int no_today, .int no_clock])), (a_pa_keptCells, .inl (cI, 16, .inl pa_keptCells))]
abbrev q_X2_write_b2 (dC : Nat → ClassId) (dI : Nat → Nat → Nat) (cI cC cZ cB cJ : ClassId) (A : Nat → Prop) (a_no : Nat) (a_pa_keptCells : Nat) (no_apron : Int32) (no_basket : Int32) (no_ground : Int32) (no_bruised : Int32) (no_ladder : Int32) (no_helper : Int32) (no_today : Int32) (no_clock : Int32) (post : (Nat → Int32) → Prop) : Array Value → State → Outcome → State → Prop := va_Qv (fun (u : (Nat → Int32)) => post u) (fun u t => gB (dC, dI) (tyl cI cC cZ cB cJ) A (wd_X2_write_b2 cI cC cZ cB cJ a_no a_pa_keptCells no_apron no_basket no_ground no_bruised no_ladder no_helper no_today no_clock u) t) A
abbrev rm_X2_write_b2 : Room := { frames := 0, cells := 0, slots := 0, locals := 0 }
def wp_X2_write_b2 (post : (Nat → Int32) → Prop) (p1 : Int32) (no_apron : Int32) (no_basket : Int32) (no_ground : Int32) (no_bruised : Int32) (no_ladder : Int32) (no_helper : Int32) (no_today : Int32) (no_clock : Int32) (pa_keptCells : Nat → Int32) : Prop := (p1 < 0 → post pa_keptCells) ∧ (¬ p1 < 0 → (p1 ≤ (16 - 8) → vp_in p1 16 ∧ (∀ v_1 : Int32, v_1 = p1 + 1 → vp_in v_1 16 ∧ (∀ v_2 : Int32, v_2 = p1 + 2 → vp_in v_2 16 ∧ (∀ v_3 : Int32, v_3 = p1 + 3 → vp_in v_3 16 ∧ (∀ v_4 : Int32, v_4 = p1 + 4 → vp_in v_4 16 ∧ (∀ v_5 : Int32, v_5 = p1 + 5 → vp_in v_5 16 ∧ (∀ v_6 : Int32, v_6 = p1 + 6 → vp_in v_6 16 ∧ (∀ v_7 : Int32, v_7 = p1 + 7 → vp_in v_7 16 ∧ (post (upd (upd (upd (upd (upd (upd (upd (upd pa_keptCells p1.toNatClampNeg no_apron) v_1.toNatClampNeg no_basket) v_2.toNatClampNeg no_ground) v_3.toNatClampNeg no_bruised) v_4.toNatClampNeg no_ladder) v_5.toNatClampNeg no_helper) v_6.toNatClampNeg no_today) v_7.toNatClampNeg no_clock)))))))))) ∧ (¬ p1 ≤ (16 - 8) → post pa_keptCells))
set_option maxHeartbeats 4000000 in
set_option maxRecDepth 100000 in
theorem c_X2_write_b2 (l : Launch) (dC : Nat → ClassId) (dI : Nat → Nat → Nat) (cI cC cZ cB cJ : ClassId) (a_no : Nat) (a_pa_keptCells : Nat) (sz : Nat) (p1 : Int32) (no_apron : Int32) (no_basket : Int32) (no_ground : Int32) (no_bruised : Int32) (no_ladder : Int32) (no_helper : Int32) (no_today : Int32) (no_clock : Int32) (pa_keptCells : Nat → Int32) (post : (Nat → Int32) → Prop) (hw : wp_X2_write_b2 post p1 no_apron no_basket no_ground no_bruised no_ladder no_helper no_today no_clock pa_keptCells) : Met l yX2_write (gw yX2_write cX2_write 3 none) rm_X2_write_b2 (va_Pc [.ref a_no, .ref a_pa_keptCells, .int p1] (gPre (dC, dI) (tyl cI cC cZ cB cJ) (wd_X2_write_b2 cI cC cZ cB cJ a_no a_pa_keptCells no_apron no_basket no_ground no_bruised no_ladder no_helper no_today no_clock pa_keptCells) sz)) (q_X2_write_b2 dC dI cI cC cZ cB cJ (va_A (wd_X2_write_b2 cI cC cZ cB cJ a_no a_pa_keptCells no_apron no_basket no_ground no_bruised no_ladder no_helper no_today no_clock pa_keptCells) sz) a_no a_pa_keptCells no_apron no_basket no_ground no_bruised no_ladder no_helper no_today no_clock post) 0 0 (va_A (wd_X2_write_b2 cI cC cZ cB cJ a_no a_pa_keptCells no_apron no_basket no_ground no_bruised no_ladder no_helper no_today no_clock pa_keptCells) sz) := by
  refine g_enter (own := RX2) (dC, dI) (tyl cI cC cZ cB cJ) (wd_X2_write_b2 cI cC cZ cB cJ a_no a_pa_keptCells no_apron no_basket no_ground no_bruised no_ladder no_helper no_today no_clock pa_keptCells) sz [.ref a_no, .ref a_pa_keptCells, .int p1] (fun A => q_X2_write_b2 dC dI cI cC cZ cB cJ A a_no a_pa_keptCells no_apron no_basket no_ground no_bruised no_ladder no_helper no_today no_clock post) (by decide) rfl (Nat.le_of_ble_eq_true rfl) ?_
  intro p e s m args below meth c A H locs ls C0 hP hD hS hl
  have hl : lv_has ls 3 [(0, .ref a_no), (1, .ref a_pa_keptCells), (2, .int p1)] := hl
  obtain ⟨hx, hb, hr, hml, hown, hts, hlocks, hA, hK, hN, tL, tM, hZL, hTL, hZM, hTM, hZX⟩ := id C0
  have hp := hw
  unfold wp_X2_write_b2 at hp
  refine lv_iload_n hx hb eX2_write_0.1 rfl (lv_at hl 2 rfl) ?_
  refine lv_if_lt (tgt := 13) hx hb eX2_write_0.2.1 (by decide) (fun hc => ?_) (fun hc => ?_)
  · have hp := hp.1 hc
    exact W.vret hx hb hr (fun t ht hW => ⟨⟨pa_keptCells, rfl, hp, by rw [ht]; exact hP, va_K.moved hW.alike hK, hD⟩, hS.F ht⟩) hS.2.2 eX2_write_0.2.2.2.2.2.2.2.2.1
  · have hp := hp.2 hc
    refine lv_iload_n hx hb eX2_write_0.2.2.1 rfl (lv_at hl 2 rfl) ?_
    refine lv_aload_n hx hb eX2_write_0.2.2.2.1 rfl (lv_at hl 1 rfl) ?_
    refine va_alen (v := 16) hx hb hK hP 1 0 rfl rfl rfl eX2_write_0.2.2.2.2.1 ?_
    refine lv_bipush (v := 8) hx hb eX2_write_0.2.2.2.2.2.1 (by decide) ?_
    refine lv_isub hx hb eX2_write_0.2.2.2.2.2.2.1 ?_
    refine lv_icmp_le (tgt := 14) hx hb eX2_write_0.2.2.2.2.2.2.2.1 (by decide) (fun hc => ?_) (fun hc => ?_)
    · have hp := hp.1 hc
      refine lv_aload_n hx hb eX2_write_0.2.2.2.2.2.2.2.2.2.1 rfl (lv_at hl 1 rfl) ?_
      refine lv_iload_n hx hb eX2_write_0.2.2.2.2.2.2.2.2.2.2.1 rfl (lv_at hl 2 rfl) ?_
      refine lv_aload_n hx hb eX2_write_0.2.2.2.2.2.2.2.2.2.2.2.1 rfl (lv_at hl 0 rfl) ?_
      refine va_get (D := (dC, dI)) (ci := 2) (v := .int no_apron) (C := RX2) (T := TX2) (N := 8) hx hb hts i_X2 hown hK hP 0 rfl rfl 0 (Nat.le_of_ble_eq_true rfl) (hts _ q_168) (fun _ h9 => h9) rfl eX2_write_0.2.2.2.2.2.2.2.2.2.2.2.2.1 ?_
      have hin := hp.1
      have hp := hp.2
      refine va_iast hx hb hK hP hD hS 1 0 rfl rfl hin eX2_write_0.2.2.2.2.2.2.2.2.2.2.2.2.2.1 (fun H locs hP hD hS => ?_)
      have hP : va_P (dC, dI) classes (wd_X2_write_b2 cI cC cZ cB cJ a_no a_pa_keptCells no_apron no_basket no_ground no_bruised no_ladder no_helper no_today no_clock (upd pa_keptCells p1.toNatClampNeg no_apron)) H := hP
      have hD : va_D A (wd_X2_write_b2 cI cC cZ cB cJ a_no a_pa_keptCells no_apron no_basket no_ground no_bruised no_ladder no_helper no_today no_clock (upd pa_keptCells p1.toNatClampNeg no_apron)) := hD
      refine lv_aload_n hx hb eX2_write_0.2.2.2.2.2.2.2.2.2.2.2.2.2.2.1 rfl (lv_at hl 1 rfl) ?_
      refine lv_iload_n hx hb eX2_write_0.2.2.2.2.2.2.2.2.2.2.2.2.2.2.2 rfl (lv_at hl 2 rfl) ?_
      refine lv_iconst (v := 1) hx hb eX2_write_23.1 (by decide) ?_
      refine lv_iadd hx hb eX2_write_23.2.1 ?_
      refine lv_topi (fun v_1 ev_1 => ?_)
      have hp := hp v_1 ev_1
      refine lv_aload_n hx hb eX2_write_23.2.2.1 rfl (lv_at hl 0 rfl) ?_
      refine va_get (D := (dC, dI)) (ci := 2) (v := .int no_basket) (C := RX2) (T := TX2) (N := 8) hx hb hts i_X2 hown hK hP 0 rfl rfl 1 (Nat.le_of_ble_eq_true rfl) (hts _ q_169) (fun _ h9 => h9) rfl eX2_write_23.2.2.2.1 ?_
      have hin := hp.1
      have hp := hp.2
      refine va_iast hx hb hK hP hD hS 1 0 rfl rfl hin eX2_write_23.2.2.2.2.1 (fun H locs hP hD hS => ?_)
      have hP : va_P (dC, dI) classes (wd_X2_write_b2 cI cC cZ cB cJ a_no a_pa_keptCells no_apron no_basket no_ground no_bruised no_ladder no_helper no_today no_clock (upd (upd pa_keptCells p1.toNatClampNeg no_apron) v_1.toNatClampNeg no_basket)) H := hP
      have hD : va_D A (wd_X2_write_b2 cI cC cZ cB cJ a_no a_pa_keptCells no_apron no_basket no_ground no_bruised no_ladder no_helper no_today no_clock (upd (upd pa_keptCells p1.toNatClampNeg no_apron) v_1.toNatClampNeg no_basket)) := hD
      refine lv_aload_n hx hb eX2_write_23.2.2.2.2.2.1 rfl (lv_at hl 1 rfl) ?_
      refine lv_iload_n hx hb eX2_write_23.2.2.2.2.2.2.1 rfl (lv_at hl 2 rfl) ?_
      refine lv_iconst (v := 2) hx hb eX2_write_23.2.2.2.2.2.2.2.1 (by decide) ?_
      refine lv_iadd hx hb eX2_write_23.2.2.2.2.2.2.2.2.1 ?_
      refine lv_topi (fun v_2 ev_2 => ?_)
      have hp := hp v_2 ev_2
      refine lv_aload_n hx hb eX2_write_23.2.2.2.2.2.2.2.2.2.1 rfl (lv_at hl 0 rfl) ?_
      refine va_get (D := (dC, dI)) (ci := 2) (v := .int no_ground) (C := RX2) (T := TX2) (N := 8) hx hb hts i_X2 hown hK hP 0 rfl rfl 2 (Nat.le_of_ble_eq_true rfl) (hts _ q_170) (fun _ h9 => h9) rfl eX2_write_23.2.2.2.2.2.2.2.2.2.2.1 ?_
      have hin := hp.1
      have hp := hp.2
      refine va_iast hx hb hK hP hD hS 1 0 rfl rfl hin eX2_write_23.2.2.2.2.2.2.2.2.2.2.2.1 (fun H locs hP hD hS => ?_)
      have hP : va_P (dC, dI) classes (wd_X2_write_b2 cI cC cZ cB cJ a_no a_pa_keptCells no_apron no_basket no_ground no_bruised no_ladder no_helper no_today no_clock (upd (upd (upd pa_keptCells p1.toNatClampNeg no_apron) v_1.toNatClampNeg no_basket) v_2.toNatClampNeg no_ground)) H := hP
      have hD : va_D A (wd_X2_write_b2 cI cC cZ cB cJ a_no a_pa_keptCells no_apron no_basket no_ground no_bruised no_ladder no_helper no_today no_clock (upd (upd (upd pa_keptCells p1.toNatClampNeg no_apron) v_1.toNatClampNeg no_basket) v_2.toNatClampNeg no_ground)) := hD
      refine lv_aload_n hx hb eX2_write_23.2.2.2.2.2.2.2.2.2.2.2.2.1 rfl (lv_at hl 1 rfl) ?_
      refine lv_iload_n hx hb eX2_write_23.2.2.2.2.2.2.2.2.2.2.2.2.2.1 rfl (lv_at hl 2 rfl) ?_
      refine lv_iconst (v := 3) hx hb eX2_write_23.2.2.2.2.2.2.2.2.2.2.2.2.2.2.1 (by decide) ?_
      refine lv_iadd hx hb eX2_write_23.2.2.2.2.2.2.2.2.2.2.2.2.2.2.2 ?_
      refine lv_topi (fun v_3 ev_3 => ?_)
      have hp := hp v_3 ev_3
      refine lv_aload_n hx hb eX2_write_43.1 rfl (lv_at hl 0 rfl) ?_
      refine va_get (D := (dC, dI)) (ci := 2) (v := .int no_bruised) (C := RX2) (T := TX2) (N := 8) hx hb hts i_X2 hown hK hP 0 rfl rfl 3 (Nat.le_of_ble_eq_true rfl) (hts _ q_214) (fun _ h9 => h9) rfl eX2_write_43.2.1 ?_
      have hin := hp.1
      have hp := hp.2
      refine va_iast hx hb hK hP hD hS 1 0 rfl rfl hin eX2_write_43.2.2.1 (fun H locs hP hD hS => ?_)
      have hP : va_P (dC, dI) classes (wd_X2_write_b2 cI cC cZ cB cJ a_no a_pa_keptCells no_apron no_basket no_ground no_bruised no_ladder no_helper no_today no_clock (upd (upd (upd (upd pa_keptCells p1.toNatClampNeg no_apron) v_1.toNatClampNeg no_basket) v_2.toNatClampNeg no_ground) v_3.toNatClampNeg no_bruised)) H := hP
      have hD : va_D A (wd_X2_write_b2 cI cC cZ cB cJ a_no a_pa_keptCells no_apron no_basket no_ground no_bruised no_ladder no_helper no_today no_clock (upd (upd (upd (upd pa_keptCells p1.toNatClampNeg no_apron) v_1.toNatClampNeg no_basket) v_2.toNatClampNeg no_ground) v_3.toNatClampNeg no_bruised)) := hD
      refine lv_aload_n hx hb eX2_write_43.2.2.2.1 rfl (lv_at hl 1 rfl) ?_
      refine lv_iload_n hx hb eX2_write_43.2.2.2.2.1 rfl (lv_at hl 2 rfl) ?_
      refine lv_iconst (v := 4) hx hb eX2_write_43.2.2.2.2.2.1 (by decide) ?_
      refine lv_iadd hx hb eX2_write_43.2.2.2.2.2.2.1 ?_
      refine lv_topi (fun v_4 ev_4 => ?_)
      have hp := hp v_4 ev_4
      refine lv_aload_n hx hb eX2_write_43.2.2.2.2.2.2.2.1 rfl (lv_at hl 0 rfl) ?_
      refine va_get (D := (dC, dI)) (ci := 2) (v := .int no_ladder) (C := RX2) (T := TX2) (N := 8) hx hb hts i_X2 hown hK hP 0 rfl rfl 4 (Nat.le_of_ble_eq_true rfl) (hts _ q_215) (fun _ h9 => h9) rfl eX2_write_43.2.2.2.2.2.2.2.2.1 ?_
      have hin := hp.1
      have hp := hp.2
      refine va_iast hx hb hK hP hD hS 1 0 rfl rfl hin eX2_write_43.2.2.2.2.2.2.2.2.2.1 (fun H locs hP hD hS => ?_)
      have hP : va_P (dC, dI) classes (wd_X2_write_b2 cI cC cZ cB cJ a_no a_pa_keptCells no_apron no_basket no_ground no_bruised no_ladder no_helper no_today no_clock (upd (upd (upd (upd (upd pa_keptCells p1.toNatClampNeg no_apron) v_1.toNatClampNeg no_basket) v_2.toNatClampNeg no_ground) v_3.toNatClampNeg no_bruised) v_4.toNatClampNeg no_ladder)) H := hP
      have hD : va_D A (wd_X2_write_b2 cI cC cZ cB cJ a_no a_pa_keptCells no_apron no_basket no_ground no_bruised no_ladder no_helper no_today no_clock (upd (upd (upd (upd (upd pa_keptCells p1.toNatClampNeg no_apron) v_1.toNatClampNeg no_basket) v_2.toNatClampNeg no_ground) v_3.toNatClampNeg no_bruised) v_4.toNatClampNeg no_ladder)) := hD
      refine lv_aload_n hx hb eX2_write_43.2.2.2.2.2.2.2.2.2.2.1 rfl (lv_at hl 1 rfl) ?_
      refine lv_iload_n hx hb eX2_write_43.2.2.2.2.2.2.2.2.2.2.2.1 rfl (lv_at hl 2 rfl) ?_
      refine lv_iconst (v := 5) hx hb eX2_write_43.2.2.2.2.2.2.2.2.2.2.2.2.1 (by decide) ?_
      refine lv_iadd hx hb eX2_write_43.2.2.2.2.2.2.2.2.2.2.2.2.2.1 ?_
      refine lv_topi (fun v_5 ev_5 => ?_)
      have hp := hp v_5 ev_5
      refine lv_aload_n hx hb eX2_write_43.2.2.2.2.2.2.2.2.2.2.2.2.2.2.1 rfl (lv_at hl 0 rfl) ?_
      refine va_get (D := (dC, dI)) (ci := 2) (v := .int no_helper) (C := RX2) (T := TX2) (N := 8) hx hb hts i_X2 hown hK hP 0 rfl rfl 5 (Nat.le_of_ble_eq_true rfl) (hts _ q_216) (fun _ h9 => h9) rfl eX2_write_43.2.2.2.2.2.2.2.2.2.2.2.2.2.2.2 ?_
      have hin := hp.1
      have hp := hp.2
      refine va_iast hx hb hK hP hD hS 1 0 rfl rfl hin eX2_write_65.1 (fun H locs hP hD hS => ?_)
      have hP : va_P (dC, dI) classes (wd_X2_write_b2 cI cC cZ cB cJ a_no a_pa_keptCells no_apron no_basket no_ground no_bruised no_ladder no_helper no_today no_clock (upd (upd (upd (upd (upd (upd pa_keptCells p1.toNatClampNeg no_apron) v_1.toNatClampNeg no_basket) v_2.toNatClampNeg no_ground) v_3.toNatClampNeg no_bruised) v_4.toNatClampNeg no_ladder) v_5.toNatClampNeg no_helper)) H := hP
      have hD : va_D A (wd_X2_write_b2 cI cC cZ cB cJ a_no a_pa_keptCells no_apron no_basket no_ground no_bruised no_ladder no_helper no_today no_clock (upd (upd (upd (upd (upd (upd pa_keptCells p1.toNatClampNeg no_apron) v_1.toNatClampNeg no_basket) v_2.toNatClampNeg no_ground) v_3.toNatClampNeg no_bruised) v_4.toNatClampNeg no_ladder) v_5.toNatClampNeg no_helper)) := hD
      refine lv_aload_n hx hb eX2_write_65.2.1 rfl (lv_at hl 1 rfl) ?_
      refine lv_iload_n hx hb eX2_write_65.2.2.1 rfl (lv_at hl 2 rfl) ?_
      refine lv_bipush (v := 6) hx hb eX2_write_65.2.2.2.1 (by decide) ?_
      refine lv_iadd hx hb eX2_write_65.2.2.2.2.1 ?_
      refine lv_topi (fun v_6 ev_6 => ?_)
      have hp := hp v_6 ev_6
      refine lv_aload_n hx hb eX2_write_65.2.2.2.2.2.1 rfl (lv_at hl 0 rfl) ?_
      refine va_get (D := (dC, dI)) (ci := 2) (v := .int no_today) (C := RX2) (T := TX2) (N := 8) hx hb hts i_X2 hown hK hP 0 rfl rfl 6 (Nat.le_of_ble_eq_true rfl) (hts _ q_217) (fun _ h9 => h9) rfl eX2_write_65.2.2.2.2.2.2.1 ?_
      have hin := hp.1
      have hp := hp.2
      refine va_iast hx hb hK hP hD hS 1 0 rfl rfl hin eX2_write_65.2.2.2.2.2.2.2.1 (fun H locs hP hD hS => ?_)
      have hP : va_P (dC, dI) classes (wd_X2_write_b2 cI cC cZ cB cJ a_no a_pa_keptCells no_apron no_basket no_ground no_bruised no_ladder no_helper no_today no_clock (upd (upd (upd (upd (upd (upd (upd pa_keptCells p1.toNatClampNeg no_apron) v_1.toNatClampNeg no_basket) v_2.toNatClampNeg no_ground) v_3.toNatClampNeg no_bruised) v_4.toNatClampNeg no_ladder) v_5.toNatClampNeg no_helper) v_6.toNatClampNeg no_today)) H := hP
      have hD : va_D A (wd_X2_write_b2 cI cC cZ cB cJ a_no a_pa_keptCells no_apron no_basket no_ground no_bruised no_ladder no_helper no_today no_clock (upd (upd (upd (upd (upd (upd (upd pa_keptCells p1.toNatClampNeg no_apron) v_1.toNatClampNeg no_basket) v_2.toNatClampNeg no_ground) v_3.toNatClampNeg no_bruised) v_4.toNatClampNeg no_ladder) v_5.toNatClampNeg no_helper) v_6.toNatClampNeg no_today)) := hD
      refine lv_aload_n hx hb eX2_write_65.2.2.2.2.2.2.2.2.1 rfl (lv_at hl 1 rfl) ?_
      refine lv_iload_n hx hb eX2_write_65.2.2.2.2.2.2.2.2.2.1 rfl (lv_at hl 2 rfl) ?_
      refine lv_bipush (v := 7) hx hb eX2_write_65.2.2.2.2.2.2.2.2.2.2.1 (by decide) ?_
      refine lv_iadd hx hb eX2_write_65.2.2.2.2.2.2.2.2.2.2.2.1 ?_
      refine lv_topi (fun v_7 ev_7 => ?_)
      have hp := hp v_7 ev_7
      refine lv_aload_n hx hb eX2_write_65.2.2.2.2.2.2.2.2.2.2.2.2.1 rfl (lv_at hl 0 rfl) ?_
      refine va_get (D := (dC, dI)) (ci := 2) (v := .int no_clock) (C := RX2) (T := TX2) (N := 8) hx hb hts i_X2 hown hK hP 0 rfl rfl 7 (Nat.le_of_ble_eq_true rfl) (hts _ q_218) (fun _ h9 => h9) rfl eX2_write_65.2.2.2.2.2.2.2.2.2.2.2.2.2.1 ?_
      have hin := hp.1
      have hp := hp.2
      refine va_iast hx hb hK hP hD hS 1 0 rfl rfl hin eX2_write_65.2.2.2.2.2.2.2.2.2.2.2.2.2.2.1 (fun H locs hP hD hS => ?_)
      have hP : va_P (dC, dI) classes (wd_X2_write_b2 cI cC cZ cB cJ a_no a_pa_keptCells no_apron no_basket no_ground no_bruised no_ladder no_helper no_today no_clock (upd (upd (upd (upd (upd (upd (upd (upd pa_keptCells p1.toNatClampNeg no_apron) v_1.toNatClampNeg no_basket) v_2.toNatClampNeg no_ground) v_3.toNatClampNeg no_bruised) v_4.toNatClampNeg no_ladder) v_5.toNatClampNeg no_helper) v_6.toNatClampNeg no_today) v_7.toNatClampNeg no_clock)) H := hP
      have hD : va_D A (wd_X2_write_b2 cI cC cZ cB cJ a_no a_pa_keptCells no_apron no_basket no_ground no_bruised no_ladder no_helper no_today no_clock (upd (upd (upd (upd (upd (upd (upd (upd pa_keptCells p1.toNatClampNeg no_apron) v_1.toNatClampNeg no_basket) v_2.toNatClampNeg no_ground) v_3.toNatClampNeg no_bruised) v_4.toNatClampNeg no_ladder) v_5.toNatClampNeg no_helper) v_6.toNatClampNeg no_today) v_7.toNatClampNeg no_clock)) := hD
      exact W.vret hx hb hr (fun t ht hW => ⟨⟨(upd (upd (upd (upd (upd (upd (upd (upd pa_keptCells p1.toNatClampNeg no_apron) v_1.toNatClampNeg no_basket) v_2.toNatClampNeg no_ground) v_3.toNatClampNeg no_bruised) v_4.toNatClampNeg no_ladder) v_5.toNatClampNeg no_helper) v_6.toNatClampNeg no_today) v_7.toNatClampNeg no_clock), rfl, hp, by rw [ht]; exact hP, va_K.moved hW.alike hK, hD⟩, hS.F ht⟩) hS.2.2 eX2_write_65.2.2.2.2.2.2.2.2.2.2.2.2.2.2.2
    · have hp := hp.2 hc
      exact W.vret hx hb hr (fun t ht hW => ⟨⟨pa_keptCells, rfl, hp, by rw [ht]; exact hP, va_K.moved hW.alike hK, hD⟩, hS.F ht⟩) hS.2.2 eX2_write_0.2.2.2.2.2.2.2.2.1
abbrev wd_X4_store (cI cC cZ cB cJ : ClassId) (a_no : Nat) (a_pa : Nat) (a_pa_cells : Nat) (a_pa_keptCells : Nat) (a_pa_isKept : Nat) (no_apron : Int32) (no_basket : Int32) (no_ground : Int32) (no_bruised : Int32) (no_ladder : Int32) (no_helper : Int32) (no_today : Int32) (no_clock : Int32) (pa_undoable : Int32) (pa_free : Int32) (pa_keptCells : Nat → Int32) (pa_isKept : Nat → Int32) : va_W := [(a_no, .inr (2, [.int no_apron, .int no_basket, .int no_ground, .int no_bruised, .int no_ladder, .int no_helper, .int no_today, .int no_clock])), (a_pa, .inr (4, [.ref a_pa_cells, .ref a_pa_keptCells, .ref a_pa_isKept, .int pa_undoable, .int pa_free])), (a_pa_keptCells, .inl (cI, 16, .inl pa_keptCells)), (a_pa_isKept, .inl (cZ, 2, .inl pa_isKept))]
abbrev q_X4_store (dC : Nat → ClassId) (dI : Nat → Nat → Nat) (cI cC cZ cB cJ : ClassId) (A : Nat → Prop) (a_no : Nat) (a_pa : Nat) (a_pa_cells : Nat) (a_pa_keptCells : Nat) (a_pa_isKept : Nat) (no_apron : Int32) (no_basket : Int32) (no_ground : Int32) (no_bruised : Int32) (no_ladder : Int32) (no_helper : Int32) (no_today : Int32) (no_clock : Int32) (pa_undoable : Int32) (pa_free : Int32) (post : Int32 → (Nat → Int32) → (Nat → Int32) → Prop) : Array Value → State → Outcome → State → Prop := va_Qi (fun (r : Int32) (u : (Nat → Int32) × (Nat → Int32)) => post r u.1 u.2) (fun u t => gB (dC, dI) (tyl cI cC cZ cB cJ) A (wd_X4_store cI cC cZ cB cJ a_no a_pa a_pa_cells a_pa_keptCells a_pa_isKept no_apron no_basket no_ground no_bruised no_ladder no_helper no_today no_clock pa_undoable pa_free u.1 u.2) t) A
abbrev rm_X4_store : Room := { frames := 1, cells := 0, slots := 0, locals := 22 }
def wp_X4_store (post : Int32 → (Nat → Int32) → (Nat → Int32) → Prop) (p0 : Int32) (no_apron : Int32) (no_basket : Int32) (no_ground : Int32) (no_bruised : Int32) (no_ladder : Int32) (no_helper : Int32) (no_today : Int32) (no_clock : Int32) (pa_keptCells : Nat → Int32) (pa_isKept : Nat → Int32) : Prop := (p0 < 0 → post 0 pa_keptCells pa_isKept) ∧ (¬ p0 < 0 → (p0 < 2 → ∀ v_1 : Int32, v_1 = p0 * 8 → wp_X2_write_b2 (fun pa_keptCells_2 => vp_in p0 2 ∧ (post 1 pa_keptCells_2 (upd pa_isKept p0.toNatClampNeg (vp_nar .boolean 1)))) v_1 no_apron no_basket no_ground no_bruised no_ladder no_helper no_today no_clock pa_keptCells) ∧ (¬ p0 < 2 → post 0 pa_keptCells pa_isKept))
set_option maxHeartbeats 4000000 in
set_option maxRecDepth 100000 in
theorem c_X4_store (l : Launch) (dC : Nat → ClassId) (dI : Nat → Nat → Nat) (cI cC cZ cB cJ : ClassId) (a_no : Nat) (a_pa : Nat) (a_pa_cells : Nat) (a_pa_keptCells : Nat) (a_pa_isKept : Nat) (sz : Nat) (p0 : Int32) (no_apron : Int32) (no_basket : Int32) (no_ground : Int32) (no_bruised : Int32) (no_ladder : Int32) (no_helper : Int32) (no_today : Int32) (no_clock : Int32) (pa_undoable : Int32) (pa_free : Int32) (pa_keptCells : Nat → Int32) (pa_isKept : Nat → Int32) (post : Int32 → (Nat → Int32) → (Nat → Int32) → Prop) (hw : wp_X4_store post p0 no_apron no_basket no_ground no_bruised no_ladder no_helper no_today no_clock pa_keptCells pa_isKept) : Met l yX4_store (gw yX4_store cX4_store 3 (some .boolean)) rm_X4_store (va_Pc [.ref a_pa, .int p0, .ref a_no] (gPre (dC, dI) (tyl cI cC cZ cB cJ) (wd_X4_store cI cC cZ cB cJ a_no a_pa a_pa_cells a_pa_keptCells a_pa_isKept no_apron no_basket no_ground no_bruised no_ladder no_helper no_today no_clock pa_undoable pa_free pa_keptCells pa_isKept) sz)) (q_X4_store dC dI cI cC cZ cB cJ (va_A (wd_X4_store cI cC cZ cB cJ a_no a_pa a_pa_cells a_pa_keptCells a_pa_isKept no_apron no_basket no_ground no_bruised no_ladder no_helper no_today no_clock pa_undoable pa_free pa_keptCells pa_isKept) sz) a_no a_pa a_pa_cells a_pa_keptCells a_pa_isKept no_apron no_basket no_ground no_bruised no_ladder no_helper no_today no_clock pa_undoable pa_free post) 0 0 (va_A (wd_X4_store cI cC cZ cB cJ a_no a_pa a_pa_cells a_pa_keptCells a_pa_isKept no_apron no_basket no_ground no_bruised no_ladder no_helper no_today no_clock pa_undoable pa_free pa_keptCells pa_isKept) sz) := by
  refine g_enter (own := RX4) (dC, dI) (tyl cI cC cZ cB cJ) (wd_X4_store cI cC cZ cB cJ a_no a_pa a_pa_cells a_pa_keptCells a_pa_isKept no_apron no_basket no_ground no_bruised no_ladder no_helper no_today no_clock pa_undoable pa_free pa_keptCells pa_isKept) sz [.ref a_pa, .int p0, .ref a_no] (fun A => q_X4_store dC dI cI cC cZ cB cJ A a_no a_pa a_pa_cells a_pa_keptCells a_pa_isKept no_apron no_basket no_ground no_bruised no_ladder no_helper no_today no_clock pa_undoable pa_free post) (by decide) rfl (Nat.le_of_ble_eq_true rfl) ?_
  intro p e s m args below meth c A H locs ls C0 hP hD hS hl
  have hl : lv_has ls 3 [(0, .ref a_pa), (1, .int p0), (2, .ref a_no)] := hl
  obtain ⟨hx, hb, hr, hml, hown, hts, hlocks, hA, hK, hN, tL, tM, hZL, hTL, hZM, hTM, hZX⟩ := id C0
  have hp := hw
  unfold wp_X4_store at hp
  refine lv_iload_n hx hb eX4_store_0.1 rfl (lv_at hl 1 rfl) ?_
  refine lv_if_lt (tgt := 9) hx hb eX4_store_0.2.1 (by decide) (fun hc => ?_) (fun hc => ?_)
  · have hp := hp.1 hc
    refine lv_iconst (v := 0) hx hb eX4_store_5.2.2.1 (by decide) ?_
    exact W.zret (v := 0) hx hb hr rfl (fun t ht hW => ⟨⟨0, (pa_keptCells, pa_isKept), rfl, hp, by rw [ht]; exact hP, va_K.moved hW.alike hK, hD⟩, hS.F ht⟩) hS.2.2 eX4_store_5.2.2.2.1
  · have hp := hp.2 hc
    refine lv_iload_n hx hb eX4_store_0.2.2 rfl (lv_at hl 1 rfl) ?_
    refine lv_iconst (v := 2) hx hb eX4_store_5.1 (by decide) ?_
    refine lv_icmp_lt (tgt := 11) hx hb eX4_store_5.2.1 (by decide) (fun hc => ?_) (fun hc => ?_)
    · have hp := hp.1 hc
      refine lv_aload_n hx hb eX4_store_5.2.2.2.2.1 rfl (lv_at hl 2 rfl) ?_
      refine lv_aload_n hx hb eX4_store_5.2.2.2.2.2.1 rfl (lv_at hl 0 rfl) ?_
      refine va_get (D := (dC, dI)) (ci := 4) (v := .ref a_pa_keptCells) (C := RX4) (T := TX4) (N := 5) hx hb hts i_X4 hown hK hP 1 rfl rfl 1 (Nat.le_of_ble_eq_true rfl) (hts _ q_625) (fun _ h9 => h9) rfl eX4_store_5.2.2.2.2.2.2.1 ?_
      refine lv_iload_n hx hb eX4_store_5.2.2.2.2.2.2.2.1 rfl (lv_at hl 1 rfl) ?_
      refine lv_bipush (v := 8) hx hb eX4_store_5.2.2.2.2.2.2.2.2.1 (by decide) ?_
      refine lv_imul hx hb eX4_store_5.2.2.2.2.2.2.2.2.2.1 ?_
      refine lv_topi (fun v_1 ev_1 => ?_)
      have hp := hp v_1 ev_1
      refine g_callv (wc := (wd_X2_write_b2 cI cC cZ cB cJ a_no a_pa_keptCells no_apron no_basket no_ground no_bruised no_ladder no_helper no_today no_clock pa_keptCells)) hP hD hS hA [0, 2] [1, 3] rfl rfl rfl rfl (g_runV (As := [.ref a_pa_keptCells, .int v_1]) (rest := []) C0 hP hD hS [0, 2] rfl rfl 0 2 rfl rfl (c_X2_write_b2 l dC dI cI cC cZ cB cJ a_no a_pa_keptCells H.size v_1 no_apron no_basket no_ground no_bruised no_ladder no_helper no_today no_clock pa_keptCells _ hp) q_221 q_224 q_222 q_223 q_181 h_X2_write rfl rfl ⟨Nat.le_of_ble_eq_true rfl, Nat.le_of_ble_eq_true rfl⟩ rfl rfl hl.1 rfl (lv_room (Nat.le_of_ble_eq_true rfl)) eX4_store_5.2.2.2.2.2.2.2.2.2.2.1 ⟨Nat.zero_le _, Nat.zero_le _⟩) (fun u H locs hp hP hD hS => ?_)
      obtain ⟨pa_keptCells_2, rfl⟩ : ∃ z, z = u := ⟨_, rfl⟩
      have hPD := PDs (ws' := (wd_X4_store cI cC cZ cB cJ a_no a_pa a_pa_cells a_pa_keptCells a_pa_isKept no_apron no_basket no_ground no_bruised no_ladder no_helper no_today no_clock pa_undoable pa_free pa_keptCells_2 pa_isKept)) hP hD [2, 0, 3, 1] (by decide) rfl
      have hP := hPD.1
      have hD := hPD.2
      refine lv_aload_n hx hb eX4_store_5.2.2.2.2.2.2.2.2.2.2.2.1 rfl (lv_at hl 0 rfl) ?_
      refine va_get (D := (dC, dI)) (ci := 4) (v := .ref a_pa_isKept) (C := RX4) (T := TX4) (N := 5) hx hb hts i_X4 hown hK hP 1 rfl rfl 2 (Nat.le_of_ble_eq_true rfl) (hts _ q_24) (fun _ h9 => h9) rfl eX4_store_5.2.2.2.2.2.2.2.2.2.2.2.2.1 ?_
      refine lv_iload_n hx hb eX4_store_5.2.2.2.2.2.2.2.2.2.2.2.2.2.1 rfl (lv_at hl 1 rfl) ?_
      refine lv_iconst (v := 1) hx hb eX4_store_5.2.2.2.2.2.2.2.2.2.2.2.2.2.2.1 (by decide) ?_
      have hin := hp.1
      have hp := hp.2
      refine va_zast hx hb hK hP hD hS 3 2 rfl rfl hin eX4_store_5.2.2.2.2.2.2.2.2.2.2.2.2.2.2.2 (fun H locs hP hD hS => ?_)
      have hP : va_P (dC, dI) classes (wd_X4_store cI cC cZ cB cJ a_no a_pa a_pa_cells a_pa_keptCells a_pa_isKept no_apron no_basket no_ground no_bruised no_ladder no_helper no_today no_clock pa_undoable pa_free pa_keptCells_2 (upd pa_isKept p0.toNatClampNeg (vp_nar .boolean 1))) H := hP
      have hD : va_D A (wd_X4_store cI cC cZ cB cJ a_no a_pa a_pa_cells a_pa_keptCells a_pa_isKept no_apron no_basket no_ground no_bruised no_ladder no_helper no_today no_clock pa_undoable pa_free pa_keptCells_2 (upd pa_isKept p0.toNatClampNeg (vp_nar .boolean 1))) := hD
      refine lv_iconst (v := 1) hx hb eX4_store_30.1 (by decide) ?_
      exact W.zret (v := 1) hx hb hr rfl (fun t ht hW => ⟨⟨1, (pa_keptCells_2, (upd pa_isKept p0.toNatClampNeg (vp_nar .boolean 1))), rfl, hp, by rw [ht]; exact hP, va_K.moved hW.alike hK, hD⟩, hS.F ht⟩) hS.2.2 eX4_store_30.2
    · have hp := hp.2 hc
      refine lv_iconst (v := 0) hx hb eX4_store_5.2.2.1 (by decide) ?_
      exact W.zret (v := 0) hx hb hr rfl (fun t ht hW => ⟨⟨0, (pa_keptCells, pa_isKept), rfl, hp, by rw [ht]; exact hP, va_K.moved hW.alike hK, hD⟩, hS.F ht⟩) hS.2.2 eX4_store_5.2.2.2.1
abbrev wd_X9_keep (cI cC cZ cB cJ : ClassId) (a_x : Nat) (a_tx : Nat) (a_pl : Nat) (a_ga : Nat) (a_tr : Nat) (a_no : Nat) (a_pa : Nat) (a_ro : Nat) (a_mk : Nat) (a_x_acts : Nat) (a_pa_cells : Nat) (a_pa_keptCells : Nat) (a_pa_isKept : Nat) (no_apron : Int32) (no_basket : Int32) (no_ground : Int32) (no_bruised : Int32) (no_ladder : Int32) (no_helper : Int32) (no_today : Int32) (no_clock : Int32) (pa_undoable : Int32) (pa_free : Int32) (pa_keptCells : Nat → Int32) (pa_isKept : Nat → Int32) : va_W := [(a_x, .inr (9, [.ref a_tx, .ref a_pl, .ref a_ga, .ref a_tr, .ref a_no, .ref a_pa, .ref a_ro, .ref a_mk, .ref a_x_acts])), (a_no, .inr (2, [.int no_apron, .int no_basket, .int no_ground, .int no_bruised, .int no_ladder, .int no_helper, .int no_today, .int no_clock])), (a_pa, .inr (4, [.ref a_pa_cells, .ref a_pa_keptCells, .ref a_pa_isKept, .int pa_undoable, .int pa_free])), (a_pa_keptCells, .inl (cI, 16, .inl pa_keptCells)), (a_pa_isKept, .inl (cZ, 2, .inl pa_isKept))]
abbrev q_X9_keep (dC : Nat → ClassId) (dI : Nat → Nat → Nat) (cI cC cZ cB cJ : ClassId) (A : Nat → Prop) (a_x : Nat) (a_tx : Nat) (a_pl : Nat) (a_ga : Nat) (a_tr : Nat) (a_no : Nat) (a_pa : Nat) (a_ro : Nat) (a_mk : Nat) (a_x_acts : Nat) (a_pa_cells : Nat) (a_pa_keptCells : Nat) (a_pa_isKept : Nat) (no_apron : Int32) (no_basket : Int32) (no_ground : Int32) (no_bruised : Int32) (no_ladder : Int32) (no_helper : Int32) (no_today : Int32) (no_clock : Int32) (pa_undoable : Int32) (pa_free : Int32) (post : Int32 → (Nat → Int32) → (Nat → Int32) → Prop) : Array Value → State → Outcome → State → Prop := va_Qi (fun (r : Int32) (u : (Nat → Int32) × (Nat → Int32)) => post r u.1 u.2) (fun u t => gB (dC, dI) (tyl cI cC cZ cB cJ) A (wd_X9_keep cI cC cZ cB cJ a_x a_tx a_pl a_ga a_tr a_no a_pa a_ro a_mk a_x_acts a_pa_cells a_pa_keptCells a_pa_isKept no_apron no_basket no_ground no_bruised no_ladder no_helper no_today no_clock pa_undoable pa_free u.1 u.2) t) A
abbrev rm_X9_keep : Room := { frames := 2, cells := 0, slots := 0, locals := 44 }
def wp_X9_keep (post : Int32 → (Nat → Int32) → (Nat → Int32) → Prop) (p0 : Int32) (no_apron : Int32) (no_basket : Int32) (no_ground : Int32) (no_bruised : Int32) (no_ladder : Int32) (no_helper : Int32) (no_today : Int32) (no_clock : Int32) (pa_keptCells : Nat → Int32) (pa_isKept : Nat → Int32) : Prop := wp_X4_store (fun r_1 pa_keptCells_2 pa_isKept_3 => narrow .boolean (.int r_1) = .int r_1 ∧ post r_1 pa_keptCells_2 pa_isKept_3) p0 no_apron no_basket no_ground no_bruised no_ladder no_helper no_today no_clock pa_keptCells pa_isKept
set_option maxHeartbeats 4000000 in
set_option maxRecDepth 100000 in
theorem c_X9_keep (l : Launch) (dC : Nat → ClassId) (dI : Nat → Nat → Nat) (cI cC cZ cB cJ : ClassId) (a_x : Nat) (a_tx : Nat) (a_pl : Nat) (a_ga : Nat) (a_tr : Nat) (a_no : Nat) (a_pa : Nat) (a_ro : Nat) (a_mk : Nat) (a_x_acts : Nat) (a_pa_cells : Nat) (a_pa_keptCells : Nat) (a_pa_isKept : Nat) (sz : Nat) (p0 : Int32) (no_apron : Int32) (no_basket : Int32) (no_ground : Int32) (no_bruised : Int32) (no_ladder : Int32) (no_helper : Int32) (no_today : Int32) (no_clock : Int32) (pa_undoable : Int32) (pa_free : Int32) (pa_keptCells : Nat → Int32) (pa_isKept : Nat → Int32) (post : Int32 → (Nat → Int32) → (Nat → Int32) → Prop) (hw : wp_X9_keep post p0 no_apron no_basket no_ground no_bruised no_ladder no_helper no_today no_clock pa_keptCells pa_isKept) : Met l yX9_keep (gw yX9_keep cX9_keep 2 (some .boolean)) rm_X9_keep (va_Pc [.ref a_x, .int p0] (gPre (dC, dI) (tyl cI cC cZ cB cJ) (wd_X9_keep cI cC cZ cB cJ a_x a_tx a_pl a_ga a_tr a_no a_pa a_ro a_mk a_x_acts a_pa_cells a_pa_keptCells a_pa_isKept no_apron no_basket no_ground no_bruised no_ladder no_helper no_today no_clock pa_undoable pa_free pa_keptCells pa_isKept) sz)) (q_X9_keep dC dI cI cC cZ cB cJ (va_A (wd_X9_keep cI cC cZ cB cJ a_x a_tx a_pl a_ga a_tr a_no a_pa a_ro a_mk a_x_acts a_pa_cells a_pa_keptCells a_pa_isKept no_apron no_basket no_ground no_bruised no_ladder no_helper no_today no_clock pa_undoable pa_free pa_keptCells pa_isKept) sz) a_x a_tx a_pl a_ga a_tr a_no a_pa a_ro a_mk a_x_acts a_pa_cells a_pa_keptCells a_pa_isKept no_apron no_basket no_ground no_bruised no_ladder no_helper no_today no_clock pa_undoable pa_free post) 0 0 (va_A (wd_X9_keep cI cC cZ cB cJ a_x a_tx a_pl a_ga a_tr a_no a_pa a_ro a_mk a_x_acts a_pa_cells a_pa_keptCells a_pa_isKept no_apron no_basket no_ground no_bruised no_ladder no_helper no_today no_clock pa_undoable pa_free pa_keptCells pa_isKept) sz) := by
  refine g_enter (own := RX9) (dC, dI) (tyl cI cC cZ cB cJ) (wd_X9_keep cI cC cZ cB cJ a_x a_tx a_pl a_ga a_tr a_no a_pa a_ro a_mk a_x_acts a_pa_cells a_pa_keptCells a_pa_isKept no_apron no_basket no_ground no_bruised no_ladder no_helper no_today no_clock pa_undoable pa_free pa_keptCells pa_isKept) sz [.ref a_x, .int p0] (fun A => q_X9_keep dC dI cI cC cZ cB cJ A a_x a_tx a_pl a_ga a_tr a_no a_pa a_ro a_mk a_x_acts a_pa_cells a_pa_keptCells a_pa_isKept no_apron no_basket no_ground no_bruised no_ladder no_helper no_today no_clock pa_undoable pa_free post) (by decide) rfl (Nat.le_of_ble_eq_true rfl) ?_
  intro p e s m args below meth c A H locs ls C0 hP hD hS hl
  have hl : lv_has ls 2 [(0, .ref a_x), (1, .int p0)] := hl
  obtain ⟨hx, hb, hr, hml, hown, hts, hlocks, hA, hK, hN, tL, tM, hZL, hTL, hZM, hTM, hZX⟩ := id C0
  have hp := hw
  unfold wp_X9_keep at hp
  refine lv_aload_n hx hb eX9_keep_0.1 rfl (lv_at hl 0 rfl) ?_
  refine va_get (D := (dC, dI)) (ci := 9) (v := .ref a_pa) (C := RX9) (T := TX9) (N := 9) hx hb hts i_X9 hown hK hP 0 rfl rfl 5 (Nat.le_of_ble_eq_true rfl) (hts _ q_91) (fun _ h9 => h9) rfl eX9_keep_0.2.1 ?_
  refine lv_iload_n hx hb eX9_keep_0.2.2.1 rfl (lv_at hl 1 rfl) ?_
  refine lv_aload_n hx hb eX9_keep_0.2.2.2.1 rfl (lv_at hl 0 rfl) ?_
  refine va_get (D := (dC, dI)) (ci := 9) (v := .ref a_no) (C := RX9) (T := TX9) (N := 9) hx hb hts i_X9 hown hK hP 0 rfl rfl 4 (Nat.le_of_ble_eq_true rfl) (hts _ q_179) (fun _ h9 => h9) rfl eX9_keep_0.2.2.2.2.1 ?_
  refine g_calli (wc := (wd_X4_store cI cC cZ cB cJ a_no a_pa a_pa_cells a_pa_keptCells a_pa_isKept no_apron no_basket no_ground no_bruised no_ladder no_helper no_today no_clock pa_undoable pa_free pa_keptCells pa_isKept)) hP hD hS hA [1, 2, 3, 4] [0] rfl rfl rfl rfl (g_runV (As := [.int p0, .ref a_no]) (rest := []) C0 hP hD hS [1, 2, 3, 4] rfl rfl 2 4 rfl rfl (c_X4_store l dC dI cI cC cZ cB cJ a_no a_pa a_pa_cells a_pa_keptCells a_pa_isKept H.size p0 no_apron no_basket no_ground no_bruised no_ladder no_helper no_today no_clock pa_undoable pa_free pa_keptCells pa_isKept _ hp) q_626 q_629 q_627 q_628 q_93 h_X4_store rfl rfl ⟨Nat.le_of_ble_eq_true rfl, Nat.le_of_ble_eq_true rfl⟩ rfl rfl hl.1 rfl (lv_room (Nat.le_of_ble_eq_true rfl)) eX9_keep_0.2.2.2.2.2.1 ⟨Nat.zero_le _, Nat.zero_le _⟩) (fun r_1 u H locs hp hP hD hS => ?_)
  obtain ⟨pa_keptCells_2, pa_isKept_3⟩ := u
  have hPD := PDs (ws' := (wd_X9_keep cI cC cZ cB cJ a_x a_tx a_pl a_ga a_tr a_no a_pa a_ro a_mk a_x_acts a_pa_cells a_pa_keptCells a_pa_isKept no_apron no_basket no_ground no_bruised no_ladder no_helper no_today no_clock pa_undoable pa_free pa_keptCells_2 pa_isKept_3)) hP hD [0, 1, 2, 3, 4] (by decide) rfl
  have hP := hPD.1
  have hD := hPD.2
  have hnz := hp.1
  have hp := hp.2
  exact W.zret (v := r_1) hx hb hr hnz (fun t ht hW => ⟨⟨r_1, (pa_keptCells_2, pa_isKept_3), rfl, hp, by rw [ht]; exact hP, va_K.moved hW.alike hK, hD⟩, hS.F ht⟩) hS.2.2 eX9_keep_0.2.2.2.2.2.2
abbrev wd_X2_read_b2 (cI cC cZ cB cJ : ClassId) (a_no : Nat) (a_pa_keptCells : Nat) (no_apron : Int32) (no_basket : Int32) (no_ground : Int32) (no_bruised : Int32) (no_ladder : Int32) (no_helper : Int32) (no_today : Int32) (no_clock : Int32) (pa_keptCells : Nat → Int32) : va_W := [(a_no, .inr (2, [.int no_apron, .int no_basket, .int no_ground, .int no_bruised, .int no_ladder, .int no_helper, .int no_today, .int no_clock])), (a_pa_keptCells, .inl (cI, 16, .inl pa_keptCells))]
abbrev q_X2_read_b2 (dC : Nat → ClassId) (dI : Nat → Nat → Nat) (cI cC cZ cB cJ : ClassId) (A : Nat → Prop) (a_no : Nat) (a_pa_keptCells : Nat) (pa_keptCells : Nat → Int32) (post : Int32 → Int32 → Int32 → Int32 → Int32 → Int32 → Int32 → Int32 → Prop) : Array Value → State → Outcome → State → Prop := va_Qv (fun (u : Int32 × Int32 × Int32 × Int32 × Int32 × Int32 × Int32 × Int32) => post u.1 u.2.1 u.2.2.1 u.2.2.2.1 u.2.2.2.2.1 u.2.2.2.2.2.1 u.2.2.2.2.2.2.1 u.2.2.2.2.2.2.2) (fun u t => gB (dC, dI) (tyl cI cC cZ cB cJ) A (wd_X2_read_b2 cI cC cZ cB cJ a_no a_pa_keptCells u.1 u.2.1 u.2.2.1 u.2.2.2.1 u.2.2.2.2.1 u.2.2.2.2.2.1 u.2.2.2.2.2.2.1 u.2.2.2.2.2.2.2 pa_keptCells) t) A
abbrev rm_X2_read_b2 : Room := { frames := 0, cells := 0, slots := 0, locals := 0 }
def wp_X2_read_b2 (post : Int32 → Int32 → Int32 → Int32 → Int32 → Int32 → Int32 → Int32 → Prop) (p1 : Int32) (no_apron : Int32) (no_basket : Int32) (no_ground : Int32) (no_bruised : Int32) (no_ladder : Int32) (no_helper : Int32) (no_today : Int32) (no_clock : Int32) (pa_keptCells : Nat → Int32) : Prop := (p1 < 0 → post no_apron no_basket no_ground no_bruised no_ladder no_helper no_today no_clock) ∧ (¬ p1 < 0 → (p1 ≤ (16 - 8) → vp_in p1 16 ∧ (∀ v_1 : Int32, v_1 = pa_keptCells p1.toNatClampNeg → ∀ v_2 : Int32, v_2 = p1 + 1 → vp_in v_2 16 ∧ (∀ v_3 : Int32, v_3 = pa_keptCells v_2.toNatClampNeg → ∀ v_4 : Int32, v_4 = p1 + 2 → vp_in v_4 16 ∧ (∀ v_5 : Int32, v_5 = pa_keptCells v_4.toNatClampNeg → ∀ v_6 : Int32, v_6 = p1 + 3 → vp_in v_6 16 ∧ (∀ v_7 : Int32, v_7 = pa_keptCells v_6.toNatClampNeg → ∀ v_8 : Int32, v_8 = p1 + 4 → vp_in v_8 16 ∧ (∀ v_9 : Int32, v_9 = pa_keptCells v_8.toNatClampNeg → ∀ v_10 : Int32, v_10 = p1 + 5 → vp_in v_10 16 ∧ (∀ v_11 : Int32, v_11 = pa_keptCells v_10.toNatClampNeg → ∀ v_12 : Int32, v_12 = p1 + 6 → vp_in v_12 16 ∧ (∀ v_13 : Int32, v_13 = pa_keptCells v_12.toNatClampNeg → ∀ v_14 : Int32, v_14 = p1 + 7 → vp_in v_14 16 ∧ (∀ v_15 : Int32, v_15 = pa_keptCells v_14.toNatClampNeg → post v_1 v_3 v_5 v_7 v_9 v_11 v_13 v_15))))))))) ∧ (¬ p1 ≤ (16 - 8) → post no_apron no_basket no_ground no_bruised no_ladder no_helper no_today no_clock))
set_option maxHeartbeats 4000000 in
set_option maxRecDepth 100000 in
theorem c_X2_read_b2 (l : Launch) (dC : Nat → ClassId) (dI : Nat → Nat → Nat) (cI cC cZ cB cJ : ClassId) (a_no : Nat) (a_pa_keptCells : Nat) (sz : Nat) (p1 : Int32) (no_apron : Int32) (no_basket : Int32) (no_ground : Int32) (no_bruised : Int32) (no_ladder : Int32) (no_helper : Int32) (no_today : Int32) (no_clock : Int32) (pa_keptCells : Nat → Int32) (post : Int32 → Int32 → Int32 → Int32 → Int32 → Int32 → Int32 → Int32 → Prop) (hw : wp_X2_read_b2 post p1 no_apron no_basket no_ground no_bruised no_ladder no_helper no_today no_clock pa_keptCells) : Met l yX2_read (gw yX2_read cX2_read 3 none) rm_X2_read_b2 (va_Pc [.ref a_no, .ref a_pa_keptCells, .int p1] (gPre (dC, dI) (tyl cI cC cZ cB cJ) (wd_X2_read_b2 cI cC cZ cB cJ a_no a_pa_keptCells no_apron no_basket no_ground no_bruised no_ladder no_helper no_today no_clock pa_keptCells) sz)) (q_X2_read_b2 dC dI cI cC cZ cB cJ (va_A (wd_X2_read_b2 cI cC cZ cB cJ a_no a_pa_keptCells no_apron no_basket no_ground no_bruised no_ladder no_helper no_today no_clock pa_keptCells) sz) a_no a_pa_keptCells pa_keptCells post) 0 0 (va_A (wd_X2_read_b2 cI cC cZ cB cJ a_no a_pa_keptCells no_apron no_basket no_ground no_bruised no_ladder no_helper no_today no_clock pa_keptCells) sz) := by
  refine g_enter (own := RX2) (dC, dI) (tyl cI cC cZ cB cJ) (wd_X2_read_b2 cI cC cZ cB cJ a_no a_pa_keptCells no_apron no_basket no_ground no_bruised no_ladder no_helper no_today no_clock pa_keptCells) sz [.ref a_no, .ref a_pa_keptCells, .int p1] (fun A => q_X2_read_b2 dC dI cI cC cZ cB cJ A a_no a_pa_keptCells pa_keptCells post) (by decide) rfl (Nat.le_of_ble_eq_true rfl) ?_
  intro p e s m args below meth c A H locs ls C0 hP hD hS hl
  have hl : lv_has ls 3 [(0, .ref a_no), (1, .ref a_pa_keptCells), (2, .int p1)] := hl
  obtain ⟨hx, hb, hr, hml, hown, hts, hlocks, hA, hK, hN, tL, tM, hZL, hTL, hZM, hTM, hZX⟩ := id C0
  have hp := hw
  unfold wp_X2_read_b2 at hp
  refine lv_iload_n hx hb eX2_read_0.1 rfl (lv_at hl 2 rfl) ?_
  refine lv_if_lt (tgt := 13) hx hb eX2_read_0.2.1 (by decide) (fun hc => ?_) (fun hc => ?_)
  · have hp := hp.1 hc
    exact W.vret hx hb hr (fun t ht hW => ⟨⟨(no_apron, no_basket, no_ground, no_bruised, no_ladder, no_helper, no_today, no_clock), rfl, hp, by rw [ht]; exact hP, va_K.moved hW.alike hK, hD⟩, hS.F ht⟩) hS.2.2 eX2_read_0.2.2.2.2.2.2.2.2.1
  · have hp := hp.2 hc
    refine lv_iload_n hx hb eX2_read_0.2.2.1 rfl (lv_at hl 2 rfl) ?_
    refine lv_aload_n hx hb eX2_read_0.2.2.2.1 rfl (lv_at hl 1 rfl) ?_
    refine va_alen (v := 16) hx hb hK hP 1 0 rfl rfl rfl eX2_read_0.2.2.2.2.1 ?_
    refine lv_bipush (v := 8) hx hb eX2_read_0.2.2.2.2.2.1 (by decide) ?_
    refine lv_isub hx hb eX2_read_0.2.2.2.2.2.2.1 ?_
    refine lv_icmp_le (tgt := 14) hx hb eX2_read_0.2.2.2.2.2.2.2.1 (by decide) (fun hc => ?_) (fun hc => ?_)
    · have hp := hp.1 hc
      refine lv_aload_n hx hb eX2_read_0.2.2.2.2.2.2.2.2.2.1 rfl (lv_at hl 0 rfl) ?_
      refine lv_aload_n hx hb eX2_read_0.2.2.2.2.2.2.2.2.2.2.1 rfl (lv_at hl 1 rfl) ?_
      refine lv_iload_n hx hb eX2_read_0.2.2.2.2.2.2.2.2.2.2.2.1 rfl (lv_at hl 2 rfl) ?_
      have hin := hp.1
      have hp := hp.2
      refine va_iald hx hb hK hP 1 0 rfl rfl hin eX2_read_0.2.2.2.2.2.2.2.2.2.2.2.2.1 ?_
      refine lv_topi (fun v_1 ev_1 => ?_)
      have hp := hp v_1 ev_1
      refine va_put (D := (dC, dI)) (ci := 2) (v := .int v_1) (ty := .int) (C := RX2) (T := TX2) (N := 8) hx hb hts i_X2 tyX2 tyX2_ok nmX2 hown hK hP hD hS 0 rfl rfl 0 (Nat.le_of_ble_eq_true rfl) (hts _ q_168) (fun _ h9 => h9) rfl (tyX2_ok 0 (Nat.le_of_ble_eq_true rfl)) rfl rfl (Nat.le_of_ble_eq_true rfl) eX2_read_0.2.2.2.2.2.2.2.2.2.2.2.2.2.1 (fun H locs hP hD hS => ?_)
      have hP : va_P (dC, dI) classes (wd_X2_read_b2 cI cC cZ cB cJ a_no a_pa_keptCells v_1 no_basket no_ground no_bruised no_ladder no_helper no_today no_clock pa_keptCells) H := hP
      have hD : va_D A (wd_X2_read_b2 cI cC cZ cB cJ a_no a_pa_keptCells v_1 no_basket no_ground no_bruised no_ladder no_helper no_today no_clock pa_keptCells) := hD
      refine lv_aload_n hx hb eX2_read_0.2.2.2.2.2.2.2.2.2.2.2.2.2.2.1 rfl (lv_at hl 0 rfl) ?_
      refine lv_aload_n hx hb eX2_read_0.2.2.2.2.2.2.2.2.2.2.2.2.2.2.2 rfl (lv_at hl 1 rfl) ?_
      refine lv_iload_n hx hb eX2_read_23.1 rfl (lv_at hl 2 rfl) ?_
      refine lv_iconst (v := 1) hx hb eX2_read_23.2.1 (by decide) ?_
      refine lv_iadd hx hb eX2_read_23.2.2.1 ?_
      refine lv_topi (fun v_2 ev_2 => ?_)
      have hp := hp v_2 ev_2
      have hin := hp.1
      have hp := hp.2
      refine va_iald hx hb hK hP 1 0 rfl rfl hin eX2_read_23.2.2.2.1 ?_
      refine lv_topi (fun v_3 ev_3 => ?_)
      have hp := hp v_3 ev_3
      refine va_put (D := (dC, dI)) (ci := 2) (v := .int v_3) (ty := .int) (C := RX2) (T := TX2) (N := 8) hx hb hts i_X2 tyX2 tyX2_ok nmX2 hown hK hP hD hS 0 rfl rfl 1 (Nat.le_of_ble_eq_true rfl) (hts _ q_169) (fun _ h9 => h9) rfl (tyX2_ok 1 (Nat.le_of_ble_eq_true rfl)) rfl rfl (Nat.le_of_ble_eq_true rfl) eX2_read_23.2.2.2.2.1 (fun H locs hP hD hS => ?_)
      have hP : va_P (dC, dI) classes (wd_X2_read_b2 cI cC cZ cB cJ a_no a_pa_keptCells v_1 v_3 no_ground no_bruised no_ladder no_helper no_today no_clock pa_keptCells) H := hP
      have hD : va_D A (wd_X2_read_b2 cI cC cZ cB cJ a_no a_pa_keptCells v_1 v_3 no_ground no_bruised no_ladder no_helper no_today no_clock pa_keptCells) := hD
      refine lv_aload_n hx hb eX2_read_23.2.2.2.2.2.1 rfl (lv_at hl 0 rfl) ?_
      refine lv_aload_n hx hb eX2_read_23.2.2.2.2.2.2.1 rfl (lv_at hl 1 rfl) ?_
      refine lv_iload_n hx hb eX2_read_23.2.2.2.2.2.2.2.1 rfl (lv_at hl 2 rfl) ?_
      refine lv_iconst (v := 2) hx hb eX2_read_23.2.2.2.2.2.2.2.2.1 (by decide) ?_
      refine lv_iadd hx hb eX2_read_23.2.2.2.2.2.2.2.2.2.1 ?_
      refine lv_topi (fun v_4 ev_4 => ?_)
      have hp := hp v_4 ev_4
      have hin := hp.1
      have hp := hp.2
      refine va_iald hx hb hK hP 1 0 rfl rfl hin eX2_read_23.2.2.2.2.2.2.2.2.2.2.1 ?_
      refine lv_topi (fun v_5 ev_5 => ?_)
      have hp := hp v_5 ev_5
      refine va_put (D := (dC, dI)) (ci := 2) (v := .int v_5) (ty := .int) (C := RX2) (T := TX2) (N := 8) hx hb hts i_X2 tyX2 tyX2_ok nmX2 hown hK hP hD hS 0 rfl rfl 2 (Nat.le_of_ble_eq_true rfl) (hts _ q_170) (fun _ h9 => h9) rfl (tyX2_ok 2 (Nat.le_of_ble_eq_true rfl)) rfl rfl (Nat.le_of_ble_eq_true rfl) eX2_read_23.2.2.2.2.2.2.2.2.2.2.2.1 (fun H locs hP hD hS => ?_)
      have hP : va_P (dC, dI) classes (wd_X2_read_b2 cI cC cZ cB cJ a_no a_pa_keptCells v_1 v_3 v_5 no_bruised no_ladder no_helper no_today no_clock pa_keptCells) H := hP
      have hD : va_D A (wd_X2_read_b2 cI cC cZ cB cJ a_no a_pa_keptCells v_1 v_3 v_5 no_bruised no_ladder no_helper no_today no_clock pa_keptCells) := hD
      refine lv_aload_n hx hb eX2_read_23.2.2.2.2.2.2.2.2.2.2.2.2.1 rfl (lv_at hl 0 rfl) ?_
      refine lv_aload_n hx hb eX2_read_23.2.2.2.2.2.2.2.2.2.2.2.2.2.1 rfl (lv_at hl 1 rfl) ?_
      refine lv_iload_n hx hb eX2_read_23.2.2.2.2.2.2.2.2.2.2.2.2.2.2.1 rfl (lv_at hl 2 rfl) ?_
      refine lv_iconst (v := 3) hx hb eX2_read_23.2.2.2.2.2.2.2.2.2.2.2.2.2.2.2 (by decide) ?_
      refine lv_iadd hx hb eX2_read_43.1 ?_
      refine lv_topi (fun v_6 ev_6 => ?_)
      have hp := hp v_6 ev_6
      have hin := hp.1
      have hp := hp.2
      refine va_iald hx hb hK hP 1 0 rfl rfl hin eX2_read_43.2.1 ?_
      refine lv_topi (fun v_7 ev_7 => ?_)
      have hp := hp v_7 ev_7
      refine va_put (D := (dC, dI)) (ci := 2) (v := .int v_7) (ty := .int) (C := RX2) (T := TX2) (N := 8) hx hb hts i_X2 tyX2 tyX2_ok nmX2 hown hK hP hD hS 0 rfl rfl 3 (Nat.le_of_ble_eq_true rfl) (hts _ q_214) (fun _ h9 => h9) rfl (tyX2_ok 3 (Nat.le_of_ble_eq_true rfl)) rfl rfl (Nat.le_of_ble_eq_true rfl) eX2_read_43.2.2.1 (fun H locs hP hD hS => ?_)
      have hP : va_P (dC, dI) classes (wd_X2_read_b2 cI cC cZ cB cJ a_no a_pa_keptCells v_1 v_3 v_5 v_7 no_ladder no_helper no_today no_clock pa_keptCells) H := hP
      have hD : va_D A (wd_X2_read_b2 cI cC cZ cB cJ a_no a_pa_keptCells v_1 v_3 v_5 v_7 no_ladder no_helper no_today no_clock pa_keptCells) := hD
      refine lv_aload_n hx hb eX2_read_43.2.2.2.1 rfl (lv_at hl 0 rfl) ?_
      refine lv_aload_n hx hb eX2_read_43.2.2.2.2.1 rfl (lv_at hl 1 rfl) ?_
      refine lv_iload_n hx hb eX2_read_43.2.2.2.2.2.1 rfl (lv_at hl 2 rfl) ?_
      refine lv_iconst (v := 4) hx hb eX2_read_43.2.2.2.2.2.2.1 (by decide) ?_
      refine lv_iadd hx hb eX2_read_43.2.2.2.2.2.2.2.1 ?_
      refine lv_topi (fun v_8 ev_8 => ?_)
      have hp := hp v_8 ev_8
      have hin := hp.1
      have hp := hp.2
      refine va_iald hx hb hK hP 1 0 rfl rfl hin eX2_read_43.2.2.2.2.2.2.2.2.1 ?_
      refine lv_topi (fun v_9 ev_9 => ?_)
      have hp := hp v_9 ev_9
      refine va_put (D := (dC, dI)) (ci := 2) (v := .int v_9) (ty := .int) (C := RX2) (T := TX2) (N := 8) hx hb hts i_X2 tyX2 tyX2_ok nmX2 hown hK hP hD hS 0 rfl rfl 4 (Nat.le_of_ble_eq_true rfl) (hts _ q_215) (fun _ h9 => h9) rfl (tyX2_ok 4 (Nat.le_of_ble_eq_true rfl)) rfl rfl (Nat.le_of_ble_eq_true rfl) eX2_read_43.2.2.2.2.2.2.2.2.2.1 (fun H locs hP hD hS => ?_)
      have hP : va_P (dC, dI) classes (wd_X2_read_b2 cI cC cZ cB cJ a_no a_pa_keptCells v_1 v_3 v_5 v_7 v_9 no_helper no_today no_clock pa_keptCells) H := hP
      have hD : va_D A (wd_X2_read_b2 cI cC cZ cB cJ a_no a_pa_keptCells v_1 v_3 v_5 v_7 v_9 no_helper no_today no_clock pa_keptCells) := hD
      refine lv_aload_n hx hb eX2_read_43.2.2.2.2.2.2.2.2.2.2.1 rfl (lv_at hl 0 rfl) ?_
      refine lv_aload_n hx hb eX2_read_43.2.2.2.2.2.2.2.2.2.2.2.1 rfl (lv_at hl 1 rfl) ?_
      refine lv_iload_n hx hb eX2_read_43.2.2.2.2.2.2.2.2.2.2.2.2.1 rfl (lv_at hl 2 rfl) ?_
      refine lv_iconst (v := 5) hx hb eX2_read_43.2.2.2.2.2.2.2.2.2.2.2.2.2.1 (by decide) ?_
      refine lv_iadd hx hb eX2_read_43.2.2.2.2.2.2.2.2.2.2.2.2.2.2.1 ?_
      refine lv_topi (fun v_10 ev_10 => ?_)
      have hp := hp v_10 ev_10
      have hin := hp.1
      have hp := hp.2
      refine va_iald hx hb hK hP 1 0 rfl rfl hin eX2_read_43.2.2.2.2.2.2.2.2.2.2.2.2.2.2.2 ?_
      refine lv_topi (fun v_11 ev_11 => ?_)
      have hp := hp v_11 ev_11
      refine va_put (D := (dC, dI)) (ci := 2) (v := .int v_11) (ty := .int) (C := RX2) (T := TX2) (N := 8) hx hb hts i_X2 tyX2 tyX2_ok nmX2 hown hK hP hD hS 0 rfl rfl 5 (Nat.le_of_ble_eq_true rfl) (hts _ q_216) (fun _ h9 => h9) rfl (tyX2_ok 5 (Nat.le_of_ble_eq_true rfl)) rfl rfl (Nat.le_of_ble_eq_true rfl) eX2_read_63.1 (fun H locs hP hD hS => ?_)
      have hP : va_P (dC, dI) classes (wd_X2_read_b2 cI cC cZ cB cJ a_no a_pa_keptCells v_1 v_3 v_5 v_7 v_9 v_11 no_today no_clock pa_keptCells) H := hP
      have hD : va_D A (wd_X2_read_b2 cI cC cZ cB cJ a_no a_pa_keptCells v_1 v_3 v_5 v_7 v_9 v_11 no_today no_clock pa_keptCells) := hD
      refine lv_aload_n hx hb eX2_read_63.2.1 rfl (lv_at hl 0 rfl) ?_
      refine lv_aload_n hx hb eX2_read_63.2.2.1 rfl (lv_at hl 1 rfl) ?_
      refine lv_iload_n hx hb eX2_read_63.2.2.2.1 rfl (lv_at hl 2 rfl) ?_
      refine lv_bipush (v := 6) hx hb eX2_read_63.2.2.2.2.1 (by decide) ?_
      refine lv_iadd hx hb eX2_read_63.2.2.2.2.2.1 ?_
      refine lv_topi (fun v_12 ev_12 => ?_)
      have hp := hp v_12 ev_12
      have hin := hp.1
      have hp := hp.2
      refine va_iald hx hb hK hP 1 0 rfl rfl hin eX2_read_63.2.2.2.2.2.2.1 ?_
      refine lv_topi (fun v_13 ev_13 => ?_)
      have hp := hp v_13 ev_13
      refine va_put (D := (dC, dI)) (ci := 2) (v := .int v_13) (ty := .int) (C := RX2) (T := TX2) (N := 8) hx hb hts i_X2 tyX2 tyX2_ok nmX2 hown hK hP hD hS 0 rfl rfl 6 (Nat.le_of_ble_eq_true rfl) (hts _ q_217) (fun _ h9 => h9) rfl (tyX2_ok 6 (Nat.le_of_ble_eq_true rfl)) rfl rfl (Nat.le_of_ble_eq_true rfl) eX2_read_63.2.2.2.2.2.2.2.1 (fun H locs hP hD hS => ?_)
      have hP : va_P (dC, dI) classes (wd_X2_read_b2 cI cC cZ cB cJ a_no a_pa_keptCells v_1 v_3 v_5 v_7 v_9 v_11 v_13 no_clock pa_keptCells) H := hP
      have hD : va_D A (wd_X2_read_b2 cI cC cZ cB cJ a_no a_pa_keptCells v_1 v_3 v_5 v_7 v_9 v_11 v_13 no_clock pa_keptCells) := hD
      refine lv_aload_n hx hb eX2_read_63.2.2.2.2.2.2.2.2.1 rfl (lv_at hl 0 rfl) ?_
      refine lv_aload_n hx hb eX2_read_63.2.2.2.2.2.2.2.2.2.1 rfl (lv_at hl 1 rfl) ?_
      refine lv_iload_n hx hb eX2_read_63.2.2.2.2.2.2.2.2.2.2.1 rfl (lv_at hl 2 rfl) ?_
      refine lv_bipush (v := 7) hx hb eX2_read_63.2.2.2.2.2.2.2.2.2.2.2.1 (by decide) ?_
      refine lv_iadd hx hb eX2_read_63.2.2.2.2.2.2.2.2.2.2.2.2.1 ?_
      refine lv_topi (fun v_14 ev_14 => ?_)
      have hp := hp v_14 ev_14
      have hin := hp.1
      have hp := hp.2
      refine va_iald hx hb hK hP 1 0 rfl rfl hin eX2_read_63.2.2.2.2.2.2.2.2.2.2.2.2.2.1 ?_
      refine lv_topi (fun v_15 ev_15 => ?_)
      have hp := hp v_15 ev_15
      refine va_put (D := (dC, dI)) (ci := 2) (v := .int v_15) (ty := .int) (C := RX2) (T := TX2) (N := 8) hx hb hts i_X2 tyX2 tyX2_ok nmX2 hown hK hP hD hS 0 rfl rfl 7 (Nat.le_of_ble_eq_true rfl) (hts _ q_218) (fun _ h9 => h9) rfl (tyX2_ok 7 (Nat.le_of_ble_eq_true rfl)) rfl rfl (Nat.le_of_ble_eq_true rfl) eX2_read_63.2.2.2.2.2.2.2.2.2.2.2.2.2.2.1 (fun H locs hP hD hS => ?_)
      have hP : va_P (dC, dI) classes (wd_X2_read_b2 cI cC cZ cB cJ a_no a_pa_keptCells v_1 v_3 v_5 v_7 v_9 v_11 v_13 v_15 pa_keptCells) H := hP
      have hD : va_D A (wd_X2_read_b2 cI cC cZ cB cJ a_no a_pa_keptCells v_1 v_3 v_5 v_7 v_9 v_11 v_13 v_15 pa_keptCells) := hD
      exact W.vret hx hb hr (fun t ht hW => ⟨⟨(v_1, v_3, v_5, v_7, v_9, v_11, v_13, v_15), rfl, hp, by rw [ht]; exact hP, va_K.moved hW.alike hK, hD⟩, hS.F ht⟩) hS.2.2 eX2_read_63.2.2.2.2.2.2.2.2.2.2.2.2.2.2.2
    · have hp := hp.2 hc
      exact W.vret hx hb hr (fun t ht hW => ⟨⟨(no_apron, no_basket, no_ground, no_bruised, no_ladder, no_helper, no_today, no_clock), rfl, hp, by rw [ht]; exact hP, va_K.moved hW.alike hK, hD⟩, hS.F ht⟩) hS.2.2 eX2_read_0.2.2.2.2.2.2.2.2.1
abbrev wd_X4_fetch (cI cC cZ cB cJ : ClassId) (a_no : Nat) (a_pa : Nat) (a_pa_cells : Nat) (a_pa_keptCells : Nat) (a_pa_isKept : Nat) (no_apron : Int32) (no_basket : Int32) (no_ground : Int32) (no_bruised : Int32) (no_ladder : Int32) (no_helper : Int32) (no_today : Int32) (no_clock : Int32) (pa_undoable : Int32) (pa_free : Int32) (pa_keptCells : Nat → Int32) (pa_isKept : Nat → Int32) : va_W := [(a_no, .inr (2, [.int no_apron, .int no_basket, .int no_ground, .int no_bruised, .int no_ladder, .int no_helper, .int no_today, .int no_clock])), (a_pa, .inr (4, [.ref a_pa_cells, .ref a_pa_keptCells, .ref a_pa_isKept, .int pa_undoable, .int pa_free])), (a_pa_keptCells, .inl (cI, 16, .inl pa_keptCells)), (a_pa_isKept, .inl (cZ, 2, .inl pa_isKept))]
abbrev q_X4_fetch (dC : Nat → ClassId) (dI : Nat → Nat → Nat) (cI cC cZ cB cJ : ClassId) (A : Nat → Prop) (a_no : Nat) (a_pa : Nat) (a_pa_cells : Nat) (a_pa_keptCells : Nat) (a_pa_isKept : Nat) (pa_free : Int32) (pa_keptCells : Nat → Int32) (pa_isKept : Nat → Int32) (post : Int32 → Int32 → Int32 → Int32 → Int32 → Int32 → Int32 → Int32 → Int32 → Int32 → Prop) : Array Value → State → Outcome → State → Prop := va_Qi (fun (r : Int32) (u : Int32 × Int32 × Int32 × Int32 × Int32 × Int32 × Int32 × Int32 × Int32) => post r u.1 u.2.1 u.2.2.1 u.2.2.2.1 u.2.2.2.2.1 u.2.2.2.2.2.1 u.2.2.2.2.2.2.1 u.2.2.2.2.2.2.2.1 u.2.2.2.2.2.2.2.2) (fun u t => gB (dC, dI) (tyl cI cC cZ cB cJ) A (wd_X4_fetch cI cC cZ cB cJ a_no a_pa a_pa_cells a_pa_keptCells a_pa_isKept u.1 u.2.1 u.2.2.1 u.2.2.2.1 u.2.2.2.2.1 u.2.2.2.2.2.1 u.2.2.2.2.2.2.1 u.2.2.2.2.2.2.2.1 u.2.2.2.2.2.2.2.2 pa_free pa_keptCells pa_isKept) t) A
abbrev rm_X4_fetch : Room := { frames := 1, cells := 0, slots := 0, locals := 22 }
def wp_X4_fetch (post : Int32 → Int32 → Int32 → Int32 → Int32 → Int32 → Int32 → Int32 → Int32 → Int32 → Prop) (p0 : Int32) (no_apron : Int32) (no_basket : Int32) (no_ground : Int32) (no_bruised : Int32) (no_ladder : Int32) (no_helper : Int32) (no_today : Int32) (no_clock : Int32) (pa_undoable : Int32) (pa_keptCells : Nat → Int32) (pa_isKept : Nat → Int32) : Prop := (p0 < 0 → post 0 no_apron no_basket no_ground no_bruised no_ladder no_helper no_today no_clock pa_undoable) ∧ (¬ p0 < 0 → (2 ≤ p0 → post 0 no_apron no_basket no_ground no_bruised no_ladder no_helper no_today no_clock pa_undoable) ∧ (¬ 2 ≤ p0 → vp_in p0 2 ∧ ((¬ (pa_isKept p0.toNatClampNeg) = 0 → ∀ v_1 : Int32, v_1 = p0 * 8 → wp_X2_read_b2 (fun no_apron_2 no_basket_3 no_ground_4 no_bruised_5 no_ladder_6 no_helper_7 no_today_8 no_clock_9 => post 1 no_apron_2 no_basket_3 no_ground_4 no_bruised_5 no_ladder_6 no_helper_7 no_today_8 no_clock_9 0) v_1 no_apron no_basket no_ground no_bruised no_ladder no_helper no_today no_clock pa_keptCells) ∧ ((pa_isKept p0.toNatClampNeg) = 0 → post 0 no_apron no_basket no_ground no_bruised no_ladder no_helper no_today no_clock pa_undoable))))
set_option maxHeartbeats 4000000 in
set_option maxRecDepth 100000 in
theorem c_X4_fetch (l : Launch) (dC : Nat → ClassId) (dI : Nat → Nat → Nat) (cI cC cZ cB cJ : ClassId) (a_no : Nat) (a_pa : Nat) (a_pa_cells : Nat) (a_pa_keptCells : Nat) (a_pa_isKept : Nat) (sz : Nat) (p0 : Int32) (no_apron : Int32) (no_basket : Int32) (no_ground : Int32) (no_bruised : Int32) (no_ladder : Int32) (no_helper : Int32) (no_today : Int32) (no_clock : Int32) (pa_undoable : Int32) (pa_free : Int32) (pa_keptCells : Nat → Int32) (pa_isKept : Nat → Int32) (post : Int32 → Int32 → Int32 → Int32 → Int32 → Int32 → Int32 → Int32 → Int32 → Int32 → Prop) (hw : wp_X4_fetch post p0 no_apron no_basket no_ground no_bruised no_ladder no_helper no_today no_clock pa_undoable pa_keptCells pa_isKept) : Met l yX4_fetch (gw yX4_fetch cX4_fetch 3 (some .boolean)) rm_X4_fetch (va_Pc [.ref a_pa, .int p0, .ref a_no] (gPre (dC, dI) (tyl cI cC cZ cB cJ) (wd_X4_fetch cI cC cZ cB cJ a_no a_pa a_pa_cells a_pa_keptCells a_pa_isKept no_apron no_basket no_ground no_bruised no_ladder no_helper no_today no_clock pa_undoable pa_free pa_keptCells pa_isKept) sz)) (q_X4_fetch dC dI cI cC cZ cB cJ (va_A (wd_X4_fetch cI cC cZ cB cJ a_no a_pa a_pa_cells a_pa_keptCells a_pa_isKept no_apron no_basket no_ground no_bruised no_ladder no_helper no_today no_clock pa_undoable pa_free pa_keptCells pa_isKept) sz) a_no a_pa a_pa_cells a_pa_keptCells a_pa_isKept pa_free pa_keptCells pa_isKept post) 0 0 (va_A (wd_X4_fetch cI cC cZ cB cJ a_no a_pa a_pa_cells a_pa_keptCells a_pa_isKept no_apron no_basket no_ground no_bruised no_ladder no_helper no_today no_clock pa_undoable pa_free pa_keptCells pa_isKept) sz) := by
  refine g_enter (own := RX4) (dC, dI) (tyl cI cC cZ cB cJ) (wd_X4_fetch cI cC cZ cB cJ a_no a_pa a_pa_cells a_pa_keptCells a_pa_isKept no_apron no_basket no_ground no_bruised no_ladder no_helper no_today no_clock pa_undoable pa_free pa_keptCells pa_isKept) sz [.ref a_pa, .int p0, .ref a_no] (fun A => q_X4_fetch dC dI cI cC cZ cB cJ A a_no a_pa a_pa_cells a_pa_keptCells a_pa_isKept pa_free pa_keptCells pa_isKept post) (by decide) rfl (Nat.le_of_ble_eq_true rfl) ?_
  intro p e s m args below meth c A H locs ls C0 hP hD hS hl
  have hl : lv_has ls 3 [(0, .ref a_pa), (1, .int p0), (2, .ref a_no)] := hl
  obtain ⟨hx, hb, hr, hml, hown, hts, hlocks, hA, hK, hN, tL, tM, hZL, hTL, hZM, hTM, hZX⟩ := id C0
  have hp := hw
  unfold wp_X4_fetch at hp
  refine lv_iload_n hx hb eX4_fetch_0.1 rfl (lv_at hl 1 rfl) ?_
  refine lv_if_lt (tgt := 18) hx hb eX4_fetch_0.2.1 (by decide) (fun hc => ?_) (fun hc => ?_)
  · have hp := hp.1 hc
    refine lv_iconst (v := 0) hx hb eX4_fetch_0.2.2.2.2.2.2.2.2.2.2.1 (by decide) ?_
    exact W.zret (v := 0) hx hb hr rfl (fun t ht hW => ⟨⟨0, (no_apron, no_basket, no_ground, no_bruised, no_ladder, no_helper, no_today, no_clock, pa_undoable), rfl, hp, by rw [ht]; exact hP, va_K.moved hW.alike hK, hD⟩, hS.F ht⟩) hS.2.2 eX4_fetch_0.2.2.2.2.2.2.2.2.2.2.2.1
  · have hp := hp.2 hc
    refine lv_iload_n hx hb eX4_fetch_0.2.2.1 rfl (lv_at hl 1 rfl) ?_
    refine lv_iconst (v := 2) hx hb eX4_fetch_0.2.2.2.1 (by decide) ?_
    refine lv_icmp_ge (tgt := 18) hx hb eX4_fetch_0.2.2.2.2.1 (by decide) (fun hc => ?_) (fun hc => ?_)
    · have hp := hp.1 hc
      refine lv_iconst (v := 0) hx hb eX4_fetch_0.2.2.2.2.2.2.2.2.2.2.1 (by decide) ?_
      exact W.zret (v := 0) hx hb hr rfl (fun t ht hW => ⟨⟨0, (no_apron, no_basket, no_ground, no_bruised, no_ladder, no_helper, no_today, no_clock, pa_undoable), rfl, hp, by rw [ht]; exact hP, va_K.moved hW.alike hK, hD⟩, hS.F ht⟩) hS.2.2 eX4_fetch_0.2.2.2.2.2.2.2.2.2.2.2.1
    · have hp := hp.2 hc
      refine lv_aload_n hx hb eX4_fetch_0.2.2.2.2.2.1 rfl (lv_at hl 0 rfl) ?_
      refine va_get (D := (dC, dI)) (ci := 4) (v := .ref a_pa_isKept) (C := RX4) (T := TX4) (N := 5) hx hb hts i_X4 hown hK hP 1 rfl rfl 2 (Nat.le_of_ble_eq_true rfl) (hts _ q_24) (fun _ h9 => h9) rfl eX4_fetch_0.2.2.2.2.2.2.1 ?_
      refine lv_iload_n hx hb eX4_fetch_0.2.2.2.2.2.2.2.1 rfl (lv_at hl 1 rfl) ?_
      have hin := hp.1
      have hp := hp.2
      refine va_zald hx hb hK hP 3 2 rfl rfl hin eX4_fetch_0.2.2.2.2.2.2.2.2.1 ?_
      refine lv_if_ne (tgt := 20) hx hb eX4_fetch_0.2.2.2.2.2.2.2.2.2.1 (by decide) (fun hc => ?_) (fun hc => ?_)
      · have hp := hp.1 hc
        refine lv_aload_n hx hb eX4_fetch_0.2.2.2.2.2.2.2.2.2.2.2.2.1 rfl (lv_at hl 2 rfl) ?_
        refine lv_aload_n hx hb eX4_fetch_0.2.2.2.2.2.2.2.2.2.2.2.2.2.1 rfl (lv_at hl 0 rfl) ?_
        refine va_get (D := (dC, dI)) (ci := 4) (v := .ref a_pa_keptCells) (C := RX4) (T := TX4) (N := 5) hx hb hts i_X4 hown hK hP 1 rfl rfl 1 (Nat.le_of_ble_eq_true rfl) (hts _ q_625) (fun _ h9 => h9) rfl eX4_fetch_0.2.2.2.2.2.2.2.2.2.2.2.2.2.2.1 ?_
        refine lv_iload_n hx hb eX4_fetch_0.2.2.2.2.2.2.2.2.2.2.2.2.2.2.2 rfl (lv_at hl 1 rfl) ?_
        refine lv_bipush (v := 8) hx hb eX4_fetch_26.1 (by decide) ?_
        refine lv_imul hx hb eX4_fetch_26.2.1 ?_
        refine lv_topi (fun v_1 ev_1 => ?_)
        have hp := hp v_1 ev_1
        refine g_callv (wc := (wd_X2_read_b2 cI cC cZ cB cJ a_no a_pa_keptCells no_apron no_basket no_ground no_bruised no_ladder no_helper no_today no_clock pa_keptCells)) hP hD hS hA [0, 2] [1, 3] rfl rfl rfl rfl (g_runV (As := [.ref a_pa_keptCells, .int v_1]) (rest := []) C0 hP hD hS [0, 2] rfl rfl 0 2 rfl rfl (c_X2_read_b2 l dC dI cI cC cZ cB cJ a_no a_pa_keptCells H.size v_1 no_apron no_basket no_ground no_bruised no_ladder no_helper no_today no_clock pa_keptCells _ hp) q_402 q_405 q_403 q_404 q_181 h_X2_read rfl rfl ⟨Nat.le_of_ble_eq_true rfl, Nat.le_of_ble_eq_true rfl⟩ rfl rfl hl.1 rfl (lv_room (Nat.le_of_ble_eq_true rfl)) eX4_fetch_26.2.2.1 ⟨Nat.zero_le _, Nat.zero_le _⟩) (fun u H locs hp hP hD hS => ?_)
        obtain ⟨no_apron_2, no_basket_3, no_ground_4, no_bruised_5, no_ladder_6, no_helper_7, no_today_8, no_clock_9⟩ := u
        have hPD := PDs (ws' := (wd_X4_fetch cI cC cZ cB cJ a_no a_pa a_pa_cells a_pa_keptCells a_pa_isKept no_apron_2 no_basket_3 no_ground_4 no_bruised_5 no_ladder_6 no_helper_7 no_today_8 no_clock_9 pa_undoable pa_free pa_keptCells pa_isKept)) hP hD [2, 0, 3, 1] (by decide) rfl
        have hP := hPD.1
        have hD := hPD.2
        refine lv_aload_n hx hb eX4_fetch_26.2.2.2.1 rfl (lv_at hl 0 rfl) ?_
        refine lv_iconst (v := 0) hx hb eX4_fetch_26.2.2.2.2.1 (by decide) ?_
        refine va_put (D := (dC, dI)) (ci := 4) (v := .int 0) (ty := .int) (C := RX4) (T := TX4) (N := 5) hx hb hts i_X4 tyX4 tyX4_ok nmX4 hown hK hP hD hS 1 rfl rfl 3 (Nat.le_of_ble_eq_true rfl) (hts _ q_23) (fun _ h9 => h9) rfl (tyX4_ok 3 (Nat.le_of_ble_eq_true rfl)) rfl rfl (Nat.le_of_ble_eq_true rfl) eX4_fetch_26.2.2.2.2.2.1 (fun H locs hP hD hS => ?_)
        have hP : va_P (dC, dI) classes (wd_X4_fetch cI cC cZ cB cJ a_no a_pa a_pa_cells a_pa_keptCells a_pa_isKept no_apron_2 no_basket_3 no_ground_4 no_bruised_5 no_ladder_6 no_helper_7 no_today_8 no_clock_9 0 pa_free pa_keptCells pa_isKept) H := hP
        have hD : va_D A (wd_X4_fetch cI cC cZ cB cJ a_no a_pa a_pa_cells a_pa_keptCells a_pa_isKept no_apron_2 no_basket_3 no_ground_4 no_bruised_5 no_ladder_6 no_helper_7 no_today_8 no_clock_9 0 pa_free pa_keptCells pa_isKept) := hD
        refine lv_iconst (v := 1) hx hb eX4_fetch_26.2.2.2.2.2.2.1 (by decide) ?_
        exact W.zret (v := 1) hx hb hr rfl (fun t ht hW => ⟨⟨1, (no_apron_2, no_basket_3, no_ground_4, no_bruised_5, no_ladder_6, no_helper_7, no_today_8, no_clock_9, 0), rfl, hp, by rw [ht]; exact hP, va_K.moved hW.alike hK, hD⟩, hS.F ht⟩) hS.2.2 eX4_fetch_26.2.2.2.2.2.2.2
      · have hp := hp.2 hc
        refine lv_iconst (v := 0) hx hb eX4_fetch_0.2.2.2.2.2.2.2.2.2.2.1 (by decide) ?_
        exact W.zret (v := 0) hx hb hr rfl (fun t ht hW => ⟨⟨0, (no_apron, no_basket, no_ground, no_bruised, no_ladder, no_helper, no_today, no_clock, pa_undoable), rfl, hp, by rw [ht]; exact hP, va_K.moved hW.alike hK, hD⟩, hS.F ht⟩) hS.2.2 eX4_fetch_0.2.2.2.2.2.2.2.2.2.2.2.1
abbrev wd_X9_again (cI cC cZ cB cJ : ClassId) (a_x : Nat) (a_tx : Nat) (a_pl : Nat) (a_ga : Nat) (a_tr : Nat) (a_no : Nat) (a_pa : Nat) (a_ro : Nat) (a_mk : Nat) (a_x_acts : Nat) (a_pa_cells : Nat) (a_pa_keptCells : Nat) (a_pa_isKept : Nat) (no_apron : Int32) (no_basket : Int32) (no_ground : Int32) (no_bruised : Int32) (no_ladder : Int32) (no_helper : Int32) (no_today : Int32) (no_clock : Int32) (pa_undoable : Int32) (pa_free : Int32) (pa_keptCells : Nat → Int32) (pa_isKept : Nat → Int32) : va_W := [(a_x, .inr (9, [.ref a_tx, .ref a_pl, .ref a_ga, .ref a_tr, .ref a_no, .ref a_pa, .ref a_ro, .ref a_mk, .ref a_x_acts])), (a_no, .inr (2, [.int no_apron, .int no_basket, .int no_ground, .int no_bruised, .int no_ladder, .int no_helper, .int no_today, .int no_clock])), (a_pa, .inr (4, [.ref a_pa_cells, .ref a_pa_keptCells, .ref a_pa_isKept, .int pa_undoable, .int pa_free])), (a_pa_keptCells, .inl (cI, 16, .inl pa_keptCells)), (a_pa_isKept, .inl (cZ, 2, .inl pa_isKept))]
abbrev q_X9_again (dC : Nat → ClassId) (dI : Nat → Nat → Nat) (cI cC cZ cB cJ : ClassId) (A : Nat → Prop) (a_x : Nat) (a_tx : Nat) (a_pl : Nat) (a_ga : Nat) (a_tr : Nat) (a_no : Nat) (a_pa : Nat) (a_ro : Nat) (a_mk : Nat) (a_x_acts : Nat) (a_pa_cells : Nat) (a_pa_keptCells : Nat) (a_pa_isKept : Nat) (pa_free : Int32) (pa_keptCells : Nat → Int32) (pa_isKept : Nat → Int32) (post : Int32 → Int32 → Int32 → Int32 → Int32 → Int32 → Int32 → Int32 → Int32 → Int32 → Prop) : Array Value → State → Outcome → State → Prop := va_Qi (fun (r : Int32) (u : Int32 × Int32 × Int32 × Int32 × Int32 × Int32 × Int32 × Int32 × Int32) => post r u.1 u.2.1 u.2.2.1 u.2.2.2.1 u.2.2.2.2.1 u.2.2.2.2.2.1 u.2.2.2.2.2.2.1 u.2.2.2.2.2.2.2.1 u.2.2.2.2.2.2.2.2) (fun u t => gB (dC, dI) (tyl cI cC cZ cB cJ) A (wd_X9_again cI cC cZ cB cJ a_x a_tx a_pl a_ga a_tr a_no a_pa a_ro a_mk a_x_acts a_pa_cells a_pa_keptCells a_pa_isKept u.1 u.2.1 u.2.2.1 u.2.2.2.1 u.2.2.2.2.1 u.2.2.2.2.2.1 u.2.2.2.2.2.2.1 u.2.2.2.2.2.2.2.1 u.2.2.2.2.2.2.2.2 pa_free pa_keptCells pa_isKept) t) A
abbrev rm_X9_again : Room := { frames := 2, cells := 0, slots := 0, locals := 44 }
def wp_X9_again (post : Int32 → Int32 → Int32 → Int32 → Int32 → Int32 → Int32 → Int32 → Int32 → Int32 → Prop) (p0 : Int32) (no_apron : Int32) (no_basket : Int32) (no_ground : Int32) (no_bruised : Int32) (no_ladder : Int32) (no_helper : Int32) (no_today : Int32) (no_clock : Int32) (pa_undoable : Int32) (pa_keptCells : Nat → Int32) (pa_isKept : Nat → Int32) : Prop := wp_X4_fetch (fun r_1 no_apron_2 no_basket_3 no_ground_4 no_bruised_5 no_ladder_6 no_helper_7 no_today_8 no_clock_9 pa_undoable_10 => narrow .boolean (.int r_1) = .int r_1 ∧ post r_1 no_apron_2 no_basket_3 no_ground_4 no_bruised_5 no_ladder_6 no_helper_7 no_today_8 no_clock_9 pa_undoable_10) p0 no_apron no_basket no_ground no_bruised no_ladder no_helper no_today no_clock pa_undoable pa_keptCells pa_isKept
set_option maxHeartbeats 4000000 in
set_option maxRecDepth 100000 in
theorem c_X9_again (l : Launch) (dC : Nat → ClassId) (dI : Nat → Nat → Nat) (cI cC cZ cB cJ : ClassId) (a_x : Nat) (a_tx : Nat) (a_pl : Nat) (a_ga : Nat) (a_tr : Nat) (a_no : Nat) (a_pa : Nat) (a_ro : Nat) (a_mk : Nat) (a_x_acts : Nat) (a_pa_cells : Nat) (a_pa_keptCells : Nat) (a_pa_isKept : Nat) (sz : Nat) (p0 : Int32) (no_apron : Int32) (no_basket : Int32) (no_ground : Int32) (no_bruised : Int32) (no_ladder : Int32) (no_helper : Int32) (no_today : Int32) (no_clock : Int32) (pa_undoable : Int32) (pa_free : Int32) (pa_keptCells : Nat → Int32) (pa_isKept : Nat → Int32) (post : Int32 → Int32 → Int32 → Int32 → Int32 → Int32 → Int32 → Int32 → Int32 → Int32 → Prop) (hw : wp_X9_again post p0 no_apron no_basket no_ground no_bruised no_ladder no_helper no_today no_clock pa_undoable pa_keptCells pa_isKept) : Met l yX9_again (gw yX9_again cX9_again 2 (some .boolean)) rm_X9_again (va_Pc [.ref a_x, .int p0] (gPre (dC, dI) (tyl cI cC cZ cB cJ) (wd_X9_again cI cC cZ cB cJ a_x a_tx a_pl a_ga a_tr a_no a_pa a_ro a_mk a_x_acts a_pa_cells a_pa_keptCells a_pa_isKept no_apron no_basket no_ground no_bruised no_ladder no_helper no_today no_clock pa_undoable pa_free pa_keptCells pa_isKept) sz)) (q_X9_again dC dI cI cC cZ cB cJ (va_A (wd_X9_again cI cC cZ cB cJ a_x a_tx a_pl a_ga a_tr a_no a_pa a_ro a_mk a_x_acts a_pa_cells a_pa_keptCells a_pa_isKept no_apron no_basket no_ground no_bruised no_ladder no_helper no_today no_clock pa_undoable pa_free pa_keptCells pa_isKept) sz) a_x a_tx a_pl a_ga a_tr a_no a_pa a_ro a_mk a_x_acts a_pa_cells a_pa_keptCells a_pa_isKept pa_free pa_keptCells pa_isKept post) 0 0 (va_A (wd_X9_again cI cC cZ cB cJ a_x a_tx a_pl a_ga a_tr a_no a_pa a_ro a_mk a_x_acts a_pa_cells a_pa_keptCells a_pa_isKept no_apron no_basket no_ground no_bruised no_ladder no_helper no_today no_clock pa_undoable pa_free pa_keptCells pa_isKept) sz) := by
  refine g_enter (own := RX9) (dC, dI) (tyl cI cC cZ cB cJ) (wd_X9_again cI cC cZ cB cJ a_x a_tx a_pl a_ga a_tr a_no a_pa a_ro a_mk a_x_acts a_pa_cells a_pa_keptCells a_pa_isKept no_apron no_basket no_ground no_bruised no_ladder no_helper no_today no_clock pa_undoable pa_free pa_keptCells pa_isKept) sz [.ref a_x, .int p0] (fun A => q_X9_again dC dI cI cC cZ cB cJ A a_x a_tx a_pl a_ga a_tr a_no a_pa a_ro a_mk a_x_acts a_pa_cells a_pa_keptCells a_pa_isKept pa_free pa_keptCells pa_isKept post) (by decide) rfl (Nat.le_of_ble_eq_true rfl) ?_
  intro p e s m args below meth c A H locs ls C0 hP hD hS hl
  have hl : lv_has ls 2 [(0, .ref a_x), (1, .int p0)] := hl
  obtain ⟨hx, hb, hr, hml, hown, hts, hlocks, hA, hK, hN, tL, tM, hZL, hTL, hZM, hTM, hZX⟩ := id C0
  have hp := hw
  unfold wp_X9_again at hp
  refine lv_aload_n hx hb eX9_again_0.1 rfl (lv_at hl 0 rfl) ?_
  refine va_get (D := (dC, dI)) (ci := 9) (v := .ref a_pa) (C := RX9) (T := TX9) (N := 9) hx hb hts i_X9 hown hK hP 0 rfl rfl 5 (Nat.le_of_ble_eq_true rfl) (hts _ q_91) (fun _ h9 => h9) rfl eX9_again_0.2.1 ?_
  refine lv_iload_n hx hb eX9_again_0.2.2.1 rfl (lv_at hl 1 rfl) ?_
  refine lv_aload_n hx hb eX9_again_0.2.2.2.1 rfl (lv_at hl 0 rfl) ?_
  refine va_get (D := (dC, dI)) (ci := 9) (v := .ref a_no) (C := RX9) (T := TX9) (N := 9) hx hb hts i_X9 hown hK hP 0 rfl rfl 4 (Nat.le_of_ble_eq_true rfl) (hts _ q_179) (fun _ h9 => h9) rfl eX9_again_0.2.2.2.2.1 ?_
  refine g_calli (wc := (wd_X4_fetch cI cC cZ cB cJ a_no a_pa a_pa_cells a_pa_keptCells a_pa_isKept no_apron no_basket no_ground no_bruised no_ladder no_helper no_today no_clock pa_undoable pa_free pa_keptCells pa_isKept)) hP hD hS hA [1, 2, 3, 4] [0] rfl rfl rfl rfl (g_runV (As := [.int p0, .ref a_no]) (rest := []) C0 hP hD hS [1, 2, 3, 4] rfl rfl 2 4 rfl rfl (c_X4_fetch l dC dI cI cC cZ cB cJ a_no a_pa a_pa_cells a_pa_keptCells a_pa_isKept H.size p0 no_apron no_basket no_ground no_bruised no_ladder no_helper no_today no_clock pa_undoable pa_free pa_keptCells pa_isKept _ hp) q_630 q_633 q_631 q_632 q_93 h_X4_fetch rfl rfl ⟨Nat.le_of_ble_eq_true rfl, Nat.le_of_ble_eq_true rfl⟩ rfl rfl hl.1 rfl (lv_room (Nat.le_of_ble_eq_true rfl)) eX9_again_0.2.2.2.2.2.1 ⟨Nat.zero_le _, Nat.zero_le _⟩) (fun r_1 u H locs hp hP hD hS => ?_)
  obtain ⟨no_apron_2, no_basket_3, no_ground_4, no_bruised_5, no_ladder_6, no_helper_7, no_today_8, no_clock_9, pa_undoable_10⟩ := u
  have hPD := PDs (ws' := (wd_X9_again cI cC cZ cB cJ a_x a_tx a_pl a_ga a_tr a_no a_pa a_ro a_mk a_x_acts a_pa_cells a_pa_keptCells a_pa_isKept no_apron_2 no_basket_3 no_ground_4 no_bruised_5 no_ladder_6 no_helper_7 no_today_8 no_clock_9 pa_undoable_10 pa_free pa_keptCells pa_isKept)) hP hD [0, 1, 2, 3, 4] (by decide) rfl
  have hP := hPD.1
  have hD := hPD.2
  have hnz := hp.1
  have hp := hp.2
  exact W.zret (v := r_1) hx hb hr hnz (fun t ht hW => ⟨⟨r_1, (no_apron_2, no_basket_3, no_ground_4, no_bruised_5, no_ladder_6, no_helper_7, no_today_8, no_clock_9, pa_undoable_10), rfl, hp, by rw [ht]; exact hP, va_K.moved hW.alike hK, hD⟩, hS.F ht⟩) hS.2.2 eX9_again_0.2.2.2.2.2.2
abbrev wd_X9_count (cI cC cZ cB cJ : ClassId) (a_x : Nat) (a_tx : Nat) (a_pl : Nat) (a_ga : Nat) (a_tr : Nat) (a_no : Nat) (a_pa : Nat) (a_ro : Nat) (a_mk : Nat) (a_x_acts : Nat) (a_tx_signs : Nat) (a_ru : Nat) (a_tr_x : Nat) (a_tr_height : Nat) (a_tr_worth : Nat) (a_tr_ripe : Nat) (a_tr_foot : Nat) (a_tr_fork : Nat) (a_tr_settings : Nat) (a_pa_cells : Nat) (a_pa_keptCells : Nat) (a_pa_isKept : Nat) (a_ro_numbers : Nat) (tx_length : Int32) (tx_place : Int32) (tx_stop : Int32) (tr_fruits : Int32) (tr_standings : Int32) (tr_comingFruits : Int32) (tr_comingStandings : Int32) (tr_worth : Nat → Int32) (no_apron : Int32) (no_basket : Int32) (no_ground : Int32) (no_bruised : Int32) (no_ladder : Int32) (no_helper : Int32) (no_today : Int32) (no_clock : Int32) (pa_undoable : Int32) (pa_free : Int32) (ro_size : Int32) : va_W := [(a_x, .inr (9, [.ref a_tx, .ref a_pl, .ref a_ga, .ref a_tr, .ref a_no, .ref a_pa, .ref a_ro, .ref a_mk, .ref a_x_acts])), (a_tx, .inr (8, [.ref a_tx_signs, .int tx_length, .int tx_place, .int tx_stop])), (a_ga, .inr (0, [.ref a_tr, .ref a_no, .ref a_ru])), (a_tr, .inr (3, [.ref a_tr_x, .ref a_tr_height, .ref a_tr_worth, .ref a_tr_ripe, .ref a_tr_foot, .ref a_tr_fork, .ref a_tr_settings, .int tr_fruits, .int tr_standings, .int tr_comingFruits, .int tr_comingStandings])), (a_tr_worth, .inl (cI, 16, .inl tr_worth)), (a_no, .inr (2, [.int no_apron, .int no_basket, .int no_ground, .int no_bruised, .int no_ladder, .int no_helper, .int no_today, .int no_clock])), (a_pa, .inr (4, [.ref a_pa_cells, .ref a_pa_keptCells, .ref a_pa_isKept, .int pa_undoable, .int pa_free])), (a_ro, .inr (6, [.ref a_ro_numbers, .int ro_size]))]
abbrev q_X9_count (dC : Nat → ClassId) (dI : Nat → Nat → Nat) (cI cC cZ cB cJ : ClassId) (A : Nat → Prop) (a_x : Nat) (a_tx : Nat) (a_pl : Nat) (a_ga : Nat) (a_tr : Nat) (a_no : Nat) (a_pa : Nat) (a_ro : Nat) (a_mk : Nat) (a_x_acts : Nat) (a_tx_signs : Nat) (a_ru : Nat) (a_tr_x : Nat) (a_tr_height : Nat) (a_tr_worth : Nat) (a_tr_ripe : Nat) (a_tr_foot : Nat) (a_tr_fork : Nat) (a_tr_settings : Nat) (a_pa_cells : Nat) (a_pa_keptCells : Nat) (a_pa_isKept : Nat) (a_ro_numbers : Nat) (tx_length : Int32) (tx_place : Int32) (tx_stop : Int32) (tr_fruits : Int32) (tr_standings : Int32) (tr_comingFruits : Int32) (tr_comingStandings : Int32) (tr_worth : Nat → Int32) (no_apron : Int32) (no_basket : Int32) (no_ground : Int32) (no_bruised : Int32) (no_ladder : Int32) (no_helper : Int32) (no_today : Int32) (no_clock : Int32) (pa_undoable : Int32) (pa_free : Int32) (ro_size : Int32) (post : Int32 → Prop) : Array Value → State → Outcome → State → Prop := va_Qi (fun (r : Int32) (u : Unit) => post r) (fun u t => gB (dC, dI) (tyl cI cC cZ cB cJ) A (wd_X9_count cI cC cZ cB cJ a_x a_tx a_pl a_ga a_tr a_no a_pa a_ro a_mk a_x_acts a_tx_signs a_ru a_tr_x a_tr_height a_tr_worth a_tr_ripe a_tr_foot a_tr_fork a_tr_settings a_pa_cells a_pa_keptCells a_pa_isKept a_ro_numbers tx_length tx_place tx_stop tr_fruits tr_standings tr_comingFruits tr_comingStandings tr_worth no_apron no_basket no_ground no_bruised no_ladder no_helper no_today no_clock pa_undoable pa_free ro_size) t) A
abbrev rm_X9_count : Room := { frames := 2, cells := 0, slots := 0, locals := 45 }
def wp_X9_count (post : Int32 → Prop) (p0 : Int32) (tx_length : Int32) (tr_fruits : Int32) (tr_standings : Int32) (tr_worth : Nat → Int32) (no_apron : Int32) (no_basket : Int32) (no_ground : Int32) (no_bruised : Int32) (no_ladder : Int32) (no_today : Int32) (no_clock : Int32) (pa_undoable : Int32) (ro_size : Int32) : Prop := (p0 = 0 → post tr_fruits) ∧ (p0 = 1 → post tr_standings) ∧ (p0 = 2 → post no_ladder) ∧ (p0 = 3 → post no_today) ∧ (p0 = 4 → post no_clock) ∧ (p0 = 5 → wp_X0_hanging (fun r_1 => post r_1) tr_fruits no_apron no_basket no_ground) ∧ (p0 = 6 → post no_apron) ∧ (p0 = 7 → post no_basket) ∧ (p0 = 8 → post no_ground) ∧ (p0 = 9 → post no_bruised) ∧ (p0 = 10 → wp_X0_worthOf (fun r_2 => post r_2) no_basket tr_fruits tr_worth no_bruised) ∧ (p0 = 11 → post pa_undoable) ∧ (p0 = 12 → post ro_size) ∧ (p0 = 13 → post tx_length) ∧ (¬ p0 = 0 → ¬ p0 = 1 → ¬ p0 = 2 → ¬ p0 = 3 → ¬ p0 = 4 → ¬ p0 = 5 → ¬ p0 = 6 → ¬ p0 = 7 → ¬ p0 = 8 → ¬ p0 = 9 → ¬ p0 = 10 → ¬ p0 = 11 → ¬ p0 = 12 → ¬ p0 = 13 → post (-100))
set_option maxHeartbeats 4000000 in
set_option maxRecDepth 100000 in
theorem c_X9_count (l : Launch) (dC : Nat → ClassId) (dI : Nat → Nat → Nat) (cI cC cZ cB cJ : ClassId) (a_x : Nat) (a_tx : Nat) (a_pl : Nat) (a_ga : Nat) (a_tr : Nat) (a_no : Nat) (a_pa : Nat) (a_ro : Nat) (a_mk : Nat) (a_x_acts : Nat) (a_tx_signs : Nat) (a_ru : Nat) (a_tr_x : Nat) (a_tr_height : Nat) (a_tr_worth : Nat) (a_tr_ripe : Nat) (a_tr_foot : Nat) (a_tr_fork : Nat) (a_tr_settings : Nat) (a_pa_cells : Nat) (a_pa_keptCells : Nat) (a_pa_isKept : Nat) (a_ro_numbers : Nat) (sz : Nat) (p0 : Int32) (tx_length : Int32) (tx_place : Int32) (tx_stop : Int32) (tr_fruits : Int32) (tr_standings : Int32) (tr_comingFruits : Int32) (tr_comingStandings : Int32) (tr_worth : Nat → Int32) (no_apron : Int32) (no_basket : Int32) (no_ground : Int32) (no_bruised : Int32) (no_ladder : Int32) (no_helper : Int32) (no_today : Int32) (no_clock : Int32) (pa_undoable : Int32) (pa_free : Int32) (ro_size : Int32) (post : Int32 → Prop) (hw : wp_X9_count post p0 tx_length tr_fruits tr_standings tr_worth no_apron no_basket no_ground no_bruised no_ladder no_today no_clock pa_undoable ro_size) : Met l yX9_count (gw yX9_count cX9_count 2 (some .int)) rm_X9_count (va_Pc [.ref a_x, .int p0] (gPre (dC, dI) (tyl cI cC cZ cB cJ) (wd_X9_count cI cC cZ cB cJ a_x a_tx a_pl a_ga a_tr a_no a_pa a_ro a_mk a_x_acts a_tx_signs a_ru a_tr_x a_tr_height a_tr_worth a_tr_ripe a_tr_foot a_tr_fork a_tr_settings a_pa_cells a_pa_keptCells a_pa_isKept a_ro_numbers tx_length tx_place tx_stop tr_fruits tr_standings tr_comingFruits tr_comingStandings tr_worth no_apron no_basket no_ground no_bruised no_ladder no_helper no_today no_clock pa_undoable pa_free ro_size) sz)) (q_X9_count dC dI cI cC cZ cB cJ (va_A (wd_X9_count cI cC cZ cB cJ a_x a_tx a_pl a_ga a_tr a_no a_pa a_ro a_mk a_x_acts a_tx_signs a_ru a_tr_x a_tr_height a_tr_worth a_tr_ripe a_tr_foot a_tr_fork a_tr_settings a_pa_cells a_pa_keptCells a_pa_isKept a_ro_numbers tx_length tx_place tx_stop tr_fruits tr_standings tr_comingFruits tr_comingStandings tr_worth no_apron no_basket no_ground no_bruised no_ladder no_helper no_today no_clock pa_undoable pa_free ro_size) sz) a_x a_tx a_pl a_ga a_tr a_no a_pa a_ro a_mk a_x_acts a_tx_signs a_ru a_tr_x a_tr_height a_tr_worth a_tr_ripe a_tr_foot a_tr_fork a_tr_settings a_pa_cells a_pa_keptCells a_pa_isKept a_ro_numbers tx_length tx_place tx_stop tr_fruits tr_standings tr_comingFruits tr_comingStandings tr_worth no_apron no_basket no_ground no_bruised no_ladder no_helper no_today no_clock pa_undoable pa_free ro_size post) 0 0 (va_A (wd_X9_count cI cC cZ cB cJ a_x a_tx a_pl a_ga a_tr a_no a_pa a_ro a_mk a_x_acts a_tx_signs a_ru a_tr_x a_tr_height a_tr_worth a_tr_ripe a_tr_foot a_tr_fork a_tr_settings a_pa_cells a_pa_keptCells a_pa_isKept a_ro_numbers tx_length tx_place tx_stop tr_fruits tr_standings tr_comingFruits tr_comingStandings tr_worth no_apron no_basket no_ground no_bruised no_ladder no_helper no_today no_clock pa_undoable pa_free ro_size) sz) := by
  refine g_enter (own := RX9) (dC, dI) (tyl cI cC cZ cB cJ) (wd_X9_count cI cC cZ cB cJ a_x a_tx a_pl a_ga a_tr a_no a_pa a_ro a_mk a_x_acts a_tx_signs a_ru a_tr_x a_tr_height a_tr_worth a_tr_ripe a_tr_foot a_tr_fork a_tr_settings a_pa_cells a_pa_keptCells a_pa_isKept a_ro_numbers tx_length tx_place tx_stop tr_fruits tr_standings tr_comingFruits tr_comingStandings tr_worth no_apron no_basket no_ground no_bruised no_ladder no_helper no_today no_clock pa_undoable pa_free ro_size) sz [.ref a_x, .int p0] (fun A => q_X9_count dC dI cI cC cZ cB cJ A a_x a_tx a_pl a_ga a_tr a_no a_pa a_ro a_mk a_x_acts a_tx_signs a_ru a_tr_x a_tr_height a_tr_worth a_tr_ripe a_tr_foot a_tr_fork a_tr_settings a_pa_cells a_pa_keptCells a_pa_isKept a_ro_numbers tx_length tx_place tx_stop tr_fruits tr_standings tr_comingFruits tr_comingStandings tr_worth no_apron no_basket no_ground no_bruised no_ladder no_helper no_today no_clock pa_undoable pa_free ro_size post) (by decide) rfl (Nat.le_of_ble_eq_true rfl) ?_
  intro p e s m args below meth c A H locs ls C0 hP hD hS hl
  have hl : lv_has ls 2 [(0, .ref a_x), (1, .int p0)] := hl
  obtain ⟨hx, hb, hr, hml, hown, hts, hlocks, hA, hK, hN, tL, tM, hZL, hTL, hZM, hTM, hZX⟩ := id C0
  have hp := hw
  unfold wp_X9_count at hp
  refine lv_iload_n hx hb eX9_count_0.1 rfl (lv_at hl 1 rfl) ?_
  by_cases hc0 : p0 = 0
  · have hp := hp.1 hc0
    refine lv_tableIn (tgt := 72) hx hb eX9_count_0.2.1 (by first | (rw [hc0]; done) | (rw [hc0]; decide)) (by first | (rw [hc0]; done) | (rw [hc0]; decide)) (by first | (rw [hc0]; done) | (rw [hc0]; rfl)) (by decide) ?_
    refine lv_aload_n hx hb eX9_count_0.2.2.1 rfl (lv_at hl 0 rfl) ?_
    refine va_get (D := (dC, dI)) (ci := 9) (v := .ref a_tr) (C := RX9) (T := TX9) (N := 9) hx hb hts i_X9 hown hK hP 0 rfl rfl 3 (Nat.le_of_ble_eq_true rfl) (hts _ q_74) (fun _ h9 => h9) rfl eX9_count_0.2.2.2.1 ?_
    refine va_get (D := (dC, dI)) (ci := 3) (v := .int tr_fruits) (C := RX3) (T := TX3) (N := 11) hx hb hts i_X3 hown hK hP 3 rfl rfl 7 (Nat.le_of_ble_eq_true rfl) (hts _ q_539) (fun _ h9 => h9) rfl eX9_count_0.2.2.2.2.1 ?_
    exact W.iret (v := tr_fruits) hx hb hr (fun t ht hW => ⟨⟨tr_fruits, (), rfl, hp, by rw [ht]; exact hP, va_K.moved hW.alike hK, hD⟩, hS.F ht⟩) hS.2.2 eX9_count_0.2.2.2.2.2.1
  by_cases hc1 : p0 = 1
  · have hp := hp.2.1 hc1
    refine lv_tableIn (tgt := 80) hx hb eX9_count_0.2.1 (by first | (rw [hc1]; done) | (rw [hc1]; decide)) (by first | (rw [hc1]; done) | (rw [hc1]; decide)) (by first | (rw [hc1]; done) | (rw [hc1]; rfl)) (by decide) ?_
    refine lv_aload_n hx hb eX9_count_0.2.2.2.2.2.2.1 rfl (lv_at hl 0 rfl) ?_
    refine va_get (D := (dC, dI)) (ci := 9) (v := .ref a_tr) (C := RX9) (T := TX9) (N := 9) hx hb hts i_X9 hown hK hP 0 rfl rfl 3 (Nat.le_of_ble_eq_true rfl) (hts _ q_74) (fun _ h9 => h9) rfl eX9_count_0.2.2.2.2.2.2.2.1 ?_
    refine va_get (D := (dC, dI)) (ci := 3) (v := .int tr_standings) (C := RX3) (T := TX3) (N := 11) hx hb hts i_X3 hown hK hP 3 rfl rfl 8 (Nat.le_of_ble_eq_true rfl) (hts _ q_415) (fun _ h9 => h9) rfl eX9_count_0.2.2.2.2.2.2.2.2.1 ?_
    exact W.iret (v := tr_standings) hx hb hr (fun t ht hW => ⟨⟨tr_standings, (), rfl, hp, by rw [ht]; exact hP, va_K.moved hW.alike hK, hD⟩, hS.F ht⟩) hS.2.2 eX9_count_0.2.2.2.2.2.2.2.2.2.1
  by_cases hc2 : p0 = 2
  · have hp := hp.2.2.1 hc2
    refine lv_tableIn (tgt := 88) hx hb eX9_count_0.2.1 (by first | (rw [hc2]; done) | (rw [hc2]; decide)) (by first | (rw [hc2]; done) | (rw [hc2]; decide)) (by first | (rw [hc2]; done) | (rw [hc2]; rfl)) (by decide) ?_
    refine lv_aload_n hx hb eX9_count_0.2.2.2.2.2.2.2.2.2.2.1 rfl (lv_at hl 0 rfl) ?_
    refine va_get (D := (dC, dI)) (ci := 9) (v := .ref a_no) (C := RX9) (T := TX9) (N := 9) hx hb hts i_X9 hown hK hP 0 rfl rfl 4 (Nat.le_of_ble_eq_true rfl) (hts _ q_179) (fun _ h9 => h9) rfl eX9_count_0.2.2.2.2.2.2.2.2.2.2.2.1 ?_
    refine va_get (D := (dC, dI)) (ci := 2) (v := .int no_ladder) (C := RX2) (T := TX2) (N := 8) hx hb hts i_X2 hown hK hP 5 rfl rfl 4 (Nat.le_of_ble_eq_true rfl) (hts _ q_497) (fun _ h9 => h9) rfl eX9_count_0.2.2.2.2.2.2.2.2.2.2.2.2.1 ?_
    exact W.iret (v := no_ladder) hx hb hr (fun t ht hW => ⟨⟨no_ladder, (), rfl, hp, by rw [ht]; exact hP, va_K.moved hW.alike hK, hD⟩, hS.F ht⟩) hS.2.2 eX9_count_0.2.2.2.2.2.2.2.2.2.2.2.2.2.1
  by_cases hc3 : p0 = 3
  · have hp := hp.2.2.2.1 hc3
    refine lv_tableIn (tgt := 96) hx hb eX9_count_0.2.1 (by first | (rw [hc3]; done) | (rw [hc3]; decide)) (by first | (rw [hc3]; done) | (rw [hc3]; decide)) (by first | (rw [hc3]; done) | (rw [hc3]; rfl)) (by decide) ?_
    refine lv_aload_n hx hb eX9_count_0.2.2.2.2.2.2.2.2.2.2.2.2.2.2.1 rfl (lv_at hl 0 rfl) ?_
    refine va_get (D := (dC, dI)) (ci := 9) (v := .ref a_no) (C := RX9) (T := TX9) (N := 9) hx hb hts i_X9 hown hK hP 0 rfl rfl 4 (Nat.le_of_ble_eq_true rfl) (hts _ q_179) (fun _ h9 => h9) rfl eX9_count_0.2.2.2.2.2.2.2.2.2.2.2.2.2.2.2 ?_
    refine va_get (D := (dC, dI)) (ci := 2) (v := .int no_today) (C := RX2) (T := TX2) (N := 8) hx hb hts i_X2 hown hK hP 5 rfl rfl 6 (Nat.le_of_ble_eq_true rfl) (hts _ q_542) (fun _ h9 => h9) rfl eX9_count_100.1 ?_
    exact W.iret (v := no_today) hx hb hr (fun t ht hW => ⟨⟨no_today, (), rfl, hp, by rw [ht]; exact hP, va_K.moved hW.alike hK, hD⟩, hS.F ht⟩) hS.2.2 eX9_count_100.2.1
  by_cases hc4 : p0 = 4
  · have hp := hp.2.2.2.2.1 hc4
    refine lv_tableIn (tgt := 104) hx hb eX9_count_0.2.1 (by first | (rw [hc4]; done) | (rw [hc4]; decide)) (by first | (rw [hc4]; done) | (rw [hc4]; decide)) (by first | (rw [hc4]; done) | (rw [hc4]; rfl)) (by decide) ?_
    refine lv_aload_n hx hb eX9_count_100.2.2.1 rfl (lv_at hl 0 rfl) ?_
    refine va_get (D := (dC, dI)) (ci := 9) (v := .ref a_no) (C := RX9) (T := TX9) (N := 9) hx hb hts i_X9 hown hK hP 0 rfl rfl 4 (Nat.le_of_ble_eq_true rfl) (hts _ q_179) (fun _ h9 => h9) rfl eX9_count_100.2.2.2.1 ?_
    refine va_get (D := (dC, dI)) (ci := 2) (v := .int no_clock) (C := RX2) (T := TX2) (N := 8) hx hb hts i_X2 hown hK hP 5 rfl rfl 7 (Nat.le_of_ble_eq_true rfl) (hts _ q_634) (fun _ h9 => h9) rfl eX9_count_100.2.2.2.2.1 ?_
    exact W.iret (v := no_clock) hx hb hr (fun t ht hW => ⟨⟨no_clock, (), rfl, hp, by rw [ht]; exact hP, va_K.moved hW.alike hK, hD⟩, hS.F ht⟩) hS.2.2 eX9_count_100.2.2.2.2.2.1
  by_cases hc5 : p0 = 5
  · have hp := hp.2.2.2.2.2.1 hc5
    refine lv_tableIn (tgt := 112) hx hb eX9_count_0.2.1 (by first | (rw [hc5]; done) | (rw [hc5]; decide)) (by first | (rw [hc5]; done) | (rw [hc5]; decide)) (by first | (rw [hc5]; done) | (rw [hc5]; rfl)) (by decide) ?_
    refine lv_aload_n hx hb eX9_count_100.2.2.2.2.2.2.1 rfl (lv_at hl 0 rfl) ?_
    refine va_get (D := (dC, dI)) (ci := 9) (v := .ref a_ga) (C := RX9) (T := TX9) (N := 9) hx hb hts i_X9 hown hK hP 0 rfl rfl 2 (Nat.le_of_ble_eq_true rfl) (hts _ q_146) (fun _ h9 => h9) rfl eX9_count_100.2.2.2.2.2.2.2.1 ?_
    refine g_calli (wc := (wd_X0_hanging cI cC cZ cB cJ a_ga a_tr a_no a_ru a_tr_x a_tr_height a_tr_worth a_tr_ripe a_tr_foot a_tr_fork a_tr_settings tr_fruits tr_standings tr_comingFruits tr_comingStandings no_apron no_basket no_ground no_bruised no_ladder no_helper no_today no_clock)) hP hD hS hA [2, 3, 5] [0, 1, 4, 6, 7] rfl rfl rfl rfl (g_runV (As := []) (rest := []) C0 hP hD hS [2, 3, 5] rfl rfl 2 0 rfl rfl (c_X0_hanging l dC dI cI cC cZ cB cJ a_ga a_tr a_no a_ru a_tr_x a_tr_height a_tr_worth a_tr_ripe a_tr_foot a_tr_fork a_tr_settings H.size tr_fruits tr_standings tr_comingFruits tr_comingStandings no_apron no_basket no_ground no_bruised no_ladder no_helper no_today no_clock _ hp) q_186 q_190 q_188 q_189 q_187 h_X0_hanging rfl rfl ⟨Nat.le_of_ble_eq_true rfl, Nat.le_of_ble_eq_true rfl⟩ rfl rfl hl.1 rfl (lv_room (Nat.le_of_ble_eq_true rfl)) eX9_count_100.2.2.2.2.2.2.2.2.1 ⟨Nat.zero_le _, Nat.zero_le _⟩) (fun r_1 u H locs hp hP hD hS => ?_)
    have hPD := PDs (ws' := (wd_X9_count cI cC cZ cB cJ a_x a_tx a_pl a_ga a_tr a_no a_pa a_ro a_mk a_x_acts a_tx_signs a_ru a_tr_x a_tr_height a_tr_worth a_tr_ripe a_tr_foot a_tr_fork a_tr_settings a_pa_cells a_pa_keptCells a_pa_isKept a_ro_numbers tx_length tx_place tx_stop tr_fruits tr_standings tr_comingFruits tr_comingStandings tr_worth no_apron no_basket no_ground no_bruised no_ladder no_helper no_today no_clock pa_undoable pa_free ro_size)) hP hD [0, 1, 5, 6, 2, 7, 3, 4] (by decide) rfl
    have hP := hPD.1
    have hD := hPD.2
    exact W.iret (v := r_1) hx hb hr (fun t ht hW => ⟨⟨r_1, (), rfl, hp, by rw [ht]; exact hP, va_K.moved hW.alike hK, hD⟩, hS.F ht⟩) hS.2.2 eX9_count_100.2.2.2.2.2.2.2.2.2.1
  by_cases hc6 : p0 = 6
  · have hp := hp.2.2.2.2.2.2.1 hc6
    refine lv_tableIn (tgt := 120) hx hb eX9_count_0.2.1 (by first | (rw [hc6]; done) | (rw [hc6]; decide)) (by first | (rw [hc6]; done) | (rw [hc6]; decide)) (by first | (rw [hc6]; done) | (rw [hc6]; rfl)) (by decide) ?_
    refine lv_aload_n hx hb eX9_count_100.2.2.2.2.2.2.2.2.2.2.1 rfl (lv_at hl 0 rfl) ?_
    refine va_get (D := (dC, dI)) (ci := 9) (v := .ref a_no) (C := RX9) (T := TX9) (N := 9) hx hb hts i_X9 hown hK hP 0 rfl rfl 4 (Nat.le_of_ble_eq_true rfl) (hts _ q_179) (fun _ h9 => h9) rfl eX9_count_100.2.2.2.2.2.2.2.2.2.2.2.1 ?_
    refine va_get (D := (dC, dI)) (ci := 2) (v := .int no_apron) (C := RX2) (T := TX2) (N := 8) hx hb hts i_X2 hown hK hP 5 rfl rfl 0 (Nat.le_of_ble_eq_true rfl) (hts _ q_541) (fun _ h9 => h9) rfl eX9_count_100.2.2.2.2.2.2.2.2.2.2.2.2.1 ?_
    exact W.iret (v := no_apron) hx hb hr (fun t ht hW => ⟨⟨no_apron, (), rfl, hp, by rw [ht]; exact hP, va_K.moved hW.alike hK, hD⟩, hS.F ht⟩) hS.2.2 eX9_count_100.2.2.2.2.2.2.2.2.2.2.2.2.2.1
  by_cases hc7 : p0 = 7
  · have hp := hp.2.2.2.2.2.2.2.1 hc7
    refine lv_tableIn (tgt := 128) hx hb eX9_count_0.2.1 (by first | (rw [hc7]; done) | (rw [hc7]; decide)) (by first | (rw [hc7]; done) | (rw [hc7]; decide)) (by first | (rw [hc7]; done) | (rw [hc7]; rfl)) (by decide) ?_
    refine lv_aload_n hx hb eX9_count_100.2.2.2.2.2.2.2.2.2.2.2.2.2.2.1 rfl (lv_at hl 0 rfl) ?_
    refine va_get (D := (dC, dI)) (ci := 9) (v := .ref a_no) (C := RX9) (T := TX9) (N := 9) hx hb hts i_X9 hown hK hP 0 rfl rfl 4 (Nat.le_of_ble_eq_true rfl) (hts _ q_179) (fun _ h9 => h9) rfl eX9_count_100.2.2.2.2.2.2.2.2.2.2.2.2.2.2.2 ?_
    refine va_get (D := (dC, dI)) (ci := 2) (v := .int no_basket) (C := RX2) (T := TX2) (N := 8) hx hb hts i_X2 hown hK hP 5 rfl rfl 1 (Nat.le_of_ble_eq_true rfl) (hts _ q_635) (fun _ h9 => h9) rfl eX9_count_132.1 ?_
    exact W.iret (v := no_basket) hx hb hr (fun t ht hW => ⟨⟨no_basket, (), rfl, hp, by rw [ht]; exact hP, va_K.moved hW.alike hK, hD⟩, hS.F ht⟩) hS.2.2 eX9_count_132.2.1
  by_cases hc8 : p0 = 8
  · have hp := hp.2.2.2.2.2.2.2.2.1 hc8
    refine lv_tableIn (tgt := 136) hx hb eX9_count_0.2.1 (by first | (rw [hc8]; done) | (rw [hc8]; decide)) (by first | (rw [hc8]; done) | (rw [hc8]; decide)) (by first | (rw [hc8]; done) | (rw [hc8]; rfl)) (by decide) ?_
    refine lv_aload_n hx hb eX9_count_132.2.2.1 rfl (lv_at hl 0 rfl) ?_
    refine va_get (D := (dC, dI)) (ci := 9) (v := .ref a_no) (C := RX9) (T := TX9) (N := 9) hx hb hts i_X9 hown hK hP 0 rfl rfl 4 (Nat.le_of_ble_eq_true rfl) (hts _ q_179) (fun _ h9 => h9) rfl eX9_count_132.2.2.2.1 ?_
    refine va_get (D := (dC, dI)) (ci := 2) (v := .int no_ground) (C := RX2) (T := TX2) (N := 8) hx hb hts i_X2 hown hK hP 5 rfl rfl 2 (Nat.le_of_ble_eq_true rfl) (hts _ q_636) (fun _ h9 => h9) rfl eX9_count_132.2.2.2.2.1 ?_
    exact W.iret (v := no_ground) hx hb hr (fun t ht hW => ⟨⟨no_ground, (), rfl, hp, by rw [ht]; exact hP, va_K.moved hW.alike hK, hD⟩, hS.F ht⟩) hS.2.2 eX9_count_132.2.2.2.2.2.1
  by_cases hc9 : p0 = 9
  · have hp := hp.2.2.2.2.2.2.2.2.2.1 hc9
    refine lv_tableIn (tgt := 144) hx hb eX9_count_0.2.1 (by first | (rw [hc9]; done) | (rw [hc9]; decide)) (by first | (rw [hc9]; done) | (rw [hc9]; decide)) (by first | (rw [hc9]; done) | (rw [hc9]; rfl)) (by decide) ?_
    refine lv_aload_n hx hb eX9_count_132.2.2.2.2.2.2.1 rfl (lv_at hl 0 rfl) ?_
    refine va_get (D := (dC, dI)) (ci := 9) (v := .ref a_no) (C := RX9) (T := TX9) (N := 9) hx hb hts i_X9 hown hK hP 0 rfl rfl 4 (Nat.le_of_ble_eq_true rfl) (hts _ q_179) (fun _ h9 => h9) rfl eX9_count_132.2.2.2.2.2.2.2.1 ?_
    refine va_get (D := (dC, dI)) (ci := 2) (v := .int no_bruised) (C := RX2) (T := TX2) (N := 8) hx hb hts i_X2 hown hK hP 5 rfl rfl 3 (Nat.le_of_ble_eq_true rfl) (hts _ q_185) (fun _ h9 => h9) rfl eX9_count_132.2.2.2.2.2.2.2.2.1 ?_
    exact W.iret (v := no_bruised) hx hb hr (fun t ht hW => ⟨⟨no_bruised, (), rfl, hp, by rw [ht]; exact hP, va_K.moved hW.alike hK, hD⟩, hS.F ht⟩) hS.2.2 eX9_count_132.2.2.2.2.2.2.2.2.2.1
  by_cases hc10 : p0 = 10
  · have hp := hp.2.2.2.2.2.2.2.2.2.2.1 hc10
    refine lv_tableIn (tgt := 152) hx hb eX9_count_0.2.1 (by first | (rw [hc10]; done) | (rw [hc10]; decide)) (by first | (rw [hc10]; done) | (rw [hc10]; decide)) (by first | (rw [hc10]; done) | (rw [hc10]; rfl)) (by decide) ?_
    refine lv_aload_n hx hb eX9_count_132.2.2.2.2.2.2.2.2.2.2.1 rfl (lv_at hl 0 rfl) ?_
    refine va_get (D := (dC, dI)) (ci := 9) (v := .ref a_ga) (C := RX9) (T := TX9) (N := 9) hx hb hts i_X9 hown hK hP 0 rfl rfl 2 (Nat.le_of_ble_eq_true rfl) (hts _ q_146) (fun _ h9 => h9) rfl eX9_count_132.2.2.2.2.2.2.2.2.2.2.2.1 ?_
    refine lv_aload_n hx hb eX9_count_132.2.2.2.2.2.2.2.2.2.2.2.2.1 rfl (lv_at hl 0 rfl) ?_
    refine va_get (D := (dC, dI)) (ci := 9) (v := .ref a_no) (C := RX9) (T := TX9) (N := 9) hx hb hts i_X9 hown hK hP 0 rfl rfl 4 (Nat.le_of_ble_eq_true rfl) (hts _ q_179) (fun _ h9 => h9) rfl eX9_count_132.2.2.2.2.2.2.2.2.2.2.2.2.2.1 ?_
    refine va_get (D := (dC, dI)) (ci := 2) (v := .int no_basket) (C := RX2) (T := TX2) (N := 8) hx hb hts i_X2 hown hK hP 5 rfl rfl 1 (Nat.le_of_ble_eq_true rfl) (hts _ q_635) (fun _ h9 => h9) rfl eX9_count_132.2.2.2.2.2.2.2.2.2.2.2.2.2.2.1 ?_
    refine g_calli (wc := (wd_X0_worthOf cI cC cZ cB cJ a_ga a_tr a_no a_ru a_tr_x a_tr_height a_tr_worth a_tr_ripe a_tr_foot a_tr_fork a_tr_settings tr_fruits tr_standings tr_comingFruits tr_comingStandings tr_worth no_apron no_basket no_ground no_bruised no_ladder no_helper no_today no_clock)) hP hD hS hA [2, 3, 4, 5] [0, 1, 6, 7] rfl rfl rfl rfl (g_runV (As := [.int no_basket]) (rest := []) C0 hP hD hS [2, 3, 4, 5] rfl rfl 2 0 rfl rfl (c_X0_worthOf l dC dI cI cC cZ cB cJ a_ga a_tr a_no a_ru a_tr_x a_tr_height a_tr_worth a_tr_ripe a_tr_foot a_tr_fork a_tr_settings H.size no_basket tr_fruits tr_standings tr_comingFruits tr_comingStandings tr_worth no_apron no_basket no_ground no_bruised no_ladder no_helper no_today no_clock _ hp) q_297 q_417 q_298 q_299 q_187 h_X0_worthOf rfl rfl ⟨Nat.le_of_ble_eq_true rfl, Nat.le_of_ble_eq_true rfl⟩ rfl rfl hl.1 rfl (lv_room (Nat.le_of_ble_eq_true rfl)) eX9_count_132.2.2.2.2.2.2.2.2.2.2.2.2.2.2.2 ⟨Nat.zero_le _, Nat.zero_le _⟩) (fun r_2 u H locs hp hP hD hS => ?_)
    have hPD := PDs (ws' := (wd_X9_count cI cC cZ cB cJ a_x a_tx a_pl a_ga a_tr a_no a_pa a_ro a_mk a_x_acts a_tx_signs a_ru a_tr_x a_tr_height a_tr_worth a_tr_ripe a_tr_foot a_tr_fork a_tr_settings a_pa_cells a_pa_keptCells a_pa_isKept a_ro_numbers tx_length tx_place tx_stop tr_fruits tr_standings tr_comingFruits tr_comingStandings tr_worth no_apron no_basket no_ground no_bruised no_ladder no_helper no_today no_clock pa_undoable pa_free ro_size)) hP hD [0, 1, 4, 5, 6, 7, 2, 3] (by decide) rfl
    have hP := hPD.1
    have hD := hPD.2
    exact W.iret (v := r_2) hx hb hr (fun t ht hW => ⟨⟨r_2, (), rfl, hp, by rw [ht]; exact hP, va_K.moved hW.alike hK, hD⟩, hS.F ht⟩) hS.2.2 eX9_count_166.1
  by_cases hc11 : p0 = 11
  · have hp := hp.2.2.2.2.2.2.2.2.2.2.2.1 hc11
    refine lv_tableIn (tgt := 167) hx hb eX9_count_0.2.1 (by first | (rw [hc11]; done) | (rw [hc11]; decide)) (by first | (rw [hc11]; done) | (rw [hc11]; decide)) (by first | (rw [hc11]; done) | (rw [hc11]; rfl)) (by decide) ?_
    refine lv_aload_n hx hb eX9_count_166.2.1 rfl (lv_at hl 0 rfl) ?_
    refine va_get (D := (dC, dI)) (ci := 9) (v := .ref a_pa) (C := RX9) (T := TX9) (N := 9) hx hb hts i_X9 hown hK hP 0 rfl rfl 5 (Nat.le_of_ble_eq_true rfl) (hts _ q_91) (fun _ h9 => h9) rfl eX9_count_166.2.2.1 ?_
    refine va_get (D := (dC, dI)) (ci := 4) (v := .int pa_undoable) (C := RX4) (T := TX4) (N := 5) hx hb hts i_X4 hown hK hP 6 rfl rfl 3 (Nat.le_of_ble_eq_true rfl) (hts _ q_406) (fun _ h9 => h9) rfl eX9_count_166.2.2.2.1 ?_
    exact W.iret (v := pa_undoable) hx hb hr (fun t ht hW => ⟨⟨pa_undoable, (), rfl, hp, by rw [ht]; exact hP, va_K.moved hW.alike hK, hD⟩, hS.F ht⟩) hS.2.2 eX9_count_166.2.2.2.2.1
  by_cases hc12 : p0 = 12
  · have hp := hp.2.2.2.2.2.2.2.2.2.2.2.2.1 hc12
    refine lv_tableIn (tgt := 175) hx hb eX9_count_0.2.1 (by first | (rw [hc12]; done) | (rw [hc12]; decide)) (by first | (rw [hc12]; done) | (rw [hc12]; decide)) (by first | (rw [hc12]; done) | (rw [hc12]; rfl)) (by decide) ?_
    refine lv_aload_n hx hb eX9_count_166.2.2.2.2.2.1 rfl (lv_at hl 0 rfl) ?_
    refine va_get (D := (dC, dI)) (ci := 9) (v := .ref a_ro) (C := RX9) (T := TX9) (N := 9) hx hb hts i_X9 hown hK hP 0 rfl rfl 6 (Nat.le_of_ble_eq_true rfl) (hts _ q_363) (fun _ h9 => h9) rfl eX9_count_166.2.2.2.2.2.2.1 ?_
    refine va_get (D := (dC, dI)) (ci := 6) (v := .int ro_size) (C := RX6) (T := TX6) (N := 2) hx hb hts i_X6 hown hK hP 7 rfl rfl 1 (Nat.le_of_ble_eq_true rfl) (hts _ q_461) (fun _ h9 => h9) rfl eX9_count_166.2.2.2.2.2.2.2.1 ?_
    exact W.iret (v := ro_size) hx hb hr (fun t ht hW => ⟨⟨ro_size, (), rfl, hp, by rw [ht]; exact hP, va_K.moved hW.alike hK, hD⟩, hS.F ht⟩) hS.2.2 eX9_count_166.2.2.2.2.2.2.2.2.1
  by_cases hc13 : p0 = 13
  · have hp := hp.2.2.2.2.2.2.2.2.2.2.2.2.2.1 hc13
    refine lv_tableIn (tgt := 183) hx hb eX9_count_0.2.1 (by first | (rw [hc13]; done) | (rw [hc13]; decide)) (by first | (rw [hc13]; done) | (rw [hc13]; decide)) (by first | (rw [hc13]; done) | (rw [hc13]; rfl)) (by decide) ?_
    refine lv_aload_n hx hb eX9_count_166.2.2.2.2.2.2.2.2.2.1 rfl (lv_at hl 0 rfl) ?_
    refine va_get (D := (dC, dI)) (ci := 9) (v := .ref a_tx) (C := RX9) (T := TX9) (N := 9) hx hb hts i_X9 hown hK hP 0 rfl rfl 0 (Nat.le_of_ble_eq_true rfl) (hts _ q_3) (fun _ h9 => h9) rfl eX9_count_166.2.2.2.2.2.2.2.2.2.2.1 ?_
    refine va_get (D := (dC, dI)) (ci := 8) (v := .int tx_length) (C := RX8) (T := TX8) (N := 4) hx hb hts i_X8 hown hK hP 1 rfl rfl 1 (Nat.le_of_ble_eq_true rfl) (hts _ q_73) (fun _ h9 => h9) rfl eX9_count_166.2.2.2.2.2.2.2.2.2.2.2.1 ?_
    exact W.iret (v := tx_length) hx hb hr (fun t ht hW => ⟨⟨tx_length, (), rfl, hp, by rw [ht]; exact hP, va_K.moved hW.alike hK, hD⟩, hS.F ht⟩) hS.2.2 eX9_count_166.2.2.2.2.2.2.2.2.2.2.2.2.1
  have hp := hp.2.2.2.2.2.2.2.2.2.2.2.2.2.2 hc0 hc1 hc2 hc3 hc4 hc5 hc6 hc7 hc8 hc9 hc10 hc11 hc12 hc13
  have key : W p l e rm_X9_count s m args below meth c H locs 0 0 (MQ below (q_X9_count dC dI cI cC cZ cB cJ A a_x a_tx a_pl a_ga a_tr a_no a_pa a_ro a_mk a_x_acts a_tx_signs a_ru a_tr_x a_tr_height a_tr_worth a_tr_ripe a_tr_foot a_tr_fork a_tr_settings a_pa_cells a_pa_keptCells a_pa_isKept a_ro_numbers tx_length tx_place tx_stop tr_fruits tr_standings tr_comingFruits tr_comingStandings tr_worth no_apron no_basket no_ground no_bruised no_ladder no_helper no_today no_clock pa_undoable pa_free ro_size post) args s 0 0 A) (F0 m 191 ls []) := by
    refine lv_bipush (v := (-100)) hx hb eX9_count_166.2.2.2.2.2.2.2.2.2.2.2.2.2.1 (by decide) ?_
    exact W.iret (v := (-100)) hx hb hr (fun t ht hW => ⟨⟨(-100), (), rfl, hp, by rw [ht]; exact hP, va_K.moved hW.alike hK, hD⟩, hS.F ht⟩) hS.2.2 eX9_count_166.2.2.2.2.2.2.2.2.2.2.2.2.2.2
  exact lv_tableOut (tgt := 191) hx hb eX9_count_0.2.1 (by have g0 := lv_neT (a := 0) hc0 rfl; have g1 := lv_neT (a := 1) hc1 rfl; have g2 := lv_neT (a := 2) hc2 rfl; have g3 := lv_neT (a := 3) hc3 rfl; have g4 := lv_neT (a := 4) hc4 rfl; have g5 := lv_neT (a := 5) hc5 rfl; have g6 := lv_neT (a := 6) hc6 rfl; have g7 := lv_neT (a := 7) hc7 rfl; have g8 := lv_neT (a := 8) hc8 rfl; have g9 := lv_neT (a := 9) hc9 rfl; have g10 := lv_neT (a := 10) hc10 rfl; have g11 := lv_neT (a := 11) hc11 rfl; have g12 := lv_neT (a := 12) hc12 rfl; have g13 := lv_neT (a := 13) hc13 rfl; omega) (by decide) key
abbrev wd_X9_row (cI cC cZ cB cJ : ClassId) (a_x : Nat) (a_tx : Nat) (a_pl : Nat) (a_ga : Nat) (a_tr : Nat) (a_no : Nat) (a_pa : Nat) (a_ro : Nat) (a_mk : Nat) (a_x_acts : Nat) (a_ro_numbers : Nat) (ro_size : Int32) (ro_numbers : Nat → Int32) : va_W := [(a_x, .inr (9, [.ref a_tx, .ref a_pl, .ref a_ga, .ref a_tr, .ref a_no, .ref a_pa, .ref a_ro, .ref a_mk, .ref a_x_acts])), (a_ro, .inr (6, [.ref a_ro_numbers, .int ro_size])), (a_ro_numbers, .inl (cI, 16, .inl ro_numbers))]
abbrev q_X9_row (dC : Nat → ClassId) (dI : Nat → Nat → Nat) (cI cC cZ cB cJ : ClassId) (A : Nat → Prop) (a_x : Nat) (a_tx : Nat) (a_pl : Nat) (a_ga : Nat) (a_tr : Nat) (a_no : Nat) (a_pa : Nat) (a_ro : Nat) (a_mk : Nat) (a_x_acts : Nat) (a_ro_numbers : Nat) (ro_size : Int32) (ro_numbers : Nat → Int32) (post : Int32 → Prop) : Array Value → State → Outcome → State → Prop := va_Qi (fun (r : Int32) (u : Unit) => post r) (fun u t => gB (dC, dI) (tyl cI cC cZ cB cJ) A (wd_X9_row cI cC cZ cB cJ a_x a_tx a_pl a_ga a_tr a_no a_pa a_ro a_mk a_x_acts a_ro_numbers ro_size ro_numbers) t) A
abbrev rm_X9_row : Room := { frames := 6, cells := 1, slots := 6, locals := 100 }
def wp_X9_row (post : Int32 → Prop) (postx : Prop) (p0 : Int32) (ro_size : Int32) (ro_numbers : Nat → Int32) : Prop := (p0 < 0 → postx) ∧ (¬ p0 < 0 → (p0 < ro_size → vp_in p0 16 ∧ (post (ro_numbers p0.toNatClampNeg))) ∧ (¬ p0 < ro_size → postx))
set_option maxHeartbeats 4000000 in
set_option maxRecDepth 100000 in
theorem c_X9_row (l : Launch) (hl9 : l.stackTraces = false) (dC : Nat → ClassId) (dI : Nat → Nat → Nat) (cI cC cZ cB cJ : ClassId) (a_x : Nat) (a_tx : Nat) (a_pl : Nat) (a_ga : Nat) (a_tr : Nat) (a_no : Nat) (a_pa : Nat) (a_ro : Nat) (a_mk : Nat) (a_x_acts : Nat) (a_ro_numbers : Nat) (sz : Nat) (p0 : Int32) (ro_size : Int32) (ro_numbers : Nat → Int32) (post : Int32 → Prop) (postx : Prop) (hw : wp_X9_row post postx p0 ro_size ro_numbers) : vx_Met l yX9_row (gw yX9_row cX9_row 2 (some .int)) rm_X9_row (va_Pc [.ref a_x, .int p0] (gPre (dC, dI) (tyl cI cC cZ cB cJ) (wd_X9_row cI cC cZ cB cJ a_x a_tx a_pl a_ga a_tr a_no a_pa a_ro a_mk a_x_acts a_ro_numbers ro_size ro_numbers) sz)) (q_X9_row dC dI cI cC cZ cB cJ (va_A (wd_X9_row cI cC cZ cB cJ a_x a_tx a_pl a_ga a_tr a_no a_pa a_ro a_mk a_x_acts a_ro_numbers ro_size ro_numbers) sz) a_x a_tx a_pl a_ga a_tr a_no a_pa a_ro a_mk a_x_acts a_ro_numbers ro_size ro_numbers post) (gXC (dC, dI) (tyl cI cC cZ cB cJ) (va_A (wd_X9_row cI cC cZ cB cJ a_x a_tx a_pl a_ga a_tr a_no a_pa a_ro a_mk a_x_acts a_ro_numbers ro_size ro_numbers) sz) (wd_X9_row cI cC cZ cB cJ a_x a_tx a_pl a_ga a_tr a_no a_pa a_ro a_mk a_x_acts a_ro_numbers ro_size ro_numbers) postx) 1 6 (va_A (wd_X9_row cI cC cZ cB cJ a_x a_tx a_pl a_ga a_tr a_no a_pa a_ro a_mk a_x_acts a_ro_numbers ro_size ro_numbers) sz) := by
  refine g_enterX (own := RX9) (dC, dI) (tyl cI cC cZ cB cJ) (wd_X9_row cI cC cZ cB cJ a_x a_tx a_pl a_ga a_tr a_no a_pa a_ro a_mk a_x_acts a_ro_numbers ro_size ro_numbers) sz [.ref a_x, .int p0] (fun A => q_X9_row dC dI cI cC cZ cB cJ A a_x a_tx a_pl a_ga a_tr a_no a_pa a_ro a_mk a_x_acts a_ro_numbers ro_size ro_numbers post) (fun A => (gXC (dC, dI) (tyl cI cC cZ cB cJ) A (wd_X9_row cI cC cZ cB cJ a_x a_tx a_pl a_ga a_tr a_no a_pa a_ro a_mk a_x_acts a_ro_numbers ro_size ro_numbers) postx)) (by decide) rfl (Nat.le_of_ble_eq_true rfl) ?_
  intro p e s m args below meth c A H locs ls C0 htab hP hD hS hl
  have hl : lv_has ls 2 [(0, .ref a_x), (1, .int p0)] := hl
  obtain ⟨hx, hb, hr, hml, hown, hts, hlocks, hA, hK, hN, tL, tM, hZL, hTL, hZM, hTM, hZX⟩ := id C0
  have hp := hw
  unfold wp_X9_row at hp
  refine lv_iload_n hx hb eX9_row_0.1 rfl (lv_at hl 1 rfl) ?_
  refine lv_if_lt (tgt := 15) hx hb eX9_row_0.2.1 (by decide) (fun hc => ?_) (fun hc => ?_)
  · have hp := hp.1 hc
    exact g_throw C0 hl9 htab hP hD hS hl.1 eX9_row_0.2.2.2.2.2.2.2.1 eX9_row_0.2.2.2.2.2.2.2.2.1 eX9_row_0.2.2.2.2.2.2.2.2.2.1 eX9_row_0.2.2.2.2.2.2.2.2.2.2.1 (Nat.le_of_ble_eq_true rfl) (Nat.le_of_ble_eq_true rfl) (Nat.le_of_ble_eq_true rfl) (Nat.le_of_ble_eq_true rfl) hp
  · have hp := hp.2 hc
    refine lv_iload_n hx hb eX9_row_0.2.2.1 rfl (lv_at hl 1 rfl) ?_
    refine lv_aload_n hx hb eX9_row_0.2.2.2.1 rfl (lv_at hl 0 rfl) ?_
    refine va_get (D := (dC, dI)) (ci := 9) (v := .ref a_ro) (C := RX9) (T := TX9) (N := 9) hx hb hts i_X9 hown hK hP 0 rfl rfl 6 (Nat.le_of_ble_eq_true rfl) (hts _ q_363) (fun _ h9 => h9) rfl eX9_row_0.2.2.2.2.1 ?_
    refine va_get (D := (dC, dI)) (ci := 6) (v := .int ro_size) (C := RX6) (T := TX6) (N := 2) hx hb hts i_X6 hown hK hP 1 rfl rfl 1 (Nat.le_of_ble_eq_true rfl) (hts _ q_461) (fun _ h9 => h9) rfl eX9_row_0.2.2.2.2.2.1 ?_
    refine lv_icmp_lt (tgt := 23) hx hb eX9_row_0.2.2.2.2.2.2.1 (by decide) (fun hc => ?_) (fun hc => ?_)
    · have hp := hp.1 hc
      refine lv_aload_n hx hb eX9_row_0.2.2.2.2.2.2.2.2.2.2.2.1 rfl (lv_at hl 0 rfl) ?_
      refine va_get (D := (dC, dI)) (ci := 9) (v := .ref a_ro) (C := RX9) (T := TX9) (N := 9) hx hb hts i_X9 hown hK hP 0 rfl rfl 6 (Nat.le_of_ble_eq_true rfl) (hts _ q_363) (fun _ h9 => h9) rfl eX9_row_0.2.2.2.2.2.2.2.2.2.2.2.2.1 ?_
      refine va_get (D := (dC, dI)) (ci := 6) (v := .ref a_ro_numbers) (C := RX6) (T := TX6) (N := 2) hx hb hts i_X6 hown hK hP 1 rfl rfl 0 (Nat.le_of_ble_eq_true rfl) (hts _ q_637) (fun _ h9 => h9) rfl eX9_row_0.2.2.2.2.2.2.2.2.2.2.2.2.2.1 ?_
      refine lv_iload_n hx hb eX9_row_0.2.2.2.2.2.2.2.2.2.2.2.2.2.2.1 rfl (lv_at hl 1 rfl) ?_
      have hin := hp.1
      have hp := hp.2
      refine va_iald hx hb hK hP 2 0 rfl rfl hin eX9_row_0.2.2.2.2.2.2.2.2.2.2.2.2.2.2.2 ?_
      refine vx_ret (W.widen (k := 1) (n := 6) (Nat.zero_le _) (Nat.zero_le _) ?_)
      exact W.iret (v := ro_numbers p0.toNatClampNeg) hx hb hr (fun t ht hW => ⟨⟨ro_numbers p0.toNatClampNeg, (), rfl, hp, by rw [ht]; exact hP, va_K.moved hW.alike hK, hD⟩, hS.F ht⟩) hS.2.2 dX9_row_32
    · have hp := hp.2 hc
      exact g_throw C0 hl9 htab hP hD hS hl.1 eX9_row_0.2.2.2.2.2.2.2.1 eX9_row_0.2.2.2.2.2.2.2.2.1 eX9_row_0.2.2.2.2.2.2.2.2.2.1 eX9_row_0.2.2.2.2.2.2.2.2.2.2.1 (Nat.le_of_ble_eq_true rfl) (Nat.le_of_ble_eq_true rfl) (Nat.le_of_ble_eq_true rfl) (Nat.le_of_ble_eq_true rfl) hp
abbrev wd_X10_sign (cI cC cZ cB cJ : ClassId) (a_m : Nat) (a_m_now : Nat) (a_m_x : Nat) (a_m_height : Nat) (a_m_worth : Nat) (a_m_ripe : Nat) (a_m_foot : Nat) (a_m_fork : Nat) (a_m_told : Nat) (a_m_text : Nat) (a_m_row : Nat) (a_m_newFruits : Nat) (a_m_newStandings : Nat) (a_m_rule : Nat) (a_m_undos : Nat) (a_m_aside : Nat) (a_m_acts : Nat) (a_m_hand : Nat) (a_m_moves : Nat) (a_m_handSeconds : Nat) (a_m_load : Nat) (a_m_grass : Nat) (a_m_rows : Nat) (a_m_kept : Nat) (a_m_isKept : Nat) (a_m_keptCame : Nat) (m_fruits : Int32) (m_standings : Int32) (m_typed : Int32) (m_rowMany : Int32) (m_thrown : Int32) (m_read : Nat) (m_length : Int32) (m_top : Int32) (m_at : Int32) (m_wrong : Int32) (m_newFruitMany : Int32) (m_newStandingMany : Int32) (m_ruleSize : Int32) (m_isAsked : Int32) (m_askedFruit : Int32) (m_askedStanding : Int32) (m_askedHook : Int32) (m_askedApron : Int32) (m_undoMany : Int32) (m_picked : Int32) (m_wanted : Int32) (m_workMoves : Int32) (m_workPicks : Int32) (m_workDowns : Int32) (m_drawn : Int32) (m_came : Int32) (m_text : Nat → Int32) : va_W := [(a_m, .inr (10, [.ref a_m_now, .int m_fruits, .ref a_m_x, .ref a_m_height, .ref a_m_worth, .ref a_m_ripe, .int m_standings, .ref a_m_foot, .ref a_m_fork, .ref a_m_told, .ref a_m_text, .int m_typed, .ref a_m_row, .int m_rowMany, .int m_thrown, rdv a_m_text a_m_rule m_read, .int m_length, .int m_top, .int m_at, .int m_wrong, .ref a_m_newFruits, .ref a_m_newStandings, .int m_newFruitMany, .int m_newStandingMany, .ref a_m_rule, .int m_ruleSize, .int m_isAsked, .int m_askedFruit, .int m_askedStanding, .int m_askedHook, .int m_askedApron, .ref a_m_undos, .int m_undoMany, .ref a_m_aside, .ref a_m_acts, .int m_picked, .ref a_m_hand, .int m_wanted, .ref a_m_moves, .ref a_m_handSeconds, .int m_workMoves, .int m_workPicks, .int m_workDowns, .ref a_m_load, .ref a_m_grass, .ref a_m_rows, .int m_drawn, .int m_came, .ref a_m_kept, .ref a_m_isKept, .ref a_m_keptCame])), (a_m_text, .inl (cB, 80, .inl m_text))]
abbrev q_X10_sign (dC : Nat → ClassId) (dI : Nat → Nat → Nat) (cI cC cZ cB cJ : ClassId) (A : Nat → Prop) (a_m : Nat) (a_m_now : Nat) (a_m_x : Nat) (a_m_height : Nat) (a_m_worth : Nat) (a_m_ripe : Nat) (a_m_foot : Nat) (a_m_fork : Nat) (a_m_told : Nat) (a_m_text : Nat) (a_m_row : Nat) (a_m_newFruits : Nat) (a_m_newStandings : Nat) (a_m_rule : Nat) (a_m_undos : Nat) (a_m_aside : Nat) (a_m_acts : Nat) (a_m_hand : Nat) (a_m_moves : Nat) (a_m_handSeconds : Nat) (a_m_load : Nat) (a_m_grass : Nat) (a_m_rows : Nat) (a_m_kept : Nat) (a_m_isKept : Nat) (a_m_keptCame : Nat) (m_fruits : Int32) (m_standings : Int32) (m_rowMany : Int32) (m_read : Nat) (m_length : Int32) (m_top : Int32) (m_at : Int32) (m_wrong : Int32) (m_newFruitMany : Int32) (m_newStandingMany : Int32) (m_ruleSize : Int32) (m_isAsked : Int32) (m_askedFruit : Int32) (m_askedStanding : Int32) (m_askedHook : Int32) (m_askedApron : Int32) (m_undoMany : Int32) (m_picked : Int32) (m_wanted : Int32) (m_workMoves : Int32) (m_workPicks : Int32) (m_workDowns : Int32) (m_drawn : Int32) (m_came : Int32) (post : Int32 → Int32 → Int32 → (Nat → Int32) → Prop) : Array Value → State → Outcome → State → Prop := va_Qi (fun (r : Int32) (u : Int32 × Int32 × (Nat → Int32)) => post r u.1 u.2.1 u.2.2) (fun u t => gB (dC, dI) (tyl cI cC cZ cB cJ) A (wd_X10_sign cI cC cZ cB cJ a_m a_m_now a_m_x a_m_height a_m_worth a_m_ripe a_m_foot a_m_fork a_m_told a_m_text a_m_row a_m_newFruits a_m_newStandings a_m_rule a_m_undos a_m_aside a_m_acts a_m_hand a_m_moves a_m_handSeconds a_m_load a_m_grass a_m_rows a_m_kept a_m_isKept a_m_keptCame m_fruits m_standings u.1 m_rowMany u.2.1 m_read m_length m_top m_at m_wrong m_newFruitMany m_newStandingMany m_ruleSize m_isAsked m_askedFruit m_askedStanding m_askedHook m_askedApron m_undoMany m_picked m_wanted m_workMoves m_workPicks m_workDowns m_drawn m_came u.2.2) t) A
abbrev rm_X10_sign : Room := { frames := 0, cells := 0, slots := 0, locals := 0 }
section S_X10_sign
variable {p : Program} {l : Launch} {e : Env} {s : State} {m : MethodId} {args : Array Value} {below : List Frame} {meth : Method} {c : Code} {dC : Nat → ClassId} {dI : Nat → Nat → Nat} {cI cC cZ cB cJ : ClassId} {A : Nat → Prop} {a_m : Nat} {a_m_now : Nat} {a_m_x : Nat} {a_m_height : Nat} {a_m_worth : Nat} {a_m_ripe : Nat} {a_m_foot : Nat} {a_m_fork : Nat} {a_m_told : Nat} {a_m_text : Nat} {a_m_row : Nat} {a_m_newFruits : Nat} {a_m_newStandings : Nat} {a_m_rule : Nat} {a_m_undos : Nat} {a_m_aside : Nat} {a_m_acts : Nat} {a_m_hand : Nat} {a_m_moves : Nat} {a_m_handSeconds : Nat} {a_m_load : Nat} {a_m_grass : Nat} {a_m_rows : Nat} {a_m_kept : Nat} {a_m_isKept : Nat} {a_m_keptCame : Nat} {m_fruits : Int32} {m_standings : Int32} {m_rowMany : Int32} {m_read : Nat} {m_length : Int32} {m_top : Int32} {m_at : Int32} {m_wrong : Int32} {m_newFruitMany : Int32} {m_newStandingMany : Int32} {m_ruleSize : Int32} {m_isAsked : Int32} {m_askedFruit : Int32} {m_askedStanding : Int32} {m_askedHook : Int32} {m_askedApron : Int32} {m_undoMany : Int32} {m_picked : Int32} {m_wanted : Int32} {m_workMoves : Int32} {m_workPicks : Int32} {m_workDowns : Int32} {m_drawn : Int32} {m_came : Int32} {post : Int32 → Int32 → Int32 → (Nat → Int32) → Prop}
def ws_X10_sign_20 (post : Int32 → Int32 → Int32 → (Nat → Int32) → Prop) (next : Int32 → Int32 → Int32 → Int32 → (Nat → Int32) → Prop) (x1 : Int32) (x2 : Int32) (m_typed : Int32) (m_thrown : Int32) (m_text : Nat → Int32) : Prop := (x2 < 0 → post m_typed m_typed m_thrown m_text) ∧ (¬ x2 < 0 → ∀ v_2 : Int32, v_2 = m_typed + 1 → ∀ v_3 : Int32, v_3 = (x1 >>> ((8 * x2) &&& 31)).toInt8.toInt32 → vp_in m_typed 80 ∧ (∀ v_4 : Int32, v_4 = x2 + (-1) → next x1 v_4 v_2 m_thrown (upd m_text m_typed.toNatClampNeg (vp_nar .byte v_3))))
noncomputable def wb_X10_sign_20 (post : Int32 → Int32 → Int32 → (Nat → Int32) → Prop) : Nat → Int32 → Int32 → Int32 → Int32 → (Nat → Int32) → Prop := fun n => Nat.rec (motive := fun _ => Int32 → Int32 → Int32 → Int32 → (Nat → Int32) → Prop) (fun _ _ _ _ _ => False) (fun _ ih => ws_X10_sign_20 post ih) n
set_option maxHeartbeats 4000000 in
set_option maxRecDepth 100000 in
theorem ks_X10_sign_20 (C0 : gc cX10_sign (some .int) 3 RX10 (dC, dI) (tyl cI cC cZ cB cJ) A p s m args meth c) {next : Int32 → Int32 → Int32 → Int32 → (Nat → Int32) → Prop} (hKn : ∀ (x1 : Int32) (x2 : Int32) (m_typed : Int32) (m_thrown : Int32) (m_text : Nat → Int32) (H : Heap) (locs : List Loc) (ls : Array Slot), next x1 x2 m_typed m_thrown m_text → va_P (dC, dI) classes (wd_X10_sign cI cC cZ cB cJ a_m a_m_now a_m_x a_m_height a_m_worth a_m_ripe a_m_foot a_m_fork a_m_told a_m_text a_m_row a_m_newFruits a_m_newStandings a_m_rule a_m_undos a_m_aside a_m_acts a_m_hand a_m_moves a_m_handSeconds a_m_load a_m_grass a_m_rows a_m_kept a_m_isKept a_m_keptCame m_fruits m_standings m_typed m_rowMany m_thrown m_read m_length m_top m_at m_wrong m_newFruitMany m_newStandingMany m_ruleSize m_isAsked m_askedFruit m_askedStanding m_askedHook m_askedApron m_undoMany m_picked m_wanted m_workMoves m_workPicks m_workDowns m_drawn m_came m_text) H → va_D A (wd_X10_sign cI cC cZ cB cJ a_m a_m_now a_m_x a_m_height a_m_worth a_m_ripe a_m_foot a_m_fork a_m_told a_m_text a_m_row a_m_newFruits a_m_newStandings a_m_rule a_m_undos a_m_aside a_m_acts a_m_hand a_m_moves a_m_handSeconds a_m_load a_m_grass a_m_rows a_m_kept a_m_isKept a_m_keptCame m_fruits m_standings m_typed m_rowMany m_thrown m_read m_length m_top m_at m_wrong m_newFruitMany m_newStandingMany m_ruleSize m_isAsked m_askedFruit m_askedStanding m_askedHook m_askedApron m_undoMany m_picked m_wanted m_workMoves m_workPicks m_workDowns m_drawn m_came m_text) → va_S A s.heap H locs → lv_has ls 3 [(0, .ref a_m), (1, .int x1), (2, .int x2)] → W p l e rm_X10_sign s m args below meth c H locs 0 0 (MQ below (q_X10_sign dC dI cI cC cZ cB cJ A a_m a_m_now a_m_x a_m_height a_m_worth a_m_ripe a_m_foot a_m_fork a_m_told a_m_text a_m_row a_m_newFruits a_m_newStandings a_m_rule a_m_undos a_m_aside a_m_acts a_m_hand a_m_moves a_m_handSeconds a_m_load a_m_grass a_m_rows a_m_kept a_m_isKept a_m_keptCame m_fruits m_standings m_rowMany m_read m_length m_top m_at m_wrong m_newFruitMany m_newStandingMany m_ruleSize m_isAsked m_askedFruit m_askedStanding m_askedHook m_askedApron m_undoMany m_picked m_wanted m_workMoves m_workPicks m_workDowns m_drawn m_came post) args s 0 0 A) (F0 m 20 ls [])) : ∀ (x1 : Int32) (x2 : Int32) (m_typed : Int32) (m_thrown : Int32) (m_text : Nat → Int32) (H : Heap) (locs : List Loc) (ls : Array Slot), (ws_X10_sign_20 post next) x1 x2 m_typed m_thrown m_text → va_P (dC, dI) classes (wd_X10_sign cI cC cZ cB cJ a_m a_m_now a_m_x a_m_height a_m_worth a_m_ripe a_m_foot a_m_fork a_m_told a_m_text a_m_row a_m_newFruits a_m_newStandings a_m_rule a_m_undos a_m_aside a_m_acts a_m_hand a_m_moves a_m_handSeconds a_m_load a_m_grass a_m_rows a_m_kept a_m_isKept a_m_keptCame m_fruits m_standings m_typed m_rowMany m_thrown m_read m_length m_top m_at m_wrong m_newFruitMany m_newStandingMany m_ruleSize m_isAsked m_askedFruit m_askedStanding m_askedHook m_askedApron m_undoMany m_picked m_wanted m_workMoves m_workPicks m_workDowns m_drawn m_came m_text) H → va_D A (wd_X10_sign cI cC cZ cB cJ a_m a_m_now a_m_x a_m_height a_m_worth a_m_ripe a_m_foot a_m_fork a_m_told a_m_text a_m_row a_m_newFruits a_m_newStandings a_m_rule a_m_undos a_m_aside a_m_acts a_m_hand a_m_moves a_m_handSeconds a_m_load a_m_grass a_m_rows a_m_kept a_m_isKept a_m_keptCame m_fruits m_standings m_typed m_rowMany m_thrown m_read m_length m_top m_at m_wrong m_newFruitMany m_newStandingMany m_ruleSize m_isAsked m_askedFruit m_askedStanding m_askedHook m_askedApron m_undoMany m_picked m_wanted m_workMoves m_workPicks m_workDowns m_drawn m_came m_text) → va_S A s.heap H locs → lv_has ls 3 [(0, .ref a_m), (1, .int x1), (2, .int x2)] → W p l e rm_X10_sign s m args below meth c H locs 0 0 (MQ below (q_X10_sign dC dI cI cC cZ cB cJ A a_m a_m_now a_m_x a_m_height a_m_worth a_m_ripe a_m_foot a_m_fork a_m_told a_m_text a_m_row a_m_newFruits a_m_newStandings a_m_rule a_m_undos a_m_aside a_m_acts a_m_hand a_m_moves a_m_handSeconds a_m_load a_m_grass a_m_rows a_m_kept a_m_isKept a_m_keptCame m_fruits m_standings m_rowMany m_read m_length m_top m_at m_wrong m_newFruitMany m_newStandingMany m_ruleSize m_isAsked m_askedFruit m_askedStanding m_askedHook m_askedApron m_undoMany m_picked m_wanted m_workMoves m_workPicks m_workDowns m_drawn m_came post) args s 0 0 A) (F0 m 20 ls []) := by
  obtain ⟨hx, hb, hr, hml, hown, hts, hlocks, hA, hK, hN, tL, tM, hZL, hTL, hZM, hTM, hZX⟩ := id C0
  intro x1 x2 m_typed m_thrown m_text H locs ls hp hP hD hS hl
  unfold ws_X10_sign_20 at hp
  refine lv_iload_n hx hb eX10_sign_0.2.2.2.2.2.2.2.2.2.2.2.2.2.1 rfl (lv_at hl 2 rfl) ?_
  refine lv_if_lt (tgt := 53) hx hb eX10_sign_0.2.2.2.2.2.2.2.2.2.2.2.2.2.2.1 (by decide) (fun hc => ?_) (fun hc => ?_)
  · have hp := hp.1 hc
    refine lv_aload_n hx hb eX10_sign_50.2.1 rfl (lv_at hl 0 rfl) ?_
    refine va_get (D := (dC, dI)) (ci := 10) (v := .int m_typed) (C := RX10) (T := TX10) (N := 51) hx hb hts i_X10 hown hK hP 0 rfl rfl 11 (Nat.le_of_ble_eq_true rfl) (hts _ q_639) (fun _ h9 => h9) rfl eX10_sign_50.2.2.1 ?_
    exact W.iret (v := m_typed) hx hb hr (fun t ht hW => ⟨⟨m_typed, (m_typed, m_thrown, m_text), rfl, hp, by rw [ht]; exact hP, va_K.moved hW.alike hK, hD⟩, hS.F ht⟩) hS.2.2 eX10_sign_50.2.2.2
  · have hp := hp.2 hc
    refine lv_aload_n hx hb eX10_sign_0.2.2.2.2.2.2.2.2.2.2.2.2.2.2.2 rfl (lv_at hl 0 rfl) ?_
    refine va_get (D := (dC, dI)) (ci := 10) (v := .ref a_m_text) (C := RX10) (T := TX10) (N := 51) hx hb hts i_X10 hown hK hP 0 rfl rfl 10 (Nat.le_of_ble_eq_true rfl) (hts _ q_640) (fun _ h9 => h9) rfl eX10_sign_25.1 ?_
    refine lv_aload_n hx hb eX10_sign_25.2.1 rfl (lv_at hl 0 rfl) ?_
    refine lv_dup hx hb eX10_sign_25.2.2.1 rfl ?_
    refine va_get (D := (dC, dI)) (ci := 10) (v := .int m_typed) (C := RX10) (T := TX10) (N := 51) hx hb hts i_X10 hown hK hP 0 rfl rfl 11 (Nat.le_of_ble_eq_true rfl) (hts _ q_639) (fun _ h9 => h9) rfl eX10_sign_25.2.2.2.1 ?_
    refine lv_dup_x1 hx hb eX10_sign_25.2.2.2.2.1 rfl rfl ?_
    refine lv_iconst (v := 1) hx hb eX10_sign_25.2.2.2.2.2.1 (by decide) ?_
    refine lv_iadd hx hb eX10_sign_25.2.2.2.2.2.2.1 ?_
    refine lv_topi (fun v_2 ev_2 => ?_)
    have hp := hp v_2 ev_2
    refine va_put (D := (dC, dI)) (ci := 10) (v := .int v_2) (ty := .int) (C := RX10) (T := TX10) (N := 51) hx hb hts i_X10 tyX10 tyX10_ok nmX10 hown hK hP hD hS 0 rfl rfl 11 (Nat.le_of_ble_eq_true rfl) (hts _ q_639) (fun _ h9 => h9) rfl (tyX10_ok 11 (Nat.le_of_ble_eq_true rfl)) rfl rfl (Nat.le_of_ble_eq_true rfl) eX10_sign_25.2.2.2.2.2.2.2.1 (fun H locs hP hD hS => ?_)
    have hP : va_P (dC, dI) classes (wd_X10_sign cI cC cZ cB cJ a_m a_m_now a_m_x a_m_height a_m_worth a_m_ripe a_m_foot a_m_fork a_m_told a_m_text a_m_row a_m_newFruits a_m_newStandings a_m_rule a_m_undos a_m_aside a_m_acts a_m_hand a_m_moves a_m_handSeconds a_m_load a_m_grass a_m_rows a_m_kept a_m_isKept a_m_keptCame m_fruits m_standings v_2 m_rowMany m_thrown m_read m_length m_top m_at m_wrong m_newFruitMany m_newStandingMany m_ruleSize m_isAsked m_askedFruit m_askedStanding m_askedHook m_askedApron m_undoMany m_picked m_wanted m_workMoves m_workPicks m_workDowns m_drawn m_came m_text) H := hP
    have hD : va_D A (wd_X10_sign cI cC cZ cB cJ a_m a_m_now a_m_x a_m_height a_m_worth a_m_ripe a_m_foot a_m_fork a_m_told a_m_text a_m_row a_m_newFruits a_m_newStandings a_m_rule a_m_undos a_m_aside a_m_acts a_m_hand a_m_moves a_m_handSeconds a_m_load a_m_grass a_m_rows a_m_kept a_m_isKept a_m_keptCame m_fruits m_standings v_2 m_rowMany m_thrown m_read m_length m_top m_at m_wrong m_newFruitMany m_newStandingMany m_ruleSize m_isAsked m_askedFruit m_askedStanding m_askedHook m_askedApron m_undoMany m_picked m_wanted m_workMoves m_workPicks m_workDowns m_drawn m_came m_text) := hD
    refine lv_iload_n hx hb eX10_sign_25.2.2.2.2.2.2.2.2.1 rfl (lv_at hl 1 rfl) ?_
    refine lv_bipush (v := 8) hx hb eX10_sign_25.2.2.2.2.2.2.2.2.2.1 (by decide) ?_
    refine lv_iload_n hx hb eX10_sign_25.2.2.2.2.2.2.2.2.2.2.1 rfl (lv_at hl 2 rfl) ?_
    refine lv_imul hx hb eX10_sign_25.2.2.2.2.2.2.2.2.2.2.2.1 ?_
    refine lv_ishr hx hb eX10_sign_25.2.2.2.2.2.2.2.2.2.2.2.2.1 ?_
    refine lv_i2b hx hb eX10_sign_25.2.2.2.2.2.2.2.2.2.2.2.2.2.1 rfl ?_
    refine lv_topi (fun v_3 ev_3 => ?_)
    have hp := hp v_3 ev_3
    have hin := hp.1
    have hp := hp.2
    refine va_bast hx hb hK hP hD hS 1 3 rfl rfl hin eX10_sign_25.2.2.2.2.2.2.2.2.2.2.2.2.2.2.1 (fun H locs hP hD hS => ?_)
    have hP : va_P (dC, dI) classes (wd_X10_sign cI cC cZ cB cJ a_m a_m_now a_m_x a_m_height a_m_worth a_m_ripe a_m_foot a_m_fork a_m_told a_m_text a_m_row a_m_newFruits a_m_newStandings a_m_rule a_m_undos a_m_aside a_m_acts a_m_hand a_m_moves a_m_handSeconds a_m_load a_m_grass a_m_rows a_m_kept a_m_isKept a_m_keptCame m_fruits m_standings v_2 m_rowMany m_thrown m_read m_length m_top m_at m_wrong m_newFruitMany m_newStandingMany m_ruleSize m_isAsked m_askedFruit m_askedStanding m_askedHook m_askedApron m_undoMany m_picked m_wanted m_workMoves m_workPicks m_workDowns m_drawn m_came (upd m_text m_typed.toNatClampNeg (vp_nar .byte v_3))) H := hP
    have hD : va_D A (wd_X10_sign cI cC cZ cB cJ a_m a_m_now a_m_x a_m_height a_m_worth a_m_ripe a_m_foot a_m_fork a_m_told a_m_text a_m_row a_m_newFruits a_m_newStandings a_m_rule a_m_undos a_m_aside a_m_acts a_m_hand a_m_moves a_m_handSeconds a_m_load a_m_grass a_m_rows a_m_kept a_m_isKept a_m_keptCame m_fruits m_standings v_2 m_rowMany m_thrown m_read m_length m_top m_at m_wrong m_newFruitMany m_newStandingMany m_ruleSize m_isAsked m_askedFruit m_askedStanding m_askedHook m_askedApron m_undoMany m_picked m_wanted m_workMoves m_workPicks m_workDowns m_drawn m_came (upd m_text m_typed.toNatClampNeg (vp_nar .byte v_3))) := hD
    obtain ⟨v_4, ev_4⟩ : ∃ y : Int32, y = x2 + (-1) := ⟨_, rfl⟩
    refine lv_iinc (v := v_4) (lv' := [(2, .int v_4), (0, .ref a_m), (1, .int x1)]) hx hb eX10_sign_25.2.2.2.2.2.2.2.2.2.2.2.2.2.2.2 hl (k := 2) rfl (by rw [ev_4]; rfl) (by decide) rfl (fun ls hl => ?_)
    have hp := hp v_4 ev_4
    refine lv_goto (tgt := 20) hx hb eX10_sign_50.1 (by decide) ?_
    exact hKn x1 v_4 v_2 m_thrown (upd m_text m_typed.toNatClampNeg (vp_nar .byte v_3)) H locs ls hp hP hD hS (lv_sub hl [1, 2, 0] rfl)
set_option maxHeartbeats 4000000 in
set_option maxRecDepth 100000 in
theorem kb_X10_sign_20 (C0 : gc cX10_sign (some .int) 3 RX10 (dC, dI) (tyl cI cC cZ cB cJ) A p s m args meth c) : ∀ (n : Nat), ∀ (x1 : Int32) (x2 : Int32) (m_typed : Int32) (m_thrown : Int32) (m_text : Nat → Int32) (H : Heap) (locs : List Loc) (ls : Array Slot), (wb_X10_sign_20 post n) x1 x2 m_typed m_thrown m_text → va_P (dC, dI) classes (wd_X10_sign cI cC cZ cB cJ a_m a_m_now a_m_x a_m_height a_m_worth a_m_ripe a_m_foot a_m_fork a_m_told a_m_text a_m_row a_m_newFruits a_m_newStandings a_m_rule a_m_undos a_m_aside a_m_acts a_m_hand a_m_moves a_m_handSeconds a_m_load a_m_grass a_m_rows a_m_kept a_m_isKept a_m_keptCame m_fruits m_standings m_typed m_rowMany m_thrown m_read m_length m_top m_at m_wrong m_newFruitMany m_newStandingMany m_ruleSize m_isAsked m_askedFruit m_askedStanding m_askedHook m_askedApron m_undoMany m_picked m_wanted m_workMoves m_workPicks m_workDowns m_drawn m_came m_text) H → va_D A (wd_X10_sign cI cC cZ cB cJ a_m a_m_now a_m_x a_m_height a_m_worth a_m_ripe a_m_foot a_m_fork a_m_told a_m_text a_m_row a_m_newFruits a_m_newStandings a_m_rule a_m_undos a_m_aside a_m_acts a_m_hand a_m_moves a_m_handSeconds a_m_load a_m_grass a_m_rows a_m_kept a_m_isKept a_m_keptCame m_fruits m_standings m_typed m_rowMany m_thrown m_read m_length m_top m_at m_wrong m_newFruitMany m_newStandingMany m_ruleSize m_isAsked m_askedFruit m_askedStanding m_askedHook m_askedApron m_undoMany m_picked m_wanted m_workMoves m_workPicks m_workDowns m_drawn m_came m_text) → va_S A s.heap H locs → lv_has ls 3 [(0, .ref a_m), (1, .int x1), (2, .int x2)] → W p l e rm_X10_sign s m args below meth c H locs 0 0 (MQ below (q_X10_sign dC dI cI cC cZ cB cJ A a_m a_m_now a_m_x a_m_height a_m_worth a_m_ripe a_m_foot a_m_fork a_m_told a_m_text a_m_row a_m_newFruits a_m_newStandings a_m_rule a_m_undos a_m_aside a_m_acts a_m_hand a_m_moves a_m_handSeconds a_m_load a_m_grass a_m_rows a_m_kept a_m_isKept a_m_keptCame m_fruits m_standings m_rowMany m_read m_length m_top m_at m_wrong m_newFruitMany m_newStandingMany m_ruleSize m_isAsked m_askedFruit m_askedStanding m_askedHook m_askedApron m_undoMany m_picked m_wanted m_workMoves m_workPicks m_workDowns m_drawn m_came post) args s 0 0 A) (F0 m 20 ls []) := by
  intro n
  induction n with
  | zero =>
    intro x1 x2 m_typed m_thrown m_text H locs ls hp
    exact False.elim hp
  | succ n ih =>
    intro x1 x2 m_typed m_thrown m_text H locs ls hp
    exact ks_X10_sign_20 C0 ih x1 x2 m_typed m_thrown m_text H locs ls hp
end S_X10_sign
def wp_X10_sign (post : Int32 → Int32 → Int32 → (Nat → Int32) → Prop) (p0 : Int32) (m_typed : Int32) (m_thrown : Int32) (m_text : Nat → Int32) : Prop := ∀ v_1 : Int32, v_1 = m_typed + 4 → (v_1 ≤ 80 → ∃ n : Nat, wb_X10_sign_20 post n p0 3 m_typed 0 m_text) ∧ (¬ v_1 ≤ 80 → post (-1) m_typed 0 m_text)
set_option maxHeartbeats 4000000 in
set_option maxRecDepth 100000 in
theorem c_X10_sign (l : Launch) (dC : Nat → ClassId) (dI : Nat → Nat → Nat) (cI cC cZ cB cJ : ClassId) (a_m : Nat) (a_m_now : Nat) (a_m_x : Nat) (a_m_height : Nat) (a_m_worth : Nat) (a_m_ripe : Nat) (a_m_foot : Nat) (a_m_fork : Nat) (a_m_told : Nat) (a_m_text : Nat) (a_m_row : Nat) (a_m_newFruits : Nat) (a_m_newStandings : Nat) (a_m_rule : Nat) (a_m_undos : Nat) (a_m_aside : Nat) (a_m_acts : Nat) (a_m_hand : Nat) (a_m_moves : Nat) (a_m_handSeconds : Nat) (a_m_load : Nat) (a_m_grass : Nat) (a_m_rows : Nat) (a_m_kept : Nat) (a_m_isKept : Nat) (a_m_keptCame : Nat) (sz : Nat) (p0 : Int32) (m_fruits : Int32) (m_standings : Int32) (m_typed : Int32) (m_rowMany : Int32) (m_thrown : Int32) (m_read : Nat) (m_length : Int32) (m_top : Int32) (m_at : Int32) (m_wrong : Int32) (m_newFruitMany : Int32) (m_newStandingMany : Int32) (m_ruleSize : Int32) (m_isAsked : Int32) (m_askedFruit : Int32) (m_askedStanding : Int32) (m_askedHook : Int32) (m_askedApron : Int32) (m_undoMany : Int32) (m_picked : Int32) (m_wanted : Int32) (m_workMoves : Int32) (m_workPicks : Int32) (m_workDowns : Int32) (m_drawn : Int32) (m_came : Int32) (m_text : Nat → Int32) (post : Int32 → Int32 → Int32 → (Nat → Int32) → Prop) (hw : wp_X10_sign post p0 m_typed m_thrown m_text) : Met l yX10_sign (gw yX10_sign cX10_sign 3 (some .int)) rm_X10_sign (va_Pc [.ref a_m, .int p0] (gPre (dC, dI) (tyl cI cC cZ cB cJ) (wd_X10_sign cI cC cZ cB cJ a_m a_m_now a_m_x a_m_height a_m_worth a_m_ripe a_m_foot a_m_fork a_m_told a_m_text a_m_row a_m_newFruits a_m_newStandings a_m_rule a_m_undos a_m_aside a_m_acts a_m_hand a_m_moves a_m_handSeconds a_m_load a_m_grass a_m_rows a_m_kept a_m_isKept a_m_keptCame m_fruits m_standings m_typed m_rowMany m_thrown m_read m_length m_top m_at m_wrong m_newFruitMany m_newStandingMany m_ruleSize m_isAsked m_askedFruit m_askedStanding m_askedHook m_askedApron m_undoMany m_picked m_wanted m_workMoves m_workPicks m_workDowns m_drawn m_came m_text) sz)) (q_X10_sign dC dI cI cC cZ cB cJ (va_A (wd_X10_sign cI cC cZ cB cJ a_m a_m_now a_m_x a_m_height a_m_worth a_m_ripe a_m_foot a_m_fork a_m_told a_m_text a_m_row a_m_newFruits a_m_newStandings a_m_rule a_m_undos a_m_aside a_m_acts a_m_hand a_m_moves a_m_handSeconds a_m_load a_m_grass a_m_rows a_m_kept a_m_isKept a_m_keptCame m_fruits m_standings m_typed m_rowMany m_thrown m_read m_length m_top m_at m_wrong m_newFruitMany m_newStandingMany m_ruleSize m_isAsked m_askedFruit m_askedStanding m_askedHook m_askedApron m_undoMany m_picked m_wanted m_workMoves m_workPicks m_workDowns m_drawn m_came m_text) sz) a_m a_m_now a_m_x a_m_height a_m_worth a_m_ripe a_m_foot a_m_fork a_m_told a_m_text a_m_row a_m_newFruits a_m_newStandings a_m_rule a_m_undos a_m_aside a_m_acts a_m_hand a_m_moves a_m_handSeconds a_m_load a_m_grass a_m_rows a_m_kept a_m_isKept a_m_keptCame m_fruits m_standings m_rowMany m_read m_length m_top m_at m_wrong m_newFruitMany m_newStandingMany m_ruleSize m_isAsked m_askedFruit m_askedStanding m_askedHook m_askedApron m_undoMany m_picked m_wanted m_workMoves m_workPicks m_workDowns m_drawn m_came post) 0 0 (va_A (wd_X10_sign cI cC cZ cB cJ a_m a_m_now a_m_x a_m_height a_m_worth a_m_ripe a_m_foot a_m_fork a_m_told a_m_text a_m_row a_m_newFruits a_m_newStandings a_m_rule a_m_undos a_m_aside a_m_acts a_m_hand a_m_moves a_m_handSeconds a_m_load a_m_grass a_m_rows a_m_kept a_m_isKept a_m_keptCame m_fruits m_standings m_typed m_rowMany m_thrown m_read m_length m_top m_at m_wrong m_newFruitMany m_newStandingMany m_ruleSize m_isAsked m_askedFruit m_askedStanding m_askedHook m_askedApron m_undoMany m_picked m_wanted m_workMoves m_workPicks m_workDowns m_drawn m_came m_text) sz) := by
  refine g_enter (own := RX10) (dC, dI) (tyl cI cC cZ cB cJ) (wd_X10_sign cI cC cZ cB cJ a_m a_m_now a_m_x a_m_height a_m_worth a_m_ripe a_m_foot a_m_fork a_m_told a_m_text a_m_row a_m_newFruits a_m_newStandings a_m_rule a_m_undos a_m_aside a_m_acts a_m_hand a_m_moves a_m_handSeconds a_m_load a_m_grass a_m_rows a_m_kept a_m_isKept a_m_keptCame m_fruits m_standings m_typed m_rowMany m_thrown m_read m_length m_top m_at m_wrong m_newFruitMany m_newStandingMany m_ruleSize m_isAsked m_askedFruit m_askedStanding m_askedHook m_askedApron m_undoMany m_picked m_wanted m_workMoves m_workPicks m_workDowns m_drawn m_came m_text) sz [.ref a_m, .int p0] (fun A => q_X10_sign dC dI cI cC cZ cB cJ A a_m a_m_now a_m_x a_m_height a_m_worth a_m_ripe a_m_foot a_m_fork a_m_told a_m_text a_m_row a_m_newFruits a_m_newStandings a_m_rule a_m_undos a_m_aside a_m_acts a_m_hand a_m_moves a_m_handSeconds a_m_load a_m_grass a_m_rows a_m_kept a_m_isKept a_m_keptCame m_fruits m_standings m_rowMany m_read m_length m_top m_at m_wrong m_newFruitMany m_newStandingMany m_ruleSize m_isAsked m_askedFruit m_askedStanding m_askedHook m_askedApron m_undoMany m_picked m_wanted m_workMoves m_workPicks m_workDowns m_drawn m_came post) (by decide) rfl (Nat.le_of_ble_eq_true rfl) ?_
  intro p e s m args below meth c A H locs ls C0 hP hD hS hl
  have hl : lv_has ls 3 [(0, .ref a_m), (1, .int p0)] := hl
  obtain ⟨hx, hb, hr, hml, hown, hts, hlocks, hA, hK, hN, tL, tM, hZL, hTL, hZM, hTM, hZX⟩ := id C0
  have hp := hw
  unfold wp_X10_sign at hp
  refine lv_aload_n hx hb eX10_sign_0.1 rfl (lv_at hl 0 rfl) ?_
  refine lv_iconst (v := 0) hx hb eX10_sign_0.2.1 (by decide) ?_
  refine va_put (D := (dC, dI)) (ci := 10) (v := .int 0) (ty := .int) (C := RX10) (T := TX10) (N := 51) hx hb hts i_X10 tyX10 tyX10_ok nmX10 hown hK hP hD hS 0 rfl rfl 14 (Nat.le_of_ble_eq_true rfl) (hts _ q_638) (fun _ h9 => h9) rfl (tyX10_ok 14 (Nat.le_of_ble_eq_true rfl)) rfl rfl (Nat.le_of_ble_eq_true rfl) eX10_sign_0.2.2.1 (fun H locs hP hD hS => ?_)
  have hP : va_P (dC, dI) classes (wd_X10_sign cI cC cZ cB cJ a_m a_m_now a_m_x a_m_height a_m_worth a_m_ripe a_m_foot a_m_fork a_m_told a_m_text a_m_row a_m_newFruits a_m_newStandings a_m_rule a_m_undos a_m_aside a_m_acts a_m_hand a_m_moves a_m_handSeconds a_m_load a_m_grass a_m_rows a_m_kept a_m_isKept a_m_keptCame m_fruits m_standings m_typed m_rowMany 0 m_read m_length m_top m_at m_wrong m_newFruitMany m_newStandingMany m_ruleSize m_isAsked m_askedFruit m_askedStanding m_askedHook m_askedApron m_undoMany m_picked m_wanted m_workMoves m_workPicks m_workDowns m_drawn m_came m_text) H := hP
  have hD : va_D A (wd_X10_sign cI cC cZ cB cJ a_m a_m_now a_m_x a_m_height a_m_worth a_m_ripe a_m_foot a_m_fork a_m_told a_m_text a_m_row a_m_newFruits a_m_newStandings a_m_rule a_m_undos a_m_aside a_m_acts a_m_hand a_m_moves a_m_handSeconds a_m_load a_m_grass a_m_rows a_m_kept a_m_isKept a_m_keptCame m_fruits m_standings m_typed m_rowMany 0 m_read m_length m_top m_at m_wrong m_newFruitMany m_newStandingMany m_ruleSize m_isAsked m_askedFruit m_askedStanding m_askedHook m_askedApron m_undoMany m_picked m_wanted m_workMoves m_workPicks m_workDowns m_drawn m_came m_text) := hD
  refine lv_aload_n hx hb eX10_sign_0.2.2.2.1 rfl (lv_at hl 0 rfl) ?_
  refine va_get (D := (dC, dI)) (ci := 10) (v := .int m_typed) (C := RX10) (T := TX10) (N := 51) hx hb hts i_X10 hown hK hP 0 rfl rfl 11 (Nat.le_of_ble_eq_true rfl) (hts _ q_639) (fun _ h9 => h9) rfl eX10_sign_0.2.2.2.2.1 ?_
  refine lv_iconst (v := 4) hx hb eX10_sign_0.2.2.2.2.2.1 (by decide) ?_
  refine lv_iadd hx hb eX10_sign_0.2.2.2.2.2.2.1 ?_
  refine lv_topi (fun v_1 ev_1 => ?_)
  have hp := hp v_1 ev_1
  refine lv_bipush (v := 80) hx hb eX10_sign_0.2.2.2.2.2.2.2.1 (by decide) ?_
  refine lv_icmp_le (tgt := 18) hx hb eX10_sign_0.2.2.2.2.2.2.2.2.1 (by decide) (fun hc => ?_) (fun hc => ?_)
  · have hp := hp.1 hc
    refine lv_iconst (v := 3) hx hb eX10_sign_0.2.2.2.2.2.2.2.2.2.2.2.1 (by decide) ?_
    refine lv_istore_n (lv' := [(2, .int 3), (0, .ref a_m), (1, .int p0)]) hx hb eX10_sign_0.2.2.2.2.2.2.2.2.2.2.2.2.1 rfl hl (by decide) rfl (fun ls hl => ?_)
    obtain ⟨n9, hp⟩ := hp
    exact kb_X10_sign_20 C0 n9 p0 3 m_typed 0 m_text H locs ls hp hP hD hS (lv_sub hl [1, 2, 0] rfl)
  · have hp := hp.2 hc
    refine lv_iconst (v := (-1)) hx hb eX10_sign_0.2.2.2.2.2.2.2.2.2.1 (by decide) ?_
    exact W.iret (v := (-1)) hx hb hr (fun t ht hW => ⟨⟨(-1), (m_typed, 0, m_text), rfl, hp, by rw [ht]; exact hP, va_K.moved hW.alike hK, hD⟩, hS.F ht⟩) hS.2.2 eX10_sign_0.2.2.2.2.2.2.2.2.2.2.1
