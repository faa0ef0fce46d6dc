abbrev wd_L_fruit (cI cC cZ cB cJ : ClassId) (a_x : Nat) (a_tx : Nat) (a_pl : Nat) (a_ga : Nat) (a_tr : Nat) (a_no : Nat) (a_pa : Nat) (a_ro : Nat) (a_mk : Nat) (a_x_acts : Nat) (a_ru : Nat) (a_tr_x : Nat) (a_tr_height : Nat) (a_tr_worth : Nat) (a_tr_ripe : Nat) (a_tr_foot : Nat) (a_tr_fork : Nat) (a_tr_settings : Nat) (a_lo : Nat) (tr_fruits : Int32) (tr_standings : Int32) (tr_comingFruits : Int32) (tr_comingStandings : Int32) (tr_x : Nat → Int32) (tr_height : Nat → Int32) (tr_worth : Nat → Int32) (tr_ripe : Nat → Int32) (no_apron : Int32) (no_basket : Int32) (no_ground : Int32) (no_bruised : Int32) (no_ladder : Int32) (no_helper : Int32) (no_today : Int32) (no_clock : Int32) (lo : Nat → Int64) : va_W := [(a_x, .inr (9, [.ref a_tx, .ref a_pl, .ref a_ga, .ref a_tr, .ref a_no, .ref a_pa, .ref a_ro, .ref a_mk, .ref a_x_acts])), (a_ga, .inr (0, [.ref a_tr, .ref a_no, .ref a_ru])), (a_tr, .inr (3, [.ref a_tr_x, .ref a_tr_height, .ref a_tr_worth, .ref a_tr_ripe, .ref a_tr_foot, .ref a_tr_fork, .ref a_tr_settings, .int tr_fruits, .int tr_standings, .int tr_comingFruits, .int tr_comingStandings])), (a_tr_x, .inl (cI, 16, .inl tr_x)), (a_tr_height, .inl (cI, 16, .inl tr_height)), (a_tr_worth, .inl (cI, 16, .inl tr_worth)), (a_tr_ripe, .inl (cI, 16, .inl tr_ripe)), (a_no, .inr (2, [.int no_apron, .int no_basket, .int no_ground, .int no_bruised, .int no_ladder, .int no_helper, .int no_today, .int no_clock])), (a_lo, .inl (cJ, 1, .inr (.inl lo)))]
abbrev rm_L_fruit : Room := { frames := 7, cells := 1, slots := 6, locals := 122 }
def wp_L_fruit (post : Int32 → (Nat → Int64) → Prop) (p0 : Int32) (p1 : Int32) (tr_fruits : Int32) (tr_x : Nat → Int32) (tr_height : Nat → Int32) (tr_worth : Nat → Int32) (tr_ripe : Nat → Int32) (no_apron : Int32) (no_basket : Int32) (no_ground : Int32) (no_bruised : Int32) (lo : Nat → Int64) : Prop := wp_X9_fruit (fun r => ∀ f : Nat → Int64, f = vp_updL lo (0 : Int32).toNatClampNeg r.toInt64 → post 0 f) (post 1 lo) p0 p1 tr_fruits tr_x tr_height tr_worth tr_ripe no_apron no_basket no_ground no_bruised
set_option maxHeartbeats 4000000 in
set_option maxRecDepth 100000 in
theorem c_L_fruit (l : Launch) (hl9 : l.stackTraces = false) (dC : Nat → ClassId) (dI : Nat → Nat → Nat) (cI cC cZ cB cJ : ClassId) (a_x : Nat) (a_tx : Nat) (a_pl : Nat) (a_ga : Nat) (a_tr : Nat) (a_no : Nat) (a_pa : Nat) (a_ro : Nat) (a_mk : Nat) (a_x_acts : Nat) (a_ru : Nat) (a_tr_x : Nat) (a_tr_height : Nat) (a_tr_worth : Nat) (a_tr_ripe : Nat) (a_tr_foot : Nat) (a_tr_fork : Nat) (a_tr_settings : Nat) (a_lo : Nat) (sz : Nat) (p0 : Int32) (p1 : Int32) (tr_fruits : Int32) (tr_standings : Int32) (tr_comingFruits : Int32) (tr_comingStandings : Int32) (tr_x : Nat → Int32) (tr_height : Nat → Int32) (tr_worth : Nat → Int32) (tr_ripe : Nat → Int32) (no_apron : Int32) (no_basket : Int32) (no_ground : Int32) (no_bruised : Int32) (no_ladder : Int32) (no_helper : Int32) (no_today : Int32) (no_clock : Int32) (lo : Nat → Int64) (post : Int32 → (Nat → Int64) → Prop) (hw : wp_L_fruit post p0 p1 tr_fruits tr_x tr_height tr_worth tr_ripe no_apron no_basket no_ground no_bruised lo) : Met l yL_fruit (Cond.codeWith yL_fruit cL_fruit 5 (some .int) [(0, 10, 13, 13)] :: W0) rm_L_fruit (va_Pc [.ref a_x, .int p0, .int p1, .ref a_lo] (gPre (dC, dI) (tyl cI cC cZ cB cJ) (wd_L_fruit cI cC cZ cB cJ a_x a_tx a_pl a_ga a_tr a_no a_pa a_ro a_mk a_x_acts a_ru a_tr_x a_tr_height a_tr_worth a_tr_ripe a_tr_foot a_tr_fork a_tr_settings a_lo tr_fruits tr_standings tr_comingFruits tr_comingStandings tr_x tr_height tr_worth tr_ripe no_apron no_basket no_ground no_bruised no_ladder no_helper no_today no_clock lo) sz)) (va_Qi (fun (r : Int32) (u : Nat → Int64) => post r u) (fun u t => gB (dC, dI) (tyl cI cC cZ cB cJ) (va_A (wd_L_fruit cI cC cZ cB cJ a_x a_tx a_pl a_ga a_tr a_no a_pa a_ro a_mk a_x_acts a_ru a_tr_x a_tr_height a_tr_worth a_tr_ripe a_tr_foot a_tr_fork a_tr_settings a_lo tr_fruits tr_standings tr_comingFruits tr_comingStandings tr_x tr_height tr_worth tr_ripe no_apron no_basket no_ground no_bruised no_ladder no_helper no_today no_clock lo) sz) (wd_L_fruit cI cC cZ cB cJ a_x a_tx a_pl a_ga a_tr a_no a_pa a_ro a_mk a_x_acts a_ru a_tr_x a_tr_height a_tr_worth a_tr_ripe a_tr_foot a_tr_fork a_tr_settings a_lo tr_fruits tr_standings tr_comingFruits tr_comingStandings tr_x tr_height tr_worth tr_ripe no_apron no_basket no_ground no_bruised no_ladder no_helper no_today no_clock u) t) (va_A (wd_L_fruit cI cC cZ cB cJ a_x a_tx a_pl a_ga a_tr a_no a_pa a_ro a_mk a_x_acts a_ru a_tr_x a_tr_height a_tr_worth a_tr_ripe a_tr_foot a_tr_fork a_tr_settings a_lo tr_fruits tr_standings tr_comingFruits tr_comingStandings tr_x tr_height tr_worth tr_ripe no_apron no_basket no_ground no_bruised no_ladder no_helper no_today no_clock lo) sz)) 1 6 (va_A (wd_L_fruit cI cC cZ cB cJ a_x a_tx a_pl a_ga a_tr a_no a_pa a_ro a_mk a_x_acts a_ru a_tr_x a_tr_height a_tr_worth a_tr_ripe a_tr_foot a_tr_fork a_tr_settings a_lo tr_fruits tr_standings tr_comingFruits tr_comingStandings tr_x tr_height tr_worth tr_ripe no_apron no_basket no_ground no_bruised no_ladder no_helper no_today no_clock lo) sz) := by
  refine va_MetW (cc := cL_fruit) (maxL := 5) (ret := some .int) (hh := [(0, 10, 13, 13)]) (by decide) rfl ?_
  intro p e s m args below meth c s₁ B hml hv
  obtain ⟨rfl, hsz, ⟨hP, hK, hD0⟩, hN, hZ⟩ := hv
  subst hsz
  have hts0 := atoms_spec (ws := (Cond.codeWith yL_fruit cL_fruit 5 (some .int) [(0, 10, 13, 13)] :: W0)) B.pre
  have hts : ∀ w ∈ W0, w.before _ s = true := fun w hw => hts0 w (List.mem_cons_of_mem _ hw)
  have htab := vx_table (x := yL_fruit) B (hts0 _ List.mem_cons_self)
  have hx := B.exec
  have hb := B.bytes
  have hr := B.returns
  have hlocks := B.notSynchronized
  have hown : s.vm.findClass RL = some m.cls := findClass_of_methodNamed B.named
  have hD := hD0.self (sz := s.heap.size)
  have hA : ∀ q, s.heap.size ≤ q → (va_A (wd_L_fruit cI cC cZ cB cJ a_x a_tx a_pl a_ga a_tr a_no a_pa a_ro a_mk a_x_acts a_ru a_tr_x a_tr_height a_tr_worth a_tr_ripe a_tr_foot a_tr_fork a_tr_settings a_lo tr_fruits tr_standings tr_comingFruits tr_comingStandings tr_x tr_height tr_worth tr_ripe no_apron no_basket no_ground no_bruised no_ladder no_helper no_today no_clock lo) s.heap.size) q := fun q h => Or.inr h
  have C0 : gc cL_fruit (some .int) 5 RL (dC, dI) (tyl cI cC cZ cB cJ) (va_A (wd_L_fruit cI cC cZ cB cJ a_x a_tx a_pl a_ga a_tr a_no a_pa a_ro a_mk a_x_acts a_ru a_tr_x a_tr_height a_tr_worth a_tr_ripe a_tr_foot a_tr_fork a_tr_settings a_lo tr_fruits tr_standings tr_comingFruits tr_comingStandings tr_x tr_height tr_worth tr_ripe no_apron no_basket no_ground no_bruised no_ladder no_helper no_today no_clock lo) s.heap.size) p s m ([.ref a_x, .int p0, .int p1, .ref a_lo] : List Value).toArray meth c := ⟨hx, hb, hr, hml, hown, hts, hlocks, hA, hK, hN, hZ⟩
  have hS : va_S (va_A (wd_L_fruit cI cC cZ cB cJ a_x a_tx a_pl a_ga a_tr a_no a_pa a_ro a_mk a_x_acts a_ru a_tr_x a_tr_height a_tr_worth a_tr_ripe a_tr_foot a_tr_fork a_tr_settings a_lo tr_fruits tr_standings tr_comingFruits tr_comingStandings tr_x tr_height tr_worth tr_ripe no_apron no_basket no_ground no_bruised no_ladder no_helper no_today no_clock lo) s.heap.size) s.heap s.heap [] := va_S.rf
  have hl := lv_entry [.ref a_x, .int p0, .int p1, .ref a_lo] (n := 5) (Nat.le_of_ble_eq_true rfl)
  rw [lg_entry_eq]
  generalize (lg_sl [.ref a_x, .int p0, .int p1, .ref a_lo] ++ List.replicate (5 - (lg_sl [.ref a_x, .int p0, .int p1, .ref a_lo]).length) Slot.unset).toArray = ls at hl ⊢
  have hl : lv_has ls 5 [(0, .ref a_x), (1, .int p0), (2, .int p1), (3, .ref a_lo)] := hl
  have hp := hw
  unfold wp_L_fruit at hp
  refine lv_aload_n hx hb eL_fruit_0.1 rfl (lv_at hl 3 rfl) ?_
  refine lv_iconst (v := 0) hx hb eL_fruit_0.2.1 (by decide) ?_
  refine lv_aload_n hx hb eL_fruit_0.2.2.1 rfl (lv_at hl 0 rfl) ?_
  refine lv_iload_n hx hb eL_fruit_0.2.2.2.1 rfl (lv_at hl 1 rfl) ?_
  refine lv_iload_n hx hb eL_fruit_0.2.2.2.2.1 rfl (lv_at hl 2 rfl) ?_
  refine g_calliX (wc := (wd_X9_fruit cI cC cZ cB cJ a_x a_tx a_pl a_ga a_tr a_no a_pa a_ro a_mk a_x_acts a_ru a_tr_x a_tr_height a_tr_worth a_tr_ripe a_tr_foot a_tr_fork a_tr_settings tr_fruits tr_standings tr_comingFruits tr_comingStandings tr_x tr_height tr_worth tr_ripe no_apron no_basket no_ground no_bruised no_ladder no_helper no_today no_clock)) hP hD hS hA [0, 1, 2, 3, 4, 5, 6, 7] [8] rfl rfl rfl rfl (g_runVX (As := [.int p0, .int p1]) (rest := [.int 0, .ref a_lo]) C0 hP hD hS [0, 1, 2, 3, 4, 5, 6, 7] rfl rfl 0 9 rfl rfl (c_X9_fruit l hl9 dC dI cI cC cZ cB cJ a_x a_tx a_pl a_ga a_tr a_no a_pa a_ro a_mk a_x_acts a_ru a_tr_x a_tr_height a_tr_worth a_tr_ripe a_tr_foot a_tr_fork a_tr_settings s.heap.size p0 p1 tr_fruits tr_standings tr_comingFruits tr_comingStandings tr_x tr_height tr_worth tr_ripe no_apron no_basket no_ground no_bruised no_ladder no_helper no_today no_clock _ _ hp) q_1063 q_1064 q_1065 q_1066 q_256 h_X9_fruit rfl rfl ⟨Nat.le_of_ble_eq_true rfl, Nat.le_of_ble_eq_true rfl⟩ rfl rfl hl.1 rfl (lv_room (Nat.le_of_ble_eq_true rfl)) eL_fruit_0.2.2.2.2.2.1 ⟨Nat.le_of_ble_eq_true rfl, Nat.le_of_ble_eq_true rfl⟩) (fun ce q9 H locs hp hP hD hS hq hv hcl => ?_) (fun r u H locs hp hP hD hS => ?_)
  · have hPD := PDs (ws' := (wd_L_fruit cI cC cZ cB cJ a_x a_tx a_pl a_ga a_tr a_no a_pa a_ro a_mk a_x_acts a_ru a_tr_x a_tr_height a_tr_worth a_tr_ripe a_tr_foot a_tr_fork a_tr_settings a_lo tr_fruits tr_standings tr_comingFruits tr_comingStandings tr_x tr_height tr_worth tr_ripe no_apron no_basket no_ground no_bruised no_ladder no_helper no_today no_clock lo)) hP hD [1, 2, 3, 4, 5, 6, 7, 8, 0] (by decide) rfl
    have hP := hPD.1
    have hD := hPD.2
    refine gk_catch (own := RL) (name := NSE) (E := NSE) hown ⟨0, 10, 13, 13⟩ htab (by decide) (by decide) (hts _ q_1067) (va_Nw.use rfl (hN _ n_castNSE)) hq hv hcl ?_
    refine lv_astore (lv' := [(4, .ref q9), (0, .ref a_x), (1, .int p0), (2, .int p1), (3, .ref a_lo)]) hx hb eL_fruit_0.2.2.2.2.2.2.2.2.2.1 hl (by decide) rfl (fun ls hl => ?_)
    refine lv_iconst (v := 1) hx hb eL_fruit_0.2.2.2.2.2.2.2.2.2.2.1 (by decide) ?_
    refine W.widen (k := 1) (n := 6) (Nat.le_refl _) (Nat.le_refl _) ?_
    exact W.iret (v := 1) hx hb hr (fun t ht hW => ⟨⟨1, lo, rfl, hp, by rw [ht]; exact hP, va_K.moved hW.alike hK, hD⟩, hS.F ht⟩) hS.2.2 eL_fruit_0.2.2.2.2.2.2.2.2.2.2.2.1
  · have hPD := PDs (ws' := (wd_L_fruit cI cC cZ cB cJ a_x a_tx a_pl a_ga a_tr a_no a_pa a_ro a_mk a_x_acts a_ru a_tr_x a_tr_height a_tr_worth a_tr_ripe a_tr_foot a_tr_fork a_tr_settings a_lo tr_fruits tr_standings tr_comingFruits tr_comingStandings tr_x tr_height tr_worth tr_ripe no_apron no_basket no_ground no_bruised no_ladder no_helper no_today no_clock lo)) hP hD [1, 2, 3, 4, 5, 6, 7, 8, 0] (by decide) rfl
    have hP := hPD.1
    have hD := hPD.2
    refine lv_i2l hx hb eL_fruit_0.2.2.2.2.2.2.1 rfl ?_
    obtain ⟨f, ef⟩ : ∃ f : Nat → Int64, f = vp_updL lo (0 : Int32).toNatClampNeg r.toInt64 := ⟨_, rfl⟩
    have hp := hp f ef
    refine va_last hx hb hK hP hD hS 8 4 rfl rfl (g_in rfl) eL_fruit_0.2.2.2.2.2.2.2.1 (fun H locs hP hD hS => ?_)
    have hP : va_P (dC, dI) classes (wd_L_fruit cI cC cZ cB cJ a_x a_tx a_pl a_ga a_tr a_no a_pa a_ro a_mk a_x_acts a_ru a_tr_x a_tr_height a_tr_worth a_tr_ripe a_tr_foot a_tr_fork a_tr_settings a_lo tr_fruits tr_standings tr_comingFruits tr_comingStandings tr_x tr_height tr_worth tr_ripe no_apron no_basket no_ground no_bruised no_ladder no_helper no_today no_clock f) H := by rw [ef]; exact hP
    have hD : va_D (va_A (wd_L_fruit cI cC cZ cB cJ a_x a_tx a_pl a_ga a_tr a_no a_pa a_ro a_mk a_x_acts a_ru a_tr_x a_tr_height a_tr_worth a_tr_ripe a_tr_foot a_tr_fork a_tr_settings a_lo tr_fruits tr_standings tr_comingFruits tr_comingStandings tr_x tr_height tr_worth tr_ripe no_apron no_basket no_ground no_bruised no_ladder no_helper no_today no_clock lo) s.heap.size) (wd_L_fruit cI cC cZ cB cJ a_x a_tx a_pl a_ga a_tr a_no a_pa a_ro a_mk a_x_acts a_ru a_tr_x a_tr_height a_tr_worth a_tr_ripe a_tr_foot a_tr_fork a_tr_settings a_lo tr_fruits tr_standings tr_comingFruits tr_comingStandings tr_x tr_height tr_worth tr_ripe no_apron no_basket no_ground no_bruised no_ladder no_helper no_today no_clock f) := by rw [ef]; exact hD
    refine lv_goto (tgt := 17) hx hb eL_fruit_0.2.2.2.2.2.2.2.2.1 (by decide) ?_
    refine lv_iconst (v := 0) hx hb eL_fruit_0.2.2.2.2.2.2.2.2.2.2.2.2.1 (by decide) ?_
    refine W.widen (k := 1) (n := 6) (Nat.le_refl _) (Nat.le_refl _) ?_
    exact W.iret (v := 0) hx hb hr (fun t ht hW => ⟨⟨0, f, rfl, hp, by rw [ht]; exact hP, va_K.moved hW.alike hK, hD⟩, hS.F ht⟩) hS.2.2 eL_fruit_0.2.2.2.2.2.2.2.2.2.2.2.2.2
abbrev wd_L_standing (cI cC cZ cB cJ : ClassId) (a_x : Nat) (a_tx : Nat) (a_pl : Nat) (a_ga : Nat) (a_tr : Nat) (a_no : Nat) (a_pa : Nat) (a_ro : Nat) (a_mk : Nat) (a_x_acts : Nat) (a_tr_x : Nat) (a_tr_height : Nat) (a_tr_worth : Nat) (a_tr_ripe : Nat) (a_tr_foot : Nat) (a_tr_fork : Nat) (a_tr_settings : Nat) (a_lo : Nat) (tr_fruits : Int32) (tr_standings : Int32) (tr_comingFruits : Int32) (tr_comingStandings : Int32) (tr_foot : Nat → Int32) (tr_fork : Nat → Int32) (lo : Nat → Int64) : va_W := [(a_x, .inr (9, [.ref a_tx, .ref a_pl, .ref a_ga, .ref a_tr, .ref a_no, .ref a_pa, .ref a_ro, .ref a_mk, .ref a_x_acts])), (a_tr, .inr (3, [.ref a_tr_x, .ref a_tr_height, .ref a_tr_worth, .ref a_tr_ripe, .ref a_tr_foot, .ref a_tr_fork, .ref a_tr_settings, .int tr_fruits, .int tr_standings, .int tr_comingFruits, .int tr_comingStandings])), (a_tr_foot, .inl (cI, 8, .inl tr_foot)), (a_tr_fork, .inl (cI, 8, .inl tr_fork)), (a_lo, .inl (cJ, 1, .inr (.inl lo)))]
abbrev rm_L_standing : Room := { frames := 7, cells := 1, slots := 6, locals := 122 }
def wp_L_standing (post : Int32 → (Nat → Int64) → Prop) (p0 : Int32) (p1 : Int32) (tr_standings : Int32) (tr_foot : Nat → Int32) (tr_fork : Nat → Int32) (lo : Nat → Int64) : Prop := wp_X9_standing (fun r => ∀ f : Nat → Int64, f = vp_updL lo (0 : Int32).toNatClampNeg r.toInt64 → post 0 f) (post 1 lo) p0 p1 tr_standings tr_foot tr_fork
set_option maxHeartbeats 4000000 in
set_option maxRecDepth 100000 in
theorem c_L_standing (l : Launch) (hl9 : l.stackTraces = false) (dC : Nat → ClassId) (dI : Nat → Nat → Nat) (cI cC cZ cB cJ : ClassId) (a_x : Nat) (a_tx : Nat) (a_pl : Nat) (a_ga : Nat) (a_tr : Nat) (a_no : Nat) (a_pa : Nat) (a_ro : Nat) (a_mk : Nat) (a_x_acts : Nat) (a_tr_x : Nat) (a_tr_height : Nat) (a_tr_worth : Nat) (a_tr_ripe : Nat) (a_tr_foot : Nat) (a_tr_fork : Nat) (a_tr_settings : Nat) (a_lo : Nat) (sz : Nat) (p0 : Int32) (p1 : Int32) (tr_fruits : Int32) (tr_standings : Int32) (tr_comingFruits : Int32) (tr_comingStandings : Int32) (tr_foot : Nat → Int32) (tr_fork : Nat → Int32) (lo : Nat → Int64) (post : Int32 → (Nat → Int64) → Prop) (hw : wp_L_standing post p0 p1 tr_standings tr_foot tr_fork lo) : Met l yL_standing (Cond.codeWith yL_standing cL_standing 5 (some .int) [(0, 10, 13, 13)] :: W0) rm_L_standing (va_Pc [.ref a_x, .int p0, .int p1, .ref a_lo] (gPre (dC, dI) (tyl cI cC cZ cB cJ) (wd_L_standing cI cC cZ cB cJ a_x a_tx a_pl a_ga a_tr a_no a_pa a_ro a_mk a_x_acts a_tr_x a_tr_height a_tr_worth a_tr_ripe a_tr_foot a_tr_fork a_tr_settings a_lo tr_fruits tr_standings tr_comingFruits tr_comingStandings tr_foot tr_fork lo) sz)) (va_Qi (fun (r : Int32) (u : Nat → Int64) => post r u) (fun u t => gB (dC, dI) (tyl cI cC cZ cB cJ) (va_A (wd_L_standing cI cC cZ cB cJ a_x a_tx a_pl a_ga a_tr a_no a_pa a_ro a_mk a_x_acts a_tr_x a_tr_height a_tr_worth a_tr_ripe a_tr_foot a_tr_fork a_tr_settings a_lo tr_fruits tr_standings tr_comingFruits tr_comingStandings tr_foot tr_fork lo) sz) (wd_L_standing cI cC cZ cB cJ a_x a_tx a_pl a_ga a_tr a_no a_pa a_ro a_mk a_x_acts a_tr_x a_tr_height a_tr_worth a_tr_ripe a_tr_foot a_tr_fork a_tr_settings a_lo tr_fruits tr_standings tr_comingFruits tr_comingStandings tr_foot tr_fork u) t) (va_A (wd_L_standing cI cC cZ cB cJ a_x a_tx a_pl a_ga a_tr a_no a_pa a_ro a_mk a_x_acts a_tr_x a_tr_height a_tr_worth a_tr_ripe a_tr_foot a_tr_fork a_tr_settings a_lo tr_fruits tr_standings tr_comingFruits tr_comingStandings tr_foot tr_fork lo) sz)) 1 6 (va_A (wd_L_standing cI cC cZ cB cJ a_x a_tx a_pl a_ga a_tr a_no a_pa a_ro a_mk a_x_acts a_tr_x a_tr_height a_tr_worth a_tr_ripe a_tr_foot a_tr_fork a_tr_settings a_lo tr_fruits tr_standings tr_comingFruits tr_comingStandings tr_foot tr_fork lo) sz) := by
  refine va_MetW (cc := cL_standing) (maxL := 5) (ret := some .int) (hh := [(0, 10, 13, 13)]) (by decide) rfl ?_
  intro p e s m args below meth c s₁ B hml hv
  obtain ⟨rfl, hsz, ⟨hP, hK, hD0⟩, hN, hZ⟩ := hv
  subst hsz
  have hts0 := atoms_spec (ws := (Cond.codeWith yL_standing cL_standing 5 (some .int) [(0, 10, 13, 13)] :: W0)) B.pre
  have hts : ∀ w ∈ W0, w.before _ s = true := fun w hw => hts0 w (List.mem_cons_of_mem _ hw)
  have htab := vx_table (x := yL_standing) B (hts0 _ List.mem_cons_self)
  have hx := B.exec
  have hb := B.bytes
  have hr := B.returns
  have hlocks := B.notSynchronized
  have hown : s.vm.findClass RL = some m.cls := findClass_of_methodNamed B.named
  have hD := hD0.self (sz := s.heap.size)
  have hA : ∀ q, s.heap.size ≤ q → (va_A (wd_L_standing cI cC cZ cB cJ a_x a_tx a_pl a_ga a_tr a_no a_pa a_ro a_mk a_x_acts a_tr_x a_tr_height a_tr_worth a_tr_ripe a_tr_foot a_tr_fork a_tr_settings a_lo tr_fruits tr_standings tr_comingFruits tr_comingStandings tr_foot tr_fork lo) s.heap.size) q := fun q h => Or.inr h
  have C0 : gc cL_standing (some .int) 5 RL (dC, dI) (tyl cI cC cZ cB cJ) (va_A (wd_L_standing cI cC cZ cB cJ a_x a_tx a_pl a_ga a_tr a_no a_pa a_ro a_mk a_x_acts a_tr_x a_tr_height a_tr_worth a_tr_ripe a_tr_foot a_tr_fork a_tr_settings a_lo tr_fruits tr_standings tr_comingFruits tr_comingStandings tr_foot tr_fork lo) s.heap.size) p s m ([.ref a_x, .int p0, .int p1, .ref a_lo] : List Value).toArray meth c := ⟨hx, hb, hr, hml, hown, hts, hlocks, hA, hK, hN, hZ⟩
  have hS : va_S (va_A (wd_L_standing cI cC cZ cB cJ a_x a_tx a_pl a_ga a_tr a_no a_pa a_ro a_mk a_x_acts a_tr_x a_tr_height a_tr_worth a_tr_ripe a_tr_foot a_tr_fork a_tr_settings a_lo tr_fruits tr_standings tr_comingFruits tr_comingStandings tr_foot tr_fork lo) s.heap.size) s.heap s.heap [] := va_S.rf
  have hl := lv_entry [.ref a_x, .int p0, .int p1, .ref a_lo] (n := 5) (Nat.le_of_ble_eq_true rfl)
  rw [lg_entry_eq]
  generalize (lg_sl [.ref a_x, .int p0, .int p1, .ref a_lo] ++ List.replicate (5 - (lg_sl [.ref a_x, .int p0, .int p1, .ref a_lo]).length) Slot.unset).toArray = ls at hl ⊢
  have hl : lv_has ls 5 [(0, .ref a_x), (1, .int p0), (2, .int p1), (3, .ref a_lo)] := hl
  have hp := hw
  unfold wp_L_standing at hp
  refine lv_aload_n hx hb eL_standing_0.1 rfl (lv_at hl 3 rfl) ?_
  refine lv_iconst (v := 0) hx hb eL_standing_0.2.1 (by decide) ?_
  refine lv_aload_n hx hb eL_standing_0.2.2.1 rfl (lv_at hl 0 rfl) ?_
  refine lv_iload_n hx hb eL_standing_0.2.2.2.1 rfl (lv_at hl 1 rfl) ?_
  refine lv_iload_n hx hb eL_standing_0.2.2.2.2.1 rfl (lv_at hl 2 rfl) ?_
  refine g_calliX (wc := (wd_X9_standing cI cC cZ cB cJ a_x a_tx a_pl a_ga a_tr a_no a_pa a_ro a_mk a_x_acts a_tr_x a_tr_height a_tr_worth a_tr_ripe a_tr_foot a_tr_fork a_tr_settings tr_fruits tr_standings tr_comingFruits tr_comingStandings tr_foot tr_fork)) hP hD hS hA [0, 1, 2, 3] [4] rfl rfl rfl rfl (g_runVX (As := [.int p0, .int p1]) (rest := [.int 0, .ref a_lo]) C0 hP hD hS [0, 1, 2, 3] rfl rfl 0 9 rfl rfl (c_X9_standing l hl9 dC dI cI cC cZ cB cJ a_x a_tx a_pl a_ga a_tr a_no a_pa a_ro a_mk a_x_acts a_tr_x a_tr_height a_tr_worth a_tr_ripe a_tr_foot a_tr_fork a_tr_settings s.heap.size p0 p1 tr_fruits tr_standings tr_comingFruits tr_comingStandings tr_foot tr_fork _ _ hp) q_1068 q_1069 q_1070 q_1071 q_256 h_X9_standing rfl rfl ⟨Nat.le_of_ble_eq_true rfl, Nat.le_of_ble_eq_true rfl⟩ rfl rfl hl.1 rfl (lv_room (Nat.le_of_ble_eq_true rfl)) eL_standing_0.2.2.2.2.2.1 ⟨Nat.le_of_ble_eq_true rfl, Nat.le_of_ble_eq_true rfl⟩) (fun ce q9 H locs hp hP hD hS hq hv hcl => ?_) (fun r u H locs hp hP hD hS => ?_)
  · have hPD := PDs (ws' := (wd_L_standing cI cC cZ cB cJ a_x a_tx a_pl a_ga a_tr a_no a_pa a_ro a_mk a_x_acts a_tr_x a_tr_height a_tr_worth a_tr_ripe a_tr_foot a_tr_fork a_tr_settings a_lo tr_fruits tr_standings tr_comingFruits tr_comingStandings tr_foot tr_fork lo)) hP hD [1, 2, 3, 4, 0] (by decide) rfl
    have hP := hPD.1
    have hD := hPD.2
    refine gk_catch (own := RL) (name := NSE) (E := NSE) hown ⟨0, 10, 13, 13⟩ htab (by decide) (by decide) (hts _ q_1067) (va_Nw.use rfl (hN _ n_castNSE)) hq hv hcl ?_
    refine lv_astore (lv' := [(4, .ref q9), (0, .ref a_x), (1, .int p0), (2, .int p1), (3, .ref a_lo)]) hx hb eL_standing_0.2.2.2.2.2.2.2.2.2.1 hl (by decide) rfl (fun ls hl => ?_)
    refine lv_iconst (v := 1) hx hb eL_standing_0.2.2.2.2.2.2.2.2.2.2.1 (by decide) ?_
    refine W.widen (k := 1) (n := 6) (Nat.le_refl _) (Nat.le_refl _) ?_
    exact W.iret (v := 1) hx hb hr (fun t ht hW => ⟨⟨1, lo, rfl, hp, by rw [ht]; exact hP, va_K.moved hW.alike hK, hD⟩, hS.F ht⟩) hS.2.2 eL_standing_0.2.2.2.2.2.2.2.2.2.2.2.1
  · have hPD := PDs (ws' := (wd_L_standing cI cC cZ cB cJ a_x a_tx a_pl a_ga a_tr a_no a_pa a_ro a_mk a_x_acts a_tr_x a_tr_height a_tr_worth a_tr_ripe a_tr_foot a_tr_fork a_tr_settings a_lo tr_fruits tr_standings tr_comingFruits tr_comingStandings tr_foot tr_fork lo)) hP hD [1, 2, 3, 4, 0] (by decide) rfl
    have hP := hPD.1
    have hD := hPD.2
    refine lv_i2l hx hb eL_standing_0.2.2.2.2.2.2.1 rfl ?_
    obtain ⟨f, ef⟩ : ∃ f : Nat → Int64, f = vp_updL lo (0 : Int32).toNatClampNeg r.toInt64 := ⟨_, rfl⟩
    have hp := hp f ef
    refine va_last hx hb hK hP hD hS 4 4 rfl rfl (g_in rfl) eL_standing_0.2.2.2.2.2.2.2.1 (fun H locs hP hD hS => ?_)
    have hP : va_P (dC, dI) classes (wd_L_standing cI cC cZ cB cJ a_x a_tx a_pl a_ga a_tr a_no a_pa a_ro a_mk a_x_acts a_tr_x a_tr_height a_tr_worth a_tr_ripe a_tr_foot a_tr_fork a_tr_settings a_lo tr_fruits tr_standings tr_comingFruits tr_comingStandings tr_foot tr_fork f) H := by rw [ef]; exact hP
    have hD : va_D (va_A (wd_L_standing cI cC cZ cB cJ a_x a_tx a_pl a_ga a_tr a_no a_pa a_ro a_mk a_x_acts a_tr_x a_tr_height a_tr_worth a_tr_ripe a_tr_foot a_tr_fork a_tr_settings a_lo tr_fruits tr_standings tr_comingFruits tr_comingStandings tr_foot tr_fork lo) s.heap.size) (wd_L_standing cI cC cZ cB cJ a_x a_tx a_pl a_ga a_tr a_no a_pa a_ro a_mk a_x_acts a_tr_x a_tr_height a_tr_worth a_tr_ripe a_tr_foot a_tr_fork a_tr_settings a_lo tr_fruits tr_standings tr_comingFruits tr_comingStandings tr_foot tr_fork f) := by rw [ef]; exact hD
    refine lv_goto (tgt := 17) hx hb eL_standing_0.2.2.2.2.2.2.2.2.1 (by decide) ?_
    refine lv_iconst (v := 0) hx hb eL_standing_0.2.2.2.2.2.2.2.2.2.2.2.2.1 (by decide) ?_
    refine W.widen (k := 1) (n := 6) (Nat.le_refl _) (Nat.le_refl _) ?_
    exact W.iret (v := 0) hx hb hr (fun t ht hW => ⟨⟨0, f, rfl, hp, by rw [ht]; exact hP, va_K.moved hW.alike hK, hD⟩, hS.F ht⟩) hS.2.2 eL_standing_0.2.2.2.2.2.2.2.2.2.2.2.2.2
abbrev wd_L_row (cI cC cZ cB cJ : ClassId) (a_x : Nat) (a_tx : Nat) (a_pl : Nat) (a_ga : Nat) (a_tr : Nat) (a_no : Nat) (a_pa : Nat) (a_ro : Nat) (a_mk : Nat) (a_x_acts : Nat) (a_ro_numbers : Nat) (a_lo : Nat) (ro_size : Int32) (ro_numbers : Nat → Int32) (lo : Nat → Int64) : va_W := [(a_x, .inr (9, [.ref a_tx, .ref a_pl, .ref a_ga, .ref a_tr, .ref a_no, .ref a_pa, .ref a_ro, .ref a_mk, .ref a_x_acts])), (a_ro, .inr (6, [.ref a_ro_numbers, .int ro_size])), (a_ro_numbers, .inl (cI, 16, .inl ro_numbers)), (a_lo, .inl (cJ, 1, .inr (.inl lo)))]
abbrev rm_L_row : Room := { frames := 7, cells := 1, slots := 6, locals := 121 }
def wp_L_row (post : Int32 → (Nat → Int64) → Prop) (p0 : Int32) (ro_size : Int32) (ro_numbers : Nat → Int32) (lo : Nat → Int64) : Prop := wp_X9_row (fun r => ∀ f : Nat → Int64, f = vp_updL lo (0 : Int32).toNatClampNeg r.toInt64 → post 0 f) (post 1 lo) p0 ro_size ro_numbers
set_option maxHeartbeats 4000000 in
set_option maxRecDepth 100000 in
theorem c_L_row (l : Launch) (hl9 : l.stackTraces = false) (dC : Nat → ClassId) (dI : Nat → Nat → Nat) (cI cC cZ cB cJ : ClassId) (a_x : Nat) (a_tx : Nat) (a_pl : Nat) (a_ga : Nat) (a_tr : Nat) (a_no : Nat) (a_pa : Nat) (a_ro : Nat) (a_mk : Nat) (a_x_acts : Nat) (a_ro_numbers : Nat) (a_lo : Nat) (sz : Nat) (p0 : Int32) (ro_size : Int32) (ro_numbers : Nat → Int32) (lo : Nat → Int64) (post : Int32 → (Nat → Int64) → Prop) (hw : wp_L_row post p0 ro_size ro_numbers lo) : Met l yL_row (Cond.codeWith yL_row cL_row 4 (some .int) [(0, 9, 12, 13)] :: W0) rm_L_row (va_Pc [.ref a_x, .int p0, .ref a_lo] (gPre (dC, dI) (tyl cI cC cZ cB cJ) (wd_L_row cI cC cZ cB cJ a_x a_tx a_pl a_ga a_tr a_no a_pa a_ro a_mk a_x_acts a_ro_numbers a_lo ro_size ro_numbers lo) sz)) (va_Qi (fun (r : Int32) (u : Nat → Int64) => post r u) (fun u t => gB (dC, dI) (tyl cI cC cZ cB cJ) (va_A (wd_L_row cI cC cZ cB cJ a_x a_tx a_pl a_ga a_tr a_no a_pa a_ro a_mk a_x_acts a_ro_numbers a_lo ro_size ro_numbers lo) sz) (wd_L_row cI cC cZ cB cJ a_x a_tx a_pl a_ga a_tr a_no a_pa a_ro a_mk a_x_acts a_ro_numbers a_lo ro_size ro_numbers u) t) (va_A (wd_L_row cI cC cZ cB cJ a_x a_tx a_pl a_ga a_tr a_no a_pa a_ro a_mk a_x_acts a_ro_numbers a_lo ro_size ro_numbers lo) sz)) 1 6 (va_A (wd_L_row cI cC cZ cB cJ a_x a_tx a_pl a_ga a_tr a_no a_pa a_ro a_mk a_x_acts a_ro_numbers a_lo ro_size ro_numbers lo) sz) := by
  refine va_MetW (cc := cL_row) (maxL := 4) (ret := some .int) (hh := [(0, 9, 12, 13)]) (by decide) rfl ?_
  intro p e s m args below meth c s₁ B hml hv
  obtain ⟨rfl, hsz, ⟨hP, hK, hD0⟩, hN, hZ⟩ := hv
  subst hsz
  have hts0 := atoms_spec (ws := (Cond.codeWith yL_row cL_row 4 (some .int) [(0, 9, 12, 13)] :: W0)) B.pre
  have hts : ∀ w ∈ W0, w.before _ s = true := fun w hw => hts0 w (List.mem_cons_of_mem _ hw)
  have htab := vx_table (x := yL_row) B (hts0 _ List.mem_cons_self)
  have hx := B.exec
  have hb := B.bytes
  have hr := B.returns
  have hlocks := B.notSynchronized
  have hown : s.vm.findClass RL = some m.cls := findClass_of_methodNamed B.named
  have hD := hD0.self (sz := s.heap.size)
  have hA : ∀ q, s.heap.size ≤ q → (va_A (wd_L_row cI cC cZ cB cJ a_x a_tx a_pl a_ga a_tr a_no a_pa a_ro a_mk a_x_acts a_ro_numbers a_lo ro_size ro_numbers lo) s.heap.size) q := fun q h => Or.inr h
  have C0 : gc cL_row (some .int) 4 RL (dC, dI) (tyl cI cC cZ cB cJ) (va_A (wd_L_row cI cC cZ cB cJ a_x a_tx a_pl a_ga a_tr a_no a_pa a_ro a_mk a_x_acts a_ro_numbers a_lo ro_size ro_numbers lo) s.heap.size) p s m ([.ref a_x, .int p0, .ref a_lo] : List Value).toArray meth c := ⟨hx, hb, hr, hml, hown, hts, hlocks, hA, hK, hN, hZ⟩
  have hS : va_S (va_A (wd_L_row cI cC cZ cB cJ a_x a_tx a_pl a_ga a_tr a_no a_pa a_ro a_mk a_x_acts a_ro_numbers a_lo ro_size ro_numbers lo) s.heap.size) s.heap s.heap [] := va_S.rf
  have hl := lv_entry [.ref a_x, .int p0, .ref a_lo] (n := 4) (Nat.le_of_ble_eq_true rfl)
  rw [lg_entry_eq]
  generalize (lg_sl [.ref a_x, .int p0, .ref a_lo] ++ List.replicate (4 - (lg_sl [.ref a_x, .int p0, .ref a_lo]).length) Slot.unset).toArray = ls at hl ⊢
  have hl : lv_has ls 4 [(0, .ref a_x), (1, .int p0), (2, .ref a_lo)] := hl
  have hp := hw
  unfold wp_L_row at hp
  refine lv_aload_n hx hb eL_row_0.1 rfl (lv_at hl 2 rfl) ?_
  refine lv_iconst (v := 0) hx hb eL_row_0.2.1 (by decide) ?_
  refine lv_aload_n hx hb eL_row_0.2.2.1 rfl (lv_at hl 0 rfl) ?_
  refine lv_iload_n hx hb eL_row_0.2.2.2.1 rfl (lv_at hl 1 rfl) ?_
  refine g_calliX (wc := (wd_X9_row cI cC cZ cB cJ a_x a_tx a_pl a_ga a_tr a_no a_pa a_ro a_mk a_x_acts a_ro_numbers ro_size ro_numbers)) hP hD hS hA [0, 1, 2] [3] rfl rfl rfl rfl (g_runVX (As := [.int p0]) (rest := [.int 0, .ref a_lo]) C0 hP hD hS [0, 1, 2] rfl rfl 0 9 rfl rfl (c_X9_row l hl9 dC dI cI cC cZ cB cJ a_x a_tx a_pl a_ga a_tr a_no a_pa a_ro a_mk a_x_acts a_ro_numbers s.heap.size p0 ro_size ro_numbers _ _ hp) q_1072 q_1073 q_1074 q_1075 q_256 h_X9_row rfl rfl ⟨Nat.le_of_ble_eq_true rfl, Nat.le_of_ble_eq_true rfl⟩ rfl rfl hl.1 rfl (lv_room (Nat.le_of_ble_eq_true rfl)) eL_row_0.2.2.2.2.1 ⟨Nat.le_of_ble_eq_true rfl, Nat.le_of_ble_eq_true rfl⟩) (fun ce q9 H locs hp hP hD hS hq hv hcl => ?_) (fun r u H locs hp hP hD hS => ?_)
  · have hPD := PDs (ws' := (wd_L_row cI cC cZ cB cJ a_x a_tx a_pl a_ga a_tr a_no a_pa a_ro a_mk a_x_acts a_ro_numbers a_lo ro_size ro_numbers lo)) hP hD [1, 2, 3, 0] (by decide) rfl
    have hP := hPD.1
    have hD := hPD.2
    refine gk_catch (own := RL) (name := NSE) (E := NSE) hown ⟨0, 9, 12, 13⟩ htab (by decide) (by decide) (hts _ q_1067) (va_Nw.use rfl (hN _ n_castNSE)) hq hv hcl ?_
    refine lv_astore_n (lv' := [(3, .ref q9), (0, .ref a_x), (1, .int p0), (2, .ref a_lo)]) hx hb eL_row_0.2.2.2.2.2.2.2.2.1 rfl hl (by decide) rfl (fun ls hl => ?_)
    refine lv_iconst (v := 1) hx hb eL_row_0.2.2.2.2.2.2.2.2.2.1 (by decide) ?_
    refine W.widen (k := 1) (n := 6) (Nat.le_refl _) (Nat.le_refl _) ?_
    exact W.iret (v := 1) hx hb hr (fun t ht hW => ⟨⟨1, lo, rfl, hp, by rw [ht]; exact hP, va_K.moved hW.alike hK, hD⟩, hS.F ht⟩) hS.2.2 eL_row_0.2.2.2.2.2.2.2.2.2.2.1
  · have hPD := PDs (ws' := (wd_L_row cI cC cZ cB cJ a_x a_tx a_pl a_ga a_tr a_no a_pa a_ro a_mk a_x_acts a_ro_numbers a_lo ro_size ro_numbers lo)) hP hD [1, 2, 3, 0] (by decide) rfl
    have hP := hPD.1
    have hD := hPD.2
    refine lv_i2l hx hb eL_row_0.2.2.2.2.2.1 rfl ?_
    obtain ⟨f, ef⟩ : ∃ f : Nat → Int64, f = vp_updL lo (0 : Int32).toNatClampNeg r.toInt64 := ⟨_, rfl⟩
    have hp := hp f ef
    refine va_last hx hb hK hP hD hS 3 4 rfl rfl (g_in rfl) eL_row_0.2.2.2.2.2.2.1 (fun H locs hP hD hS => ?_)
    have hP : va_P (dC, dI) classes (wd_L_row cI cC cZ cB cJ a_x a_tx a_pl a_ga a_tr a_no a_pa a_ro a_mk a_x_acts a_ro_numbers a_lo ro_size ro_numbers f) H := by rw [ef]; exact hP
    have hD : va_D (va_A (wd_L_row cI cC cZ cB cJ a_x a_tx a_pl a_ga a_tr a_no a_pa a_ro a_mk a_x_acts a_ro_numbers a_lo ro_size ro_numbers lo) s.heap.size) (wd_L_row cI cC cZ cB cJ a_x a_tx a_pl a_ga a_tr a_no a_pa a_ro a_mk a_x_acts a_ro_numbers a_lo ro_size ro_numbers f) := by rw [ef]; exact hD
    refine lv_goto (tgt := 15) hx hb eL_row_0.2.2.2.2.2.2.2.1 (by decide) ?_
    refine lv_iconst (v := 0) hx hb eL_row_0.2.2.2.2.2.2.2.2.2.2.2.1 (by decide) ?_
    refine W.widen (k := 1) (n := 6) (Nat.le_refl _) (Nat.le_refl _) ?_
    exact W.iret (v := 0) hx hb hr (fun t ht hW => ⟨⟨0, f, rfl, hp, by rw [ht]; exact hP, va_K.moved hW.alike hK, hD⟩, hS.F ht⟩) hS.2.2 eL_row_0.2.2.2.2.2.2.2.2.2.2.2.2
