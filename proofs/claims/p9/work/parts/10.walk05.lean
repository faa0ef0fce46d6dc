abbrev wd_X9_isYesOrNo (cI cC cZ cB cJ : ClassId) : va_W := []
abbrev q_X9_isYesOrNo (dC : Nat → ClassId) (dI : Nat → Nat → Nat) (cI cC cZ cB cJ : ClassId) (A : Nat → Prop) (post : Int32 → Prop) : Array Value → State → Outcome → State → Prop := va_Qi (fun (r : Int32) (u : Unit) => post r) (fun u t => gB (dC, dI) (tyl cI cC cZ cB cJ) A (wd_X9_isYesOrNo cI cC cZ cB cJ) t) A
abbrev rm_X9_isYesOrNo : Room := { frames := 0, cells := 0, slots := 0, locals := 0 }
section S_X9_isYesOrNo
variable {p : Program} {l : Launch} {e : Env} {s : State} {m : MethodId} {args : Array Value} {below : List Frame} {meth : Method} {c : Code} {dC : Nat → ClassId} {dI : Nat → Nat → Nat} {cI cC cZ cB cJ : ClassId} {A : Nat → Prop} {post : Int32 → Prop}
def ws_X9_isYesOrNo_9 (post : Int32 → Prop) : Prop := post 1
set_option maxHeartbeats 4000000 in
set_option maxRecDepth 100000 in
theorem ks_X9_isYesOrNo_9 (C0 : gc cX9_isYesOrNo (some .boolean) 1 RX9 (dC, dI) (tyl cI cC cZ cB cJ) A p s m args meth c) : ∀ (H : Heap) (locs : List Loc) (ls : Array Slot), (ws_X9_isYesOrNo_9 post) → va_P (dC, dI) classes (wd_X9_isYesOrNo cI cC cZ cB cJ) H → va_D A (wd_X9_isYesOrNo cI cC cZ cB cJ) → va_S A s.heap H locs → lv_has ls 1 [] → W p l e rm_X9_isYesOrNo s m args below meth c H locs 0 0 (MQ below (q_X9_isYesOrNo dC dI cI cC cZ cB cJ A post) args s 0 0 A) (F0 m 9 ls []) := by
  obtain ⟨hx, hb, hr, hml, hown, hts, hlocks, hA, hK, hN, tL, tM, hZL, hTL, hZM, hTM, hZX⟩ := id C0
  intro H locs ls hp hP hD hS hl
  unfold ws_X9_isYesOrNo_9 at hp
  refine lv_iconst (v := 1) hx hb eX9_isYesOrNo_0.2.2.2.2.2.1 (by decide) ?_
  refine lv_goto (tgt := 14) hx hb eX9_isYesOrNo_0.2.2.2.2.2.2.1 (by decide) ?_
  exact W.zret (v := 1) hx hb hr rfl (fun t ht hW => ⟨⟨1, (), rfl, hp, by rw [ht]; exact hP, va_K.moved hW.alike hK, hD⟩, hS.F ht⟩) hS.2.2 eX9_isYesOrNo_0.2.2.2.2.2.2.2.2
end S_X9_isYesOrNo
def wp_X9_isYesOrNo (post : Int32 → Prop) (p0 : Int32) : Prop := (p0 = 0 → ws_X9_isYesOrNo_9 post) ∧ (¬ p0 = 0 → (¬ p0 = 1 → post 0) ∧ (p0 = 1 → ws_X9_isYesOrNo_9 post))
set_option maxHeartbeats 4000000 in
set_option maxRecDepth 100000 in
theorem c_X9_isYesOrNo (l : Launch) (dC : Nat → ClassId) (dI : Nat → Nat → Nat) (cI cC cZ cB cJ : ClassId) (sz : Nat) (p0 : Int32) (post : Int32 → Prop) (hw : wp_X9_isYesOrNo post p0) : Met l yX9_isYesOrNo (gw yX9_isYesOrNo cX9_isYesOrNo 1 (some .boolean)) rm_X9_isYesOrNo (va_Pc [.int p0] (gPre (dC, dI) (tyl cI cC cZ cB cJ) (wd_X9_isYesOrNo cI cC cZ cB cJ) sz)) (q_X9_isYesOrNo dC dI cI cC cZ cB cJ (va_A (wd_X9_isYesOrNo cI cC cZ cB cJ) sz) post) 0 0 (va_A (wd_X9_isYesOrNo cI cC cZ cB cJ) sz) := by
  refine g_enter (own := RX9) (dC, dI) (tyl cI cC cZ cB cJ) (wd_X9_isYesOrNo cI cC cZ cB cJ) sz [.int p0] (fun A => q_X9_isYesOrNo dC dI cI cC cZ cB cJ A post) (by decide) rfl (Nat.le_of_ble_eq_true rfl) ?_
  intro p e s m args below meth c A H locs ls C0 hP hD hS hl
  have hl : lv_has ls 1 [(0, .int p0)] := hl
  obtain ⟨hx, hb, hr, hml, hown, hts, hlocks, hA, hK, hN, tL, tM, hZL, hTL, hZM, hTM, hZX⟩ := id C0
  have hp := hw
  unfold wp_X9_isYesOrNo at hp
  refine lv_iload_n hx hb eX9_isYesOrNo_0.1 rfl (lv_at hl 0 rfl) ?_
  refine lv_if_eq (tgt := 9) hx hb eX9_isYesOrNo_0.2.1 (by decide) (fun hc => ?_) (fun hc => ?_)
  · have hp := hp.1 hc
    exact ks_X9_isYesOrNo_9 C0 H locs ls hp hP hD hS (lv_sub hl [] rfl)
  · have hp := hp.2 hc
    refine lv_iload_n hx hb eX9_isYesOrNo_0.2.2.1 rfl (lv_at hl 0 rfl) ?_
    refine lv_iconst (v := 1) hx hb eX9_isYesOrNo_0.2.2.2.1 (by decide) ?_
    refine lv_icmp_ne (tgt := 13) hx hb eX9_isYesOrNo_0.2.2.2.2.1 (by decide) (fun hc => ?_) (fun hc => ?_)
    · have hp := hp.1 hc
      refine lv_iconst (v := 0) hx hb eX9_isYesOrNo_0.2.2.2.2.2.2.2.1 (by decide) ?_
      exact W.zret (v := 0) hx hb hr rfl (fun t ht hW => ⟨⟨0, (), rfl, hp, by rw [ht]; exact hP, va_K.moved hW.alike hK, hD⟩, hS.F ht⟩) hS.2.2 eX9_isYesOrNo_0.2.2.2.2.2.2.2.2
    · have hp := hp.2 hc
      exact ks_X9_isYesOrNo_9 C0 H locs ls hp hP hD hS (lv_sub hl [] rfl)
abbrev wd_X0_setHelper (cI cC cZ cB cJ : ClassId) (a_ga : Nat) (a_tr : Nat) (a_no : Nat) (a_ru : Nat) (no_apron : Int32) (no_basket : Int32) (no_ground : Int32) (no_bruised : Int32) (no_ladder : Int32) (no_helper : Int32) (no_today : Int32) (no_clock : Int32) : va_W := [(a_ga, .inr (0, [.ref a_tr, .ref a_no, .ref a_ru])), (a_no, .inr (2, [.int no_apron, .int no_basket, .int no_ground, .int no_bruised, .int no_ladder, .int no_helper, .int no_today, .int no_clock]))]
abbrev q_X0_setHelper (dC : Nat → ClassId) (dI : Nat → Nat → Nat) (cI cC cZ cB cJ : ClassId) (A : Nat → Prop) (a_ga : Nat) (a_tr : Nat) (a_no : Nat) (a_ru : Nat) (no_apron : Int32) (no_basket : Int32) (no_ground : Int32) (no_bruised : Int32) (no_ladder : Int32) (no_today : Int32) (no_clock : Int32) (post : Int32 → Int32 → Prop) : Array Value → State → Outcome → State → Prop := va_Qi (fun (r : Int32) (u : Int32) => post r u) (fun u t => gB (dC, dI) (tyl cI cC cZ cB cJ) A (wd_X0_setHelper cI cC cZ cB cJ a_ga a_tr a_no a_ru no_apron no_basket no_ground no_bruised no_ladder u no_today no_clock) t) A
abbrev rm_X0_setHelper : Room := { frames := 1, cells := 0, slots := 0, locals := 20 }
def wp_X0_setHelper (post : Int32 → Int32 → Prop) (p0 : Int32) (no_helper : Int32) : Prop := wp_X9_isYesOrNo (fun r_1 => (¬ r_1 = 0 → post no_helper p0) ∧ (r_1 = 0 → post (-1) no_helper)) p0
set_option maxHeartbeats 4000000 in
set_option maxRecDepth 100000 in
theorem c_X0_setHelper (l : Launch) (dC : Nat → ClassId) (dI : Nat → Nat → Nat) (cI cC cZ cB cJ : ClassId) (a_ga : Nat) (a_tr : Nat) (a_no : Nat) (a_ru : Nat) (sz : Nat) (p0 : Int32) (no_apron : Int32) (no_basket : Int32) (no_ground : Int32) (no_bruised : Int32) (no_ladder : Int32) (no_helper : Int32) (no_today : Int32) (no_clock : Int32) (post : Int32 → Int32 → Prop) (hw : wp_X0_setHelper post p0 no_helper) : Met l yX0_setHelper (gw yX0_setHelper cX0_setHelper 3 (some .int)) rm_X0_setHelper (va_Pc [.ref a_ga, .int p0] (gPre (dC, dI) (tyl cI cC cZ cB cJ) (wd_X0_setHelper cI cC cZ cB cJ a_ga a_tr a_no a_ru no_apron no_basket no_ground no_bruised no_ladder no_helper no_today no_clock) sz)) (q_X0_setHelper dC dI cI cC cZ cB cJ (va_A (wd_X0_setHelper cI cC cZ cB cJ a_ga a_tr a_no a_ru no_apron no_basket no_ground no_bruised no_ladder no_helper no_today no_clock) sz) a_ga a_tr a_no a_ru no_apron no_basket no_ground no_bruised no_ladder no_today no_clock post) 0 0 (va_A (wd_X0_setHelper cI cC cZ cB cJ a_ga a_tr a_no a_ru no_apron no_basket no_ground no_bruised no_ladder no_helper no_today no_clock) sz) := by
  refine g_enter (own := RX0) (dC, dI) (tyl cI cC cZ cB cJ) (wd_X0_setHelper cI cC cZ cB cJ a_ga a_tr a_no a_ru no_apron no_basket no_ground no_bruised no_ladder no_helper no_today no_clock) sz [.ref a_ga, .int p0] (fun A => q_X0_setHelper dC dI cI cC cZ cB cJ A a_ga a_tr a_no a_ru no_apron no_basket no_ground no_bruised no_ladder no_today no_clock post) (by decide) rfl (Nat.le_of_ble_eq_true rfl) ?_
  intro p e s m args below meth c A H locs ls C0 hP hD hS hl
  have hl : lv_has ls 3 [(0, .ref a_ga), (1, .int p0)] := hl
  obtain ⟨hx, hb, hr, hml, hown, hts, hlocks, hA, hK, hN, tL, tM, hZL, hTL, hZM, hTM, hZX⟩ := id C0
  have hp := hw
  unfold wp_X0_setHelper at hp
  refine lv_iload_n hx hb eX0_setHelper_0.1 rfl (lv_at hl 1 rfl) ?_
  refine g_calli (wc := (wd_X9_isYesOrNo cI cC cZ cB cJ)) hP hD hS hA [] [0, 1] rfl rfl rfl rfl (g_runSN (As := [.int p0]) (rest := []) C0 hP hD hS [] rfl rfl (c_X9_isYesOrNo l dC dI cI cC cZ cB cJ H.size p0 _ hp) q_260 n_1 q_261 q_256 h_X9_isYesOrNo rfl rfl ⟨Nat.le_of_ble_eq_true rfl, Nat.le_of_ble_eq_true rfl⟩ rfl rfl hl.1 rfl (lv_room (Nat.le_of_ble_eq_true rfl)) eX0_setHelper_0.2.1 ⟨Nat.zero_le _, Nat.zero_le _⟩) (fun r_1 u H locs hp hP hD hS => ?_)
  have hPD := PDs (ws' := (wd_X0_setHelper cI cC cZ cB cJ a_ga a_tr a_no a_ru no_apron no_basket no_ground no_bruised no_ladder no_helper no_today no_clock)) hP hD [0, 1] (by decide) rfl
  have hP := hPD.1
  have hD := hPD.2
  refine lv_if_ne (tgt := 9) hx hb eX0_setHelper_0.2.2.1 (by decide) (fun hc => ?_) (fun hc => ?_)
  · have hp := hp.1 hc
    refine lv_aload_n hx hb eX0_setHelper_0.2.2.2.2.2.1 rfl (lv_at hl 0 rfl) ?_
    refine va_get (D := (dC, dI)) (ci := 0) (v := .ref a_no) (C := RX0) (T := TX0) (N := 3) hx hb hts i_X0 hown hK hP 0 rfl rfl 1 (Nat.le_of_ble_eq_true rfl) (hts _ q_161) (fun _ h9 => h9) rfl eX0_setHelper_0.2.2.2.2.2.2.1 ?_
    refine va_get (D := (dC, dI)) (ci := 2) (v := .int no_helper) (C := RX2) (T := TX2) (N := 8) hx hb hts i_X2 hown hK hP 1 rfl rfl 5 (Nat.le_of_ble_eq_true rfl) (hts _ q_262) (fun _ h9 => h9) rfl eX0_setHelper_0.2.2.2.2.2.2.2.1 ?_
    refine lv_istore_n (lv' := [(2, .int no_helper), (0, .ref a_ga), (1, .int p0)]) hx hb eX0_setHelper_0.2.2.2.2.2.2.2.2.1 rfl hl (by decide) rfl (fun ls hl => ?_)
    refine lv_aload_n hx hb eX0_setHelper_0.2.2.2.2.2.2.2.2.2.1 rfl (lv_at hl 1 rfl) ?_
    refine va_get (D := (dC, dI)) (ci := 0) (v := .ref a_no) (C := RX0) (T := TX0) (N := 3) hx hb hts i_X0 hown hK hP 0 rfl rfl 1 (Nat.le_of_ble_eq_true rfl) (hts _ q_161) (fun _ h9 => h9) rfl eX0_setHelper_0.2.2.2.2.2.2.2.2.2.2.1 ?_
    refine lv_iload_n hx hb eX0_setHelper_0.2.2.2.2.2.2.2.2.2.2.2.1 rfl (lv_at hl 2 rfl) ?_
    refine va_put (D := (dC, dI)) (ci := 2) (v := .int p0) (ty := .int) (C := RX2) (T := TX2) (N := 8) hx hb hts i_X2 tyX2 tyX2_ok nmX2 hown hK hP hD hS 1 rfl rfl 5 (Nat.le_of_ble_eq_true rfl) (hts _ q_262) (fun _ h9 => h9) rfl (tyX2_ok 5 (Nat.le_of_ble_eq_true rfl)) rfl rfl (Nat.le_of_ble_eq_true rfl) eX0_setHelper_0.2.2.2.2.2.2.2.2.2.2.2.2.1 (fun H locs hP hD hS => ?_)
    have hP : va_P (dC, dI) classes (wd_X0_setHelper cI cC cZ cB cJ a_ga a_tr a_no a_ru no_apron no_basket no_ground no_bruised no_ladder p0 no_today no_clock) H := hP
    have hD : va_D A (wd_X0_setHelper cI cC cZ cB cJ a_ga a_tr a_no a_ru no_apron no_basket no_ground no_bruised no_ladder p0 no_today no_clock) := hD
    refine lv_iload_n hx hb eX0_setHelper_0.2.2.2.2.2.2.2.2.2.2.2.2.2.1 rfl (lv_at hl 0 rfl) ?_
    exact W.iret (v := no_helper) hx hb hr (fun t ht hW => ⟨⟨no_helper, p0, rfl, hp, by rw [ht]; exact hP, va_K.moved hW.alike hK, hD⟩, hS.F ht⟩) hS.2.2 eX0_setHelper_0.2.2.2.2.2.2.2.2.2.2.2.2.2.2
  · have hp := hp.2 hc
    refine lv_iconst (v := (-1)) hx hb eX0_setHelper_0.2.2.2.1 (by decide) ?_
    exact W.iret (v := (-1)) hx hb hr (fun t ht hW => ⟨⟨(-1), no_helper, rfl, hp, by rw [ht]; exact hP, va_K.moved hW.alike hK, hD⟩, hS.F ht⟩) hS.2.2 eX0_setHelper_0.2.2.2.2.1
abbrev wd_X9_foot (cI cC cZ cB cJ : ClassId) (a_x : Nat) (a_tx : Nat) (a_pl : Nat) (a_ga : Nat) (a_tr : Nat) (a_no : Nat) (a_pa : Nat) (a_ro : Nat) (a_mk : Nat) (a_x_acts : Nat) (a_ru : Nat) (a_pa_cells : Nat) (a_pa_keptCells : Nat) (a_pa_isKept : Nat) (no_apron : Int32) (no_basket : Int32) (no_ground : Int32) (no_bruised : Int32) (no_ladder : Int32) (no_helper : Int32) (no_today : Int32) (no_clock : Int32) (pa_undoable : Int32) (pa_free : Int32) (pa_cells : Nat → Int32) : va_W := [(a_x, .inr (9, [.ref a_tx, .ref a_pl, .ref a_ga, .ref a_tr, .ref a_no, .ref a_pa, .ref a_ro, .ref a_mk, .ref a_x_acts])), (a_ga, .inr (0, [.ref a_tr, .ref a_no, .ref a_ru])), (a_no, .inr (2, [.int no_apron, .int no_basket, .int no_ground, .int no_bruised, .int no_ladder, .int no_helper, .int no_today, .int no_clock])), (a_pa, .inr (4, [.ref a_pa_cells, .ref a_pa_keptCells, .ref a_pa_isKept, .int pa_undoable, .int pa_free])), (a_pa_cells, .inl (cI, 104, .inl pa_cells))]
abbrev q_X9_foot (dC : Nat → ClassId) (dI : Nat → Nat → Nat) (cI cC cZ cB cJ : ClassId) (A : Nat → Prop) (a_x : Nat) (a_tx : Nat) (a_pl : Nat) (a_ga : Nat) (a_tr : Nat) (a_no : Nat) (a_pa : Nat) (a_ro : Nat) (a_mk : Nat) (a_x_acts : Nat) (a_ru : Nat) (a_pa_cells : Nat) (a_pa_keptCells : Nat) (a_pa_isKept : Nat) (no_apron : Int32) (no_basket : Int32) (no_ground : Int32) (no_bruised : Int32) (no_ladder : Int32) (no_today : Int32) (no_clock : Int32) (post : Int32 → Int32 → Int32 → Int32 → (Nat → Int32) → Prop) : Array Value → State → Outcome → State → Prop := va_Qi (fun (r : Int32) (u : Int32 × Int32 × Int32 × (Nat → Int32)) => post r u.1 u.2.1 u.2.2.1 u.2.2.2) (fun u t => gB (dC, dI) (tyl cI cC cZ cB cJ) A (wd_X9_foot cI cC cZ cB cJ a_x a_tx a_pl a_ga a_tr a_no a_pa a_ro a_mk a_x_acts a_ru a_pa_cells a_pa_keptCells a_pa_isKept no_apron no_basket no_ground no_bruised no_ladder u.1 no_today no_clock u.2.1 u.2.2.1 u.2.2.2) t) A
abbrev rm_X9_foot : Room := { frames := 3, cells := 0, slots := 0, locals := 62 }
def wp_X9_foot (post : Int32 → Int32 → Int32 → Int32 → (Nat → Int32) → Prop) (p0 : Int32) (no_apron : Int32) (no_basket : Int32) (no_ground : Int32) (no_bruised : Int32) (no_ladder : Int32) (no_helper : Int32) (no_today : Int32) (no_clock : Int32) (pa_undoable : Int32) (pa_free : Int32) (pa_cells : Nat → Int32) : Prop := wp_X4_note (fun pa_cells_1 => wp_X0_setHelper (fun r_2 no_helper_3 => wp_X9_holdIfDone (fun r_4 pa_undoable_5 pa_free_6 => post r_4 no_helper_3 pa_undoable_5 pa_free_6 pa_cells_1) r_2 pa_undoable pa_free) p0 no_helper) no_apron no_basket no_ground no_bruised no_ladder no_helper no_today no_clock pa_free pa_cells
set_option maxHeartbeats 4000000 in
set_option maxRecDepth 100000 in
theorem c_X9_foot (l : Launch) (dC : Nat → ClassId) (dI : Nat → Nat → Nat) (cI cC cZ cB cJ : ClassId) (a_x : Nat) (a_tx : Nat) (a_pl : Nat) (a_ga : Nat) (a_tr : Nat) (a_no : Nat) (a_pa : Nat) (a_ro : Nat) (a_mk : Nat) (a_x_acts : Nat) (a_ru : Nat) (a_pa_cells : Nat) (a_pa_keptCells : Nat) (a_pa_isKept : Nat) (sz : Nat) (p0 : Int32) (no_apron : Int32) (no_basket : Int32) (no_ground : Int32) (no_bruised : Int32) (no_ladder : Int32) (no_helper : Int32) (no_today : Int32) (no_clock : Int32) (pa_undoable : Int32) (pa_free : Int32) (pa_cells : Nat → Int32) (post : Int32 → Int32 → Int32 → Int32 → (Nat → Int32) → Prop) (hw : wp_X9_foot post p0 no_apron no_basket no_ground no_bruised no_ladder no_helper no_today no_clock pa_undoable pa_free pa_cells) : Met l yX9_foot (gw yX9_foot cX9_foot 2 (some .int)) rm_X9_foot (va_Pc [.ref a_x, .int p0] (gPre (dC, dI) (tyl cI cC cZ cB cJ) (wd_X9_foot cI cC cZ cB cJ a_x a_tx a_pl a_ga a_tr a_no a_pa a_ro a_mk a_x_acts a_ru a_pa_cells a_pa_keptCells a_pa_isKept no_apron no_basket no_ground no_bruised no_ladder no_helper no_today no_clock pa_undoable pa_free pa_cells) sz)) (q_X9_foot dC dI cI cC cZ cB cJ (va_A (wd_X9_foot cI cC cZ cB cJ a_x a_tx a_pl a_ga a_tr a_no a_pa a_ro a_mk a_x_acts a_ru a_pa_cells a_pa_keptCells a_pa_isKept no_apron no_basket no_ground no_bruised no_ladder no_helper no_today no_clock pa_undoable pa_free pa_cells) sz) a_x a_tx a_pl a_ga a_tr a_no a_pa a_ro a_mk a_x_acts a_ru a_pa_cells a_pa_keptCells a_pa_isKept no_apron no_basket no_ground no_bruised no_ladder no_today no_clock post) 0 0 (va_A (wd_X9_foot cI cC cZ cB cJ a_x a_tx a_pl a_ga a_tr a_no a_pa a_ro a_mk a_x_acts a_ru a_pa_cells a_pa_keptCells a_pa_isKept no_apron no_basket no_ground no_bruised no_ladder no_helper no_today no_clock pa_undoable pa_free pa_cells) sz) := by
  refine g_enter (own := RX9) (dC, dI) (tyl cI cC cZ cB cJ) (wd_X9_foot cI cC cZ cB cJ a_x a_tx a_pl a_ga a_tr a_no a_pa a_ro a_mk a_x_acts a_ru a_pa_cells a_pa_keptCells a_pa_isKept no_apron no_basket no_ground no_bruised no_ladder no_helper no_today no_clock pa_undoable pa_free pa_cells) sz [.ref a_x, .int p0] (fun A => q_X9_foot dC dI cI cC cZ cB cJ A a_x a_tx a_pl a_ga a_tr a_no a_pa a_ro a_mk a_x_acts a_ru a_pa_cells a_pa_keptCells a_pa_isKept no_apron no_basket no_ground no_bruised no_ladder no_today no_clock post) (by decide) rfl (Nat.le_of_ble_eq_true rfl) ?_
  intro p e s m args below meth c A H locs ls C0 hP hD hS hl
  have hl : lv_has ls 2 [(0, .ref a_x), (1, .int p0)] := hl
  obtain ⟨hx, hb, hr, hml, hown, hts, hlocks, hA, hK, hN, tL, tM, hZL, hTL, hZM, hTM, hZX⟩ := id C0
  have hp := hw
  unfold wp_X9_foot at hp
  refine lv_aload_n hx hb eX9_foot_0.1 rfl (lv_at hl 0 rfl) ?_
  refine va_get (D := (dC, dI)) (ci := 9) (v := .ref a_pa) (C := RX9) (T := TX9) (N := 9) hx hb hts i_X9 hown hK hP 0 rfl rfl 5 (Nat.le_of_ble_eq_true rfl) (hts _ q_91) (fun _ h9 => h9) rfl eX9_foot_0.2.1 ?_
  refine lv_aload_n hx hb eX9_foot_0.2.2.1 rfl (lv_at hl 0 rfl) ?_
  refine va_get (D := (dC, dI)) (ci := 9) (v := .ref a_no) (C := RX9) (T := TX9) (N := 9) hx hb hts i_X9 hown hK hP 0 rfl rfl 4 (Nat.le_of_ble_eq_true rfl) (hts _ q_179) (fun _ h9 => h9) rfl eX9_foot_0.2.2.2.1 ?_
  refine g_callv (wc := (wd_X4_note cI cC cZ cB cJ a_no a_pa a_pa_cells a_pa_keptCells a_pa_isKept no_apron no_basket no_ground no_bruised no_ladder no_helper no_today no_clock pa_undoable pa_free pa_cells)) hP hD hS hA [2, 3, 4] [0, 1] rfl rfl rfl rfl (g_runV (As := [.ref a_no]) (rest := []) C0 hP hD hS [2, 3, 4] rfl rfl 3 4 rfl rfl (c_X4_note l dC dI cI cC cZ cB cJ a_no a_pa a_pa_cells a_pa_keptCells a_pa_isKept H.size no_apron no_basket no_ground no_bruised no_ladder no_helper no_today no_clock pa_undoable pa_free pa_cells _ hp) q_247 q_250 q_248 q_249 q_93 h_X4_note rfl rfl ⟨Nat.le_of_ble_eq_true rfl, Nat.le_of_ble_eq_true rfl⟩ rfl rfl hl.1 rfl (lv_room (Nat.le_of_ble_eq_true rfl)) eX9_foot_0.2.2.2.2.1 ⟨Nat.zero_le _, Nat.zero_le _⟩) (fun u H locs hp hP hD hS => ?_)
  obtain ⟨pa_cells_1, rfl⟩ : ∃ z, z = u := ⟨_, rfl⟩
  have hPD := PDs (ws' := (wd_X9_foot cI cC cZ cB cJ a_x a_tx a_pl a_ga a_tr a_no a_pa a_ro a_mk a_x_acts a_ru a_pa_cells a_pa_keptCells a_pa_isKept no_apron no_basket no_ground no_bruised no_ladder no_helper no_today no_clock pa_undoable pa_free pa_cells_1)) hP hD [0, 1, 2, 3, 4] (by decide) rfl
  have hP := hPD.1
  have hD := hPD.2
  refine lv_aload_n hx hb eX9_foot_0.2.2.2.2.2.1 rfl (lv_at hl 0 rfl) ?_
  refine lv_aload_n hx hb eX9_foot_0.2.2.2.2.2.2.1 rfl (lv_at hl 0 rfl) ?_
  refine va_get (D := (dC, dI)) (ci := 9) (v := .ref a_ga) (C := RX9) (T := TX9) (N := 9) hx hb hts i_X9 hown hK hP 0 rfl rfl 2 (Nat.le_of_ble_eq_true rfl) (hts _ q_146) (fun _ h9 => h9) rfl eX9_foot_0.2.2.2.2.2.2.2.1 ?_
  refine lv_iload_n hx hb eX9_foot_0.2.2.2.2.2.2.2.2.1 rfl (lv_at hl 1 rfl) ?_
  refine g_calli (wc := (wd_X0_setHelper cI cC cZ cB cJ a_ga a_tr a_no a_ru no_apron no_basket no_ground no_bruised no_ladder no_helper no_today no_clock)) hP hD hS hA [1, 2] [0, 3, 4] rfl rfl rfl rfl (g_runV (As := [.int p0]) (rest := [.ref a_x]) C0 hP hD hS [1, 2] rfl rfl 1 0 rfl rfl (c_X0_setHelper l dC dI cI cC cZ cB cJ a_ga a_tr a_no a_ru H.size p0 no_apron no_basket no_ground no_bruised no_ladder no_helper no_today no_clock _ hp) q_263 q_266 q_264 q_265 q_187 h_X0_setHelper rfl rfl ⟨Nat.le_of_ble_eq_true rfl, Nat.le_of_ble_eq_true rfl⟩ rfl rfl hl.1 rfl (lv_room (Nat.le_of_ble_eq_true rfl)) eX9_foot_0.2.2.2.2.2.2.2.2.2.1 ⟨Nat.zero_le _, Nat.zero_le _⟩) (fun r_2 u H locs hp hP hD hS => ?_)
  obtain ⟨no_helper_3, rfl⟩ : ∃ z, z = u := ⟨_, rfl⟩
  have hPD := PDs (ws' := (wd_X9_foot cI cC cZ cB cJ a_x a_tx a_pl a_ga a_tr a_no a_pa a_ro a_mk a_x_acts a_ru a_pa_cells a_pa_keptCells a_pa_isKept no_apron no_basket no_ground no_bruised no_ladder no_helper_3 no_today no_clock pa_undoable pa_free pa_cells_1)) hP hD [0, 3, 4, 1, 2] (by decide) rfl
  have hP := hPD.1
  have hD := hPD.2
  refine g_calli (wc := (wd_X9_holdIfDone cI cC cZ cB cJ a_x a_tx a_pl a_ga a_tr a_no a_pa a_ro a_mk a_x_acts a_pa_cells a_pa_keptCells a_pa_isKept pa_undoable pa_free)) hP hD hS hA [0, 3] [1, 2, 4] rfl rfl rfl rfl (g_runV (As := [.int r_2]) (rest := []) C0 hP hD hS [0, 3] rfl rfl 0 9 rfl rfl (c_X9_holdIfDone l dC dI cI cC cZ cB cJ a_x a_tx a_pl a_ga a_tr a_no a_pa a_ro a_mk a_x_acts a_pa_cells a_pa_keptCells a_pa_isKept H.size r_2 pa_undoable pa_free _ hp) q_255 q_259 q_257 q_258 q_256 h_X9_holdIfDone rfl rfl ⟨Nat.le_of_ble_eq_true rfl, Nat.le_of_ble_eq_true rfl⟩ rfl rfl hl.1 rfl (lv_room (Nat.le_of_ble_eq_true rfl)) eX9_foot_0.2.2.2.2.2.2.2.2.2.2.1 ⟨Nat.zero_le _, Nat.zero_le _⟩) (fun r_4 u H locs hp hP hD hS => ?_)
  obtain ⟨pa_undoable_5, pa_free_6⟩ := u
  have hPD := PDs (ws' := (wd_X9_foot cI cC cZ cB cJ a_x a_tx a_pl a_ga a_tr a_no a_pa a_ro a_mk a_x_acts a_ru a_pa_cells a_pa_keptCells a_pa_isKept no_apron no_basket no_ground no_bruised no_ladder no_helper_3 no_today no_clock pa_undoable_5 pa_free_6 pa_cells_1)) hP hD [3, 0, 1, 4, 2] (by decide) rfl
  have hP := hPD.1
  have hD := hPD.2
  exact W.iret (v := r_4) hx hb hr (fun t ht hW => ⟨⟨r_4, (no_helper_3, pa_undoable_5, pa_free_6, pa_cells_1), rfl, hp, by rw [ht]; exact hP, va_K.moved hW.alike hK, hD⟩, hS.F ht⟩) hS.2.2 eX9_foot_0.2.2.2.2.2.2.2.2.2.2.2
abbrev wd_X3_reach (cI cC cZ cB cJ : ClassId) (a_tr : Nat) (a_tr_x : Nat) (a_tr_height : Nat) (a_tr_worth : Nat) (a_tr_ripe : Nat) (a_tr_foot : Nat) (a_tr_fork : Nat) (a_tr_settings : Nat) (tr_fruits : Int32) (tr_standings : Int32) (tr_comingFruits : Int32) (tr_comingStandings : Int32) (tr_settings : Nat → Int32) : va_W := [(a_tr, .inr (3, [.ref a_tr_x, .ref a_tr_height, .ref a_tr_worth, .ref a_tr_ripe, .ref a_tr_foot, .ref a_tr_fork, .ref a_tr_settings, .int tr_fruits, .int tr_standings, .int tr_comingFruits, .int tr_comingStandings])), (a_tr_settings, .inl (cI, 5, .inl tr_settings))]
abbrev q_X3_reach (dC : Nat → ClassId) (dI : Nat → Nat → Nat) (cI cC cZ cB cJ : ClassId) (A : Nat → Prop) (a_tr : Nat) (a_tr_x : Nat) (a_tr_height : Nat) (a_tr_worth : Nat) (a_tr_ripe : Nat) (a_tr_foot : Nat) (a_tr_fork : Nat) (a_tr_settings : Nat) (tr_fruits : Int32) (tr_standings : Int32) (tr_comingFruits : Int32) (tr_comingStandings : Int32) (tr_settings : Nat → Int32) (post : Int32 → Prop) : Array Value → State → Outcome → State → Prop := va_Qi (fun (r : Int32) (u : Unit) => post r) (fun u t => gB (dC, dI) (tyl cI cC cZ cB cJ) A (wd_X3_reach cI cC cZ cB cJ a_tr a_tr_x a_tr_height a_tr_worth a_tr_ripe a_tr_foot a_tr_fork a_tr_settings tr_fruits tr_standings tr_comingFruits tr_comingStandings tr_settings) t) A
abbrev rm_X3_reach : Room := { frames := 0, cells := 0, slots := 0, locals := 0 }
def wp_X3_reach (post : Int32 → Prop) (p0 : Int32) (p1 : Int32) (tr_settings : Nat → Int32) : Prop := ∀ v_1 : Int32, v_1 = tr_settings (0 : Int32).toNatClampNeg → ∀ v_2 : Int32, v_2 = v_1 + (p0 * (tr_settings (1 : Int32).toNatClampNeg)) → post (v_2 + (p1 * (tr_settings (2 : Int32).toNatClampNeg)))
set_option maxHeartbeats 4000000 in
set_option maxRecDepth 100000 in
theorem c_X3_reach (l : Launch) (dC : Nat → ClassId) (dI : Nat → Nat → Nat) (cI cC cZ cB cJ : ClassId) (a_tr : Nat) (a_tr_x : Nat) (a_tr_height : Nat) (a_tr_worth : Nat) (a_tr_ripe : Nat) (a_tr_foot : Nat) (a_tr_fork : Nat) (a_tr_settings : Nat) (sz : Nat) (p0 : Int32) (p1 : Int32) (tr_fruits : Int32) (tr_standings : Int32) (tr_comingFruits : Int32) (tr_comingStandings : Int32) (tr_settings : Nat → Int32) (post : Int32 → Prop) (hw : wp_X3_reach post p0 p1 tr_settings) : Met l yX3_reach (gw yX3_reach cX3_reach 3 (some .int)) rm_X3_reach (va_Pc [.ref a_tr, .int p0, .int p1] (gPre (dC, dI) (tyl cI cC cZ cB cJ) (wd_X3_reach cI cC cZ cB cJ a_tr a_tr_x a_tr_height a_tr_worth a_tr_ripe a_tr_foot a_tr_fork a_tr_settings tr_fruits tr_standings tr_comingFruits tr_comingStandings tr_settings) sz)) (q_X3_reach dC dI cI cC cZ cB cJ (va_A (wd_X3_reach cI cC cZ cB cJ a_tr a_tr_x a_tr_height a_tr_worth a_tr_ripe a_tr_foot a_tr_fork a_tr_settings tr_fruits tr_standings tr_comingFruits tr_comingStandings tr_settings) sz) a_tr a_tr_x a_tr_height a_tr_worth a_tr_ripe a_tr_foot a_tr_fork a_tr_settings tr_fruits tr_standings tr_comingFruits tr_comingStandings tr_settings post) 0 0 (va_A (wd_X3_reach cI cC cZ cB cJ a_tr a_tr_x a_tr_height a_tr_worth a_tr_ripe a_tr_foot a_tr_fork a_tr_settings tr_fruits tr_standings tr_comingFruits tr_comingStandings tr_settings) sz) := by
  refine g_enter (own := RX3) (dC, dI) (tyl cI cC cZ cB cJ) (wd_X3_reach cI cC cZ cB cJ a_tr a_tr_x a_tr_height a_tr_worth a_tr_ripe a_tr_foot a_tr_fork a_tr_settings tr_fruits tr_standings tr_comingFruits tr_comingStandings tr_settings) sz [.ref a_tr, .int p0, .int p1] (fun A => q_X3_reach dC dI cI cC cZ cB cJ A a_tr a_tr_x a_tr_height a_tr_worth a_tr_ripe a_tr_foot a_tr_fork a_tr_settings tr_fruits tr_standings tr_comingFruits tr_comingStandings tr_settings post) (by decide) rfl (Nat.le_of_ble_eq_true rfl) ?_
  intro p e s m args below meth c A H locs ls C0 hP hD hS hl
  have hl : lv_has ls 3 [(0, .ref a_tr), (1, .int p0), (2, .int p1)] := hl
  obtain ⟨hx, hb, hr, hml, hown, hts, hlocks, hA, hK, hN, tL, tM, hZL, hTL, hZM, hTM, hZX⟩ := id C0
  have hp := hw
  unfold wp_X3_reach at hp
  refine lv_aload_n hx hb eX3_reach_0.1 rfl (lv_at hl 0 rfl) ?_
  refine va_get (D := (dC, dI)) (ci := 3) (v := .ref a_tr_settings) (C := RX3) (T := TX3) (N := 11) hx hb hts i_X3 hown hK hP 0 rfl rfl 6 (Nat.le_of_ble_eq_true rfl) (hts _ q_225) (fun _ h9 => h9) rfl eX3_reach_0.2.1 ?_
  refine lv_iconst (v := 0) hx hb eX3_reach_0.2.2.1 (by decide) ?_
  refine va_iald hx hb hK hP 1 0 rfl rfl (g_in rfl) eX3_reach_0.2.2.2.1 ?_
  refine lv_topi (fun v_1 ev_1 => ?_)
  have hp := hp v_1 ev_1
  refine lv_iload_n hx hb eX3_reach_0.2.2.2.2.1 rfl (lv_at hl 1 rfl) ?_
  refine lv_aload_n hx hb eX3_reach_0.2.2.2.2.2.1 rfl (lv_at hl 0 rfl) ?_
  refine va_get (D := (dC, dI)) (ci := 3) (v := .ref a_tr_settings) (C := RX3) (T := TX3) (N := 11) hx hb hts i_X3 hown hK hP 0 rfl rfl 6 (Nat.le_of_ble_eq_true rfl) (hts _ q_225) (fun _ h9 => h9) rfl eX3_reach_0.2.2.2.2.2.2.1 ?_
  refine lv_iconst (v := 1) hx hb eX3_reach_0.2.2.2.2.2.2.2.1 (by decide) ?_
  refine va_iald hx hb hK hP 1 0 rfl rfl (g_in rfl) eX3_reach_0.2.2.2.2.2.2.2.2.1 ?_
  refine lv_imul hx hb eX3_reach_0.2.2.2.2.2.2.2.2.2.1 ?_
  refine lv_iadd hx hb eX3_reach_0.2.2.2.2.2.2.2.2.2.2.1 ?_
  refine lv_topi (fun v_2 ev_2 => ?_)
  have hp := hp v_2 ev_2
  refine lv_iload_n hx hb eX3_reach_0.2.2.2.2.2.2.2.2.2.2.2.1 rfl (lv_at hl 2 rfl) ?_
  refine lv_aload_n hx hb eX3_reach_0.2.2.2.2.2.2.2.2.2.2.2.2.1 rfl (lv_at hl 0 rfl) ?_
  refine va_get (D := (dC, dI)) (ci := 3) (v := .ref a_tr_settings) (C := RX3) (T := TX3) (N := 11) hx hb hts i_X3 hown hK hP 0 rfl rfl 6 (Nat.le_of_ble_eq_true rfl) (hts _ q_225) (fun _ h9 => h9) rfl eX3_reach_0.2.2.2.2.2.2.2.2.2.2.2.2.2.1 ?_
  refine lv_iconst (v := 2) hx hb eX3_reach_0.2.2.2.2.2.2.2.2.2.2.2.2.2.2.1 (by decide) ?_
  refine va_iald hx hb hK hP 1 0 rfl rfl (g_in rfl) eX3_reach_0.2.2.2.2.2.2.2.2.2.2.2.2.2.2.2 ?_
  refine lv_imul hx hb eX3_reach_22.1 ?_
  refine lv_iadd hx hb eX3_reach_22.2.1 ?_
  exact W.iret (v := v_2 + (p1 * (tr_settings (2 : Int32).toNatClampNeg))) hx hb hr (fun t ht hW => ⟨⟨v_2 + (p1 * (tr_settings (2 : Int32).toNatClampNeg)), (), rfl, hp, by rw [ht]; exact hP, va_K.moved hW.alike hK, hD⟩, hS.F ht⟩) hS.2.2 eX3_reach_22.2.2
abbrev wd_X3_aside (cI cC cZ cB cJ : ClassId) (a_tr : Nat) (a_tr_x : Nat) (a_tr_height : Nat) (a_tr_worth : Nat) (a_tr_ripe : Nat) (a_tr_foot : Nat) (a_tr_fork : Nat) (a_tr_settings : Nat) (tr_fruits : Int32) (tr_standings : Int32) (tr_comingFruits : Int32) (tr_comingStandings : Int32) (tr_x : Nat → Int32) (tr_foot : Nat → Int32) : va_W := [(a_tr, .inr (3, [.ref a_tr_x, .ref a_tr_height, .ref a_tr_worth, .ref a_tr_ripe, .ref a_tr_foot, .ref a_tr_fork, .ref a_tr_settings, .int tr_fruits, .int tr_standings, .int tr_comingFruits, .int tr_comingStandings])), (a_tr_x, .inl (cI, 16, .inl tr_x)), (a_tr_foot, .inl (cI, 8, .inl tr_foot))]
abbrev q_X3_aside (dC : Nat → ClassId) (dI : Nat → Nat → Nat) (cI cC cZ cB cJ : ClassId) (A : Nat → Prop) (a_tr : Nat) (a_tr_x : Nat) (a_tr_height : Nat) (a_tr_worth : Nat) (a_tr_ripe : Nat) (a_tr_foot : Nat) (a_tr_fork : Nat) (a_tr_settings : Nat) (tr_fruits : Int32) (tr_standings : Int32) (tr_comingFruits : Int32) (tr_comingStandings : Int32) (tr_x : Nat → Int32) (tr_foot : Nat → Int32) (post : Int32 → Prop) : Array Value → State → Outcome → State → Prop := va_Qi (fun (r : Int32) (u : Unit) => post r) (fun u t => gB (dC, dI) (tyl cI cC cZ cB cJ) A (wd_X3_aside cI cC cZ cB cJ a_tr a_tr_x a_tr_height a_tr_worth a_tr_ripe a_tr_foot a_tr_fork a_tr_settings tr_fruits tr_standings tr_comingFruits tr_comingStandings tr_x tr_foot) t) A
abbrev rm_X3_aside : Room := { frames := 0, cells := 0, slots := 0, locals := 0 }
def wp_X3_aside (post : Int32 → Prop) (p0 : Int32) (p1 : Int32) (tr_x : Nat → Int32) (tr_foot : Nat → Int32) : Prop := vp_in p0 16 ∧ (∀ v_1 : Int32, v_1 = tr_x p0.toNatClampNeg → vp_in p1 8 ∧ ((v_1 ≤ (tr_foot p1.toNatClampNeg) → vp_in p1 8 ∧ (∀ v_2 : Int32, v_2 = tr_foot p1.toNatClampNeg → vp_in p0 16 ∧ (post (v_2 - (tr_x p0.toNatClampNeg))))) ∧ (¬ v_1 ≤ (tr_foot p1.toNatClampNeg) → vp_in p0 16 ∧ (∀ v_3 : Int32, v_3 = tr_x p0.toNatClampNeg → vp_in p1 8 ∧ (∀ v_4 : Int32, v_4 = v_3 - (tr_foot p1.toNatClampNeg) → post v_4)))))
set_option maxHeartbeats 4000000 in
set_option maxRecDepth 100000 in
theorem c_X3_aside (l : Launch) (dC : Nat → ClassId) (dI : Nat → Nat → Nat) (cI cC cZ cB cJ : ClassId) (a_tr : Nat) (a_tr_x : Nat) (a_tr_height : Nat) (a_tr_worth : Nat) (a_tr_ripe : Nat) (a_tr_foot : Nat) (a_tr_fork : Nat) (a_tr_settings : Nat) (sz : Nat) (p0 : Int32) (p1 : Int32) (tr_fruits : Int32) (tr_standings : Int32) (tr_comingFruits : Int32) (tr_comingStandings : Int32) (tr_x : Nat → Int32) (tr_foot : Nat → Int32) (post : Int32 → Prop) (hw : wp_X3_aside post p0 p1 tr_x tr_foot) : Met l yX3_aside (gw yX3_aside cX3_aside 3 (some .int)) rm_X3_aside (va_Pc [.ref a_tr, .int p0, .int p1] (gPre (dC, dI) (tyl cI cC cZ cB cJ) (wd_X3_aside cI cC cZ cB cJ a_tr a_tr_x a_tr_height a_tr_worth a_tr_ripe a_tr_foot a_tr_fork a_tr_settings tr_fruits tr_standings tr_comingFruits tr_comingStandings tr_x tr_foot) sz)) (q_X3_aside dC dI cI cC cZ cB cJ (va_A (wd_X3_aside cI cC cZ cB cJ a_tr a_tr_x a_tr_height a_tr_worth a_tr_ripe a_tr_foot a_tr_fork a_tr_settings tr_fruits tr_standings tr_comingFruits tr_comingStandings tr_x tr_foot) sz) a_tr a_tr_x a_tr_height a_tr_worth a_tr_ripe a_tr_foot a_tr_fork a_tr_settings tr_fruits tr_standings tr_comingFruits tr_comingStandings tr_x tr_foot post) 0 0 (va_A (wd_X3_aside cI cC cZ cB cJ a_tr a_tr_x a_tr_height a_tr_worth a_tr_ripe a_tr_foot a_tr_fork a_tr_settings tr_fruits tr_standings tr_comingFruits tr_comingStandings tr_x tr_foot) sz) := by
  refine g_enter (own := RX3) (dC, dI) (tyl cI cC cZ cB cJ) (wd_X3_aside cI cC cZ cB cJ a_tr a_tr_x a_tr_height a_tr_worth a_tr_ripe a_tr_foot a_tr_fork a_tr_settings tr_fruits tr_standings tr_comingFruits tr_comingStandings tr_x tr_foot) sz [.ref a_tr, .int p0, .int p1] (fun A => q_X3_aside dC dI cI cC cZ cB cJ A a_tr a_tr_x a_tr_height a_tr_worth a_tr_ripe a_tr_foot a_tr_fork a_tr_settings tr_fruits tr_standings tr_comingFruits tr_comingStandings tr_x tr_foot post) (by decide) rfl (Nat.le_of_ble_eq_true rfl) ?_
  intro p e s m args below meth c A H locs ls C0 hP hD hS hl
  have hl : lv_has ls 3 [(0, .ref a_tr), (1, .int p0), (2, .int p1)] := hl
  obtain ⟨hx, hb, hr, hml, hown, hts, hlocks, hA, hK, hN, tL, tM, hZL, hTL, hZM, hTM, hZX⟩ := id C0
  have hp := hw
  unfold wp_X3_aside at hp
  refine lv_aload_n hx hb eX3_aside_0.1 rfl (lv_at hl 0 rfl) ?_
  refine va_get (D := (dC, dI)) (ci := 3) (v := .ref a_tr_x) (C := RX3) (T := TX3) (N := 11) hx hb hts i_X3 hown hK hP 0 rfl rfl 0 (Nat.le_of_ble_eq_true rfl) (hts _ q_45) (fun _ h9 => h9) rfl eX3_aside_0.2.1 ?_
  refine lv_iload_n hx hb eX3_aside_0.2.2.1 rfl (lv_at hl 1 rfl) ?_
  have hin := hp.1
  have hp := hp.2
  refine va_iald hx hb hK hP 1 0 rfl rfl hin eX3_aside_0.2.2.2.1 ?_
  refine lv_topi (fun v_1 ev_1 => ?_)
  have hp := hp v_1 ev_1
  refine lv_aload_n hx hb eX3_aside_0.2.2.2.2.1 rfl (lv_at hl 0 rfl) ?_
  refine va_get (D := (dC, dI)) (ci := 3) (v := .ref a_tr_foot) (C := RX3) (T := TX3) (N := 11) hx hb hts i_X3 hown hK hP 0 rfl rfl 4 (Nat.le_of_ble_eq_true rfl) (hts _ q_53) (fun _ h9 => h9) rfl eX3_aside_0.2.2.2.2.2.1 ?_
  refine lv_iload_n hx hb eX3_aside_0.2.2.2.2.2.2.1 rfl (lv_at hl 2 rfl) ?_
  have hin := hp.1
  have hp := hp.2
  refine va_iald hx hb hK hP 2 0 rfl rfl hin eX3_aside_0.2.2.2.2.2.2.2.1 ?_
  refine lv_icmp_le (tgt := 31) hx hb eX3_aside_0.2.2.2.2.2.2.2.2.1 (by decide) (fun hc => ?_) (fun hc => ?_)
  · have hp := hp.1 hc
    refine lv_aload_n hx hb eX3_aside_26.2.2.2.1 rfl (lv_at hl 0 rfl) ?_
    refine va_get (D := (dC, dI)) (ci := 3) (v := .ref a_tr_foot) (C := RX3) (T := TX3) (N := 11) hx hb hts i_X3 hown hK hP 0 rfl rfl 4 (Nat.le_of_ble_eq_true rfl) (hts _ q_53) (fun _ h9 => h9) rfl eX3_aside_26.2.2.2.2.1 ?_
    refine lv_iload_n hx hb eX3_aside_26.2.2.2.2.2.1 rfl (lv_at hl 2 rfl) ?_
    have hin := hp.1
    have hp := hp.2
    refine va_iald hx hb hK hP 2 0 rfl rfl hin eX3_aside_26.2.2.2.2.2.2.1 ?_
    refine lv_topi (fun v_2 ev_2 => ?_)
    have hp := hp v_2 ev_2
    refine lv_aload_n hx hb eX3_aside_26.2.2.2.2.2.2.2.1 rfl (lv_at hl 0 rfl) ?_
    refine va_get (D := (dC, dI)) (ci := 3) (v := .ref a_tr_x) (C := RX3) (T := TX3) (N := 11) hx hb hts i_X3 hown hK hP 0 rfl rfl 0 (Nat.le_of_ble_eq_true rfl) (hts _ q_45) (fun _ h9 => h9) rfl eX3_aside_26.2.2.2.2.2.2.2.2.1 ?_
    refine lv_iload_n hx hb eX3_aside_26.2.2.2.2.2.2.2.2.2.1 rfl (lv_at hl 1 rfl) ?_
    have hin := hp.1
    have hp := hp.2
    refine va_iald hx hb hK hP 1 0 rfl rfl hin eX3_aside_26.2.2.2.2.2.2.2.2.2.2.1 ?_
    refine lv_isub hx hb eX3_aside_26.2.2.2.2.2.2.2.2.2.2.2.1 ?_
    exact W.iret (v := v_2 - (tr_x p0.toNatClampNeg)) hx hb hr (fun t ht hW => ⟨⟨v_2 - (tr_x p0.toNatClampNeg), (), rfl, hp, by rw [ht]; exact hP, va_K.moved hW.alike hK, hD⟩, hS.F ht⟩) hS.2.2 eX3_aside_26.2.2.2.2.2.2.2.2.2.2.2.2
  · have hp := hp.2 hc
    refine lv_aload_n hx hb eX3_aside_0.2.2.2.2.2.2.2.2.2.1 rfl (lv_at hl 0 rfl) ?_
    refine va_get (D := (dC, dI)) (ci := 3) (v := .ref a_tr_x) (C := RX3) (T := TX3) (N := 11) hx hb hts i_X3 hown hK hP 0 rfl rfl 0 (Nat.le_of_ble_eq_true rfl) (hts _ q_45) (fun _ h9 => h9) rfl eX3_aside_0.2.2.2.2.2.2.2.2.2.2.1 ?_
    refine lv_iload_n hx hb eX3_aside_0.2.2.2.2.2.2.2.2.2.2.2.1 rfl (lv_at hl 1 rfl) ?_
    have hin := hp.1
    have hp := hp.2
    refine va_iald hx hb hK hP 1 0 rfl rfl hin eX3_aside_0.2.2.2.2.2.2.2.2.2.2.2.2.1 ?_
    refine lv_topi (fun v_3 ev_3 => ?_)
    have hp := hp v_3 ev_3
    refine lv_aload_n hx hb eX3_aside_0.2.2.2.2.2.2.2.2.2.2.2.2.2.1 rfl (lv_at hl 0 rfl) ?_
    refine va_get (D := (dC, dI)) (ci := 3) (v := .ref a_tr_foot) (C := RX3) (T := TX3) (N := 11) hx hb hts i_X3 hown hK hP 0 rfl rfl 4 (Nat.le_of_ble_eq_true rfl) (hts _ q_53) (fun _ h9 => h9) rfl eX3_aside_0.2.2.2.2.2.2.2.2.2.2.2.2.2.2.1 ?_
    refine lv_iload_n hx hb eX3_aside_0.2.2.2.2.2.2.2.2.2.2.2.2.2.2.2 rfl (lv_at hl 2 rfl) ?_
    have hin := hp.1
    have hp := hp.2
    refine va_iald hx hb hK hP 2 0 rfl rfl hin eX3_aside_26.1 ?_
    refine lv_isub hx hb eX3_aside_26.2.1 ?_
    refine lv_topi (fun v_4 ev_4 => ?_)
    have hp := hp v_4 ev_4
    refine lv_goto (tgt := 44) hx hb eX3_aside_26.2.2.1 (by decide) ?_
    exact W.iret (v := v_4) hx hb hr (fun t ht hW => ⟨⟨v_4, (), rfl, hp, by rw [ht]; exact hP, va_K.moved hW.alike hK, hD⟩, hS.F ht⟩) hS.2.2 eX3_aside_26.2.2.2.2.2.2.2.2.2.2.2.2
abbrev wd_X3_above (cI cC cZ cB cJ : ClassId) (a_tr : Nat) (a_tr_x : Nat) (a_tr_height : Nat) (a_tr_worth : Nat) (a_tr_ripe : Nat) (a_tr_foot : Nat) (a_tr_fork : Nat) (a_tr_settings : Nat) (tr_fruits : Int32) (tr_standings : Int32) (tr_comingFruits : Int32) (tr_comingStandings : Int32) (tr_height : Nat → Int32) (tr_fork : Nat → Int32) : va_W := [(a_tr, .inr (3, [.ref a_tr_x, .ref a_tr_height, .ref a_tr_worth, .ref a_tr_ripe, .ref a_tr_foot, .ref a_tr_fork, .ref a_tr_settings, .int tr_fruits, .int tr_standings, .int tr_comingFruits, .int tr_comingStandings])), (a_tr_height, .inl (cI, 16, .inl tr_height)), (a_tr_fork, .inl (cI, 8, .inl tr_fork))]
abbrev q_X3_above (dC : Nat → ClassId) (dI : Nat → Nat → Nat) (cI cC cZ cB cJ : ClassId) (A : Nat → Prop) (a_tr : Nat) (a_tr_x : Nat) (a_tr_height : Nat) (a_tr_worth : Nat) (a_tr_ripe : Nat) (a_tr_foot : Nat) (a_tr_fork : Nat) (a_tr_settings : Nat) (tr_fruits : Int32) (tr_standings : Int32) (tr_comingFruits : Int32) (tr_comingStandings : Int32) (tr_height : Nat → Int32) (tr_fork : Nat → Int32) (post : Int32 → Prop) : Array Value → State → Outcome → State → Prop := va_Qi (fun (r : Int32) (u : Unit) => post r) (fun u t => gB (dC, dI) (tyl cI cC cZ cB cJ) A (wd_X3_above cI cC cZ cB cJ a_tr a_tr_x a_tr_height a_tr_worth a_tr_ripe a_tr_foot a_tr_fork a_tr_settings tr_fruits tr_standings tr_comingFruits tr_comingStandings tr_height tr_fork) t) A
abbrev rm_X3_above : Room := { frames := 0, cells := 0, slots := 0, locals := 0 }
def wp_X3_above (post : Int32 → Prop) (p0 : Int32) (p1 : Int32) (tr_height : Nat → Int32) (tr_fork : Nat → Int32) : Prop := vp_in p0 16 ∧ (∀ v_1 : Int32, v_1 = tr_height p0.toNatClampNeg → vp_in p1 8 ∧ ((v_1 ≤ (tr_fork p1.toNatClampNeg) → post 0) ∧ (¬ v_1 ≤ (tr_fork p1.toNatClampNeg) → vp_in p0 16 ∧ (∀ v_2 : Int32, v_2 = tr_height p0.toNatClampNeg → vp_in p1 8 ∧ (∀ v_3 : Int32, v_3 = v_2 - (tr_fork p1.toNatClampNeg) → post v_3)))))
set_option maxHeartbeats 4000000 in
set_option maxRecDepth 100000 in
theorem c_X3_above (l : Launch) (dC : Nat → ClassId) (dI : Nat → Nat → Nat) (cI cC cZ cB cJ : ClassId) (a_tr : Nat) (a_tr_x : Nat) (a_tr_height : Nat) (a_tr_worth : Nat) (a_tr_ripe : Nat) (a_tr_foot : Nat) (a_tr_fork : Nat) (a_tr_settings : Nat) (sz : Nat) (p0 : Int32) (p1 : Int32) (tr_fruits : Int32) (tr_standings : Int32) (tr_comingFruits : Int32) (tr_comingStandings : Int32) (tr_height : Nat → Int32) (tr_fork : Nat → Int32) (post : Int32 → Prop) (hw : wp_X3_above post p0 p1 tr_height tr_fork) : Met l yX3_above (gw yX3_above cX3_above 3 (some .int)) rm_X3_above (va_Pc [.ref a_tr, .int p0, .int p1] (gPre (dC, dI) (tyl cI cC cZ cB cJ) (wd_X3_above cI cC cZ cB cJ a_tr a_tr_x a_tr_height a_tr_worth a_tr_ripe a_tr_foot a_tr_fork a_tr_settings tr_fruits tr_standings tr_comingFruits tr_comingStandings tr_height tr_fork) sz)) (q_X3_above dC dI cI cC cZ cB cJ (va_A (wd_X3_above cI cC cZ cB cJ a_tr a_tr_x a_tr_height a_tr_worth a_tr_ripe a_tr_foot a_tr_fork a_tr_settings tr_fruits tr_standings tr_comingFruits tr_comingStandings tr_height tr_fork) sz) a_tr a_tr_x a_tr_height a_tr_worth a_tr_ripe a_tr_foot a_tr_fork a_tr_settings tr_fruits tr_standings tr_comingFruits tr_comingStandings tr_height tr_fork post) 0 0 (va_A (wd_X3_above cI cC cZ cB cJ a_tr a_tr_x a_tr_height a_tr_worth a_tr_ripe a_tr_foot a_tr_fork a_tr_settings tr_fruits tr_standings tr_comingFruits tr_comingStandings tr_height tr_fork) sz) := by
  refine g_enter (own := RX3) (dC, dI) (tyl cI cC cZ cB cJ) (wd_X3_above cI cC cZ cB cJ a_tr a_tr_x a_tr_height a_tr_worth a_tr_ripe a_tr_foot a_tr_fork a_tr_settings tr_fruits tr_standings tr_comingFruits tr_comingStandings tr_height tr_fork) sz [.ref a_tr, .int p0, .int p1] (fun A => q_X3_above dC dI cI cC cZ cB cJ A a_tr a_tr_x a_tr_height a_tr_worth a_tr_ripe a_tr_foot a_tr_fork a_tr_settings tr_fruits tr_standings tr_comingFruits tr_comingStandings tr_height tr_fork post) (by decide) rfl (Nat.le_of_ble_eq_true rfl) ?_
  intro p e s m args below meth c A H locs ls C0 hP hD hS hl
  have hl : lv_has ls 3 [(0, .ref a_tr), (1, .int p0), (2, .int p1)] := hl
  obtain ⟨hx, hb, hr, hml, hown, hts, hlocks, hA, hK, hN, tL, tM, hZL, hTL, hZM, hTM, hZX⟩ := id C0
  have hp := hw
  unfold wp_X3_above at hp
  refine lv_aload_n hx hb eX3_above_0.1 rfl (lv_at hl 0 rfl) ?_
  refine va_get (D := (dC, dI)) (ci := 3) (v := .ref a_tr_height) (C := RX3) (T := TX3) (N := 11) hx hb hts i_X3 hown hK hP 0 rfl rfl 1 (Nat.le_of_ble_eq_true rfl) (hts _ q_46) (fun _ h9 => h9) rfl eX3_above_0.2.1 ?_
  refine lv_iload_n hx hb eX3_above_0.2.2.1 rfl (lv_at hl 1 rfl) ?_
  have hin := hp.1
  have hp := hp.2
  refine va_iald hx hb hK hP 1 0 rfl rfl hin eX3_above_0.2.2.2.1 ?_
  refine lv_topi (fun v_1 ev_1 => ?_)
  have hp := hp v_1 ev_1
  refine lv_aload_n hx hb eX3_above_0.2.2.2.2.1 rfl (lv_at hl 0 rfl) ?_
  refine va_get (D := (dC, dI)) (ci := 3) (v := .ref a_tr_fork) (C := RX3) (T := TX3) (N := 11) hx hb hts i_X3 hown hK hP 0 rfl rfl 5 (Nat.le_of_ble_eq_true rfl) (hts _ q_54) (fun _ h9 => h9) rfl eX3_above_0.2.2.2.2.2.1 ?_
  refine lv_iload_n hx hb eX3_above_0.2.2.2.2.2.2.1 rfl (lv_at hl 2 rfl) ?_
  have hin := hp.1
  have hp := hp.2
  refine va_iald hx hb hK hP 2 0 rfl rfl hin eX3_above_0.2.2.2.2.2.2.2.1 ?_
  refine lv_icmp_le (tgt := 31) hx hb eX3_above_0.2.2.2.2.2.2.2.2.1 (by decide) (fun hc => ?_) (fun hc => ?_)
  · have hp := hp.1 hc
    refine lv_iconst (v := 0) hx hb eX3_above_26.2.2.2.1 (by decide) ?_
    exact W.iret (v := 0) hx hb hr (fun t ht hW => ⟨⟨0, (), rfl, hp, by rw [ht]; exact hP, va_K.moved hW.alike hK, hD⟩, hS.F ht⟩) hS.2.2 eX3_above_26.2.2.2.2
  · have hp := hp.2 hc
    refine lv_aload_n hx hb eX3_above_0.2.2.2.2.2.2.2.2.2.1 rfl (lv_at hl 0 rfl) ?_
    refine va_get (D := (dC, dI)) (ci := 3) (v := .ref a_tr_height) (C := RX3) (T := TX3) (N := 11) hx hb hts i_X3 hown hK hP 0 rfl rfl 1 (Nat.le_of_ble_eq_true rfl) (hts _ q_46) (fun _ h9 => h9) rfl eX3_above_0.2.2.2.2.2.2.2.2.2.2.1 ?_
    refine lv_iload_n hx hb eX3_above_0.2.2.2.2.2.2.2.2.2.2.2.1 rfl (lv_at hl 1 rfl) ?_
    have hin := hp.1
    have hp := hp.2
    refine va_iald hx hb hK hP 1 0 rfl rfl hin eX3_above_0.2.2.2.2.2.2.2.2.2.2.2.2.1 ?_
    refine lv_topi (fun v_2 ev_2 => ?_)
    have hp := hp v_2 ev_2
    refine lv_aload_n hx hb eX3_above_0.2.2.2.2.2.2.2.2.2.2.2.2.2.1 rfl (lv_at hl 0 rfl) ?_
    refine va_get (D := (dC, dI)) (ci := 3) (v := .ref a_tr_fork) (C := RX3) (T := TX3) (N := 11) hx hb hts i_X3 hown hK hP 0 rfl rfl 5 (Nat.le_of_ble_eq_true rfl) (hts _ q_54) (fun _ h9 => h9) rfl eX3_above_0.2.2.2.2.2.2.2.2.2.2.2.2.2.2.1 ?_
    refine lv_iload_n hx hb eX3_above_0.2.2.2.2.2.2.2.2.2.2.2.2.2.2.2 rfl (lv_at hl 2 rfl) ?_
    have hin := hp.1
    have hp := hp.2
    refine va_iald hx hb hK hP 2 0 rfl rfl hin eX3_above_26.1 ?_
    refine lv_isub hx hb eX3_above_26.2.1 ?_
    refine lv_topi (fun v_3 ev_3 => ?_)
    have hp := hp v_3 ev_3
    refine lv_goto (tgt := 32) hx hb eX3_above_26.2.2.1 (by decide) ?_
    exact W.iret (v := v_3) hx hb hr (fun t ht hW => ⟨⟨v_3, (), rfl, hp, by rw [ht]; exact hP, va_K.moved hW.alike hK, hD⟩, hS.F ht⟩) hS.2.2 eX3_above_26.2.2.2.2
abbrev wd_X3_isWithin (cI cC cZ cB cJ : ClassId) (a_tr : Nat) (a_tr_x : Nat) (a_tr_height : Nat) (a_tr_worth : Nat) (a_tr_ripe : Nat) (a_tr_foot : Nat) (a_tr_fork : Nat) (a_tr_settings : Nat) (tr_fruits : Int32) (tr_standings : Int32) (tr_comingFruits : Int32) (tr_comingStandings : Int32) (tr_x : Nat → Int32) (tr_height : Nat → Int32) (tr_foot : Nat → Int32) (tr_fork : Nat → Int32) : va_W := [(a_tr, .inr (3, [.ref a_tr_x, .ref a_tr_height, .ref a_tr_worth, .ref a_tr_ripe, .ref a_tr_foot, .ref a_tr_fork, .ref a_tr_settings, .int tr_fruits, .int tr_standings, .int tr_comingFruits, .int tr_comingStandings])), (a_tr_x, .inl (cI, 16, .inl tr_x)), (a_tr_height, .inl (cI, 16, .inl tr_height)), (a_tr_foot, .inl (cI, 8, .inl tr_foot)), (a_tr_fork, .inl (cI, 8, .inl tr_fork))]
abbrev q_X3_isWithin (dC : Nat → ClassId) (dI : Nat → Nat → Nat) (cI cC cZ cB cJ : ClassId) (A : Nat → Prop) (a_tr : Nat) (a_tr_x : Nat) (a_tr_height : Nat) (a_tr_worth : Nat) (a_tr_ripe : Nat) (a_tr_foot : Nat) (a_tr_fork : Nat) (a_tr_settings : Nat) (tr_fruits : Int32) (tr_standings : Int32) (tr_comingFruits : Int32) (tr_comingStandings : Int32) (tr_x : Nat → Int32) (tr_height : Nat → Int32) (tr_foot : Nat → Int32) (tr_fork : Nat → Int32) (post : Int32 → Prop) : Array Value → State → Outcome → State → Prop := va_Qi (fun (r : Int32) (u : Unit) => post r) (fun u t => gB (dC, dI) (tyl cI cC cZ cB cJ) A (wd_X3_isWithin cI cC cZ cB cJ a_tr a_tr_x a_tr_height a_tr_worth a_tr_ripe a_tr_foot a_tr_fork a_tr_settings tr_fruits tr_standings tr_comingFruits tr_comingStandings tr_x tr_height tr_foot tr_fork) t) A
abbrev rm_X3_isWithin : Room := { frames := 1, cells := 0, slots := 0, locals := 22 }
def wp_X3_isWithin (post : Int32 → Prop) (p0 : Int32) (p1 : Int32) (p2 : Int32) (tr_x : Nat → Int32) (tr_height : Nat → Int32) (tr_foot : Nat → Int32) (tr_fork : Nat → Int32) : Prop := wp_X3_aside (fun r_1 => wp_X3_above (fun r_2 => ∀ v_3 : Int32, v_3 = r_1 * r_1 → ∀ v_4 : Int32, v_4 = v_3 + (r_2 * r_2) → ((p2 * p2) < v_4 → post 0) ∧ (¬ (p2 * p2) < v_4 → post 1)) p0 p1 tr_height tr_fork) p0 p1 tr_x tr_foot
set_option maxHeartbeats 4000000 in
set_option maxRecDepth 100000 in
theorem c_X3_isWithin (l : Launch) (dC : Nat → ClassId) (dI : Nat → Nat → Nat) (cI cC cZ cB cJ : ClassId) (a_tr : Nat) (a_tr_x : Nat) (a_tr_height : Nat) (a_tr_worth : Nat) (a_tr_ripe : Nat) (a_tr_foot : Nat) (a_tr_fork : Nat) (a_tr_settings : Nat) (sz : Nat) (p0 : Int32) (p1 : Int32) (p2 : Int32) (tr_fruits : Int32) (tr_standings : Int32) (tr_comingFruits : Int32) (tr_comingStandings : Int32) (tr_x : Nat → Int32) (tr_height : Nat → Int32) (tr_foot : Nat → Int32) (tr_fork : Nat → Int32) (post : Int32 → Prop) (hw : wp_X3_isWithin post p0 p1 p2 tr_x tr_height tr_foot tr_fork) : Met l yX3_isWithin (gw yX3_isWithin cX3_isWithin 6 (some .boolean)) rm_X3_isWithin (va_Pc [.ref a_tr, .int p0, .int p1, .int p2] (gPre (dC, dI) (tyl cI cC cZ cB cJ) (wd_X3_isWithin cI cC cZ cB cJ a_tr a_tr_x a_tr_height a_tr_worth a_tr_ripe a_tr_foot a_tr_fork a_tr_settings tr_fruits tr_standings tr_comingFruits tr_comingStandings tr_x tr_height tr_foot tr_fork) sz)) (q_X3_isWithin dC dI cI cC cZ cB cJ (va_A (wd_X3_isWithin cI cC cZ cB cJ a_tr a_tr_x a_tr_height a_tr_worth a_tr_ripe a_tr_foot a_tr_fork a_tr_settings tr_fruits tr_standings tr_comingFruits tr_comingStandings tr_x tr_height tr_foot tr_fork) sz) a_tr a_tr_x a_tr_height a_tr_worth a_tr_ripe a_tr_foot a_tr_fork a_tr_settings tr_fruits tr_standings tr_comingFruits tr_comingStandings tr_x tr_height tr_foot tr_fork post) 0 0 (va_A (wd_X3_isWithin cI cC cZ cB cJ a_tr a_tr_x a_tr_height a_tr_worth a_tr_ripe a_tr_foot a_tr_fork a_tr_settings tr_fruits tr_standings tr_comingFruits tr_comingStandings tr_x tr_height tr_foot tr_fork) sz) := by
  refine g_enter (own := RX3) (dC, dI) (tyl cI cC cZ cB cJ) (wd_X3_isWithin cI cC cZ cB cJ a_tr a_tr_x a_tr_height a_tr_worth a_tr_ripe a_tr_foot a_tr_fork a_tr_settings tr_fruits tr_standings tr_comingFruits tr_comingStandings tr_x tr_height tr_foot tr_fork) sz [.ref a_tr, .int p0, .int p1, .int p2] (fun A => q_X3_isWithin dC dI cI cC cZ cB cJ A a_tr a_tr_x a_tr_height a_tr_worth a_tr_ripe a_tr_foot a_tr_fork a_tr_settings tr_fruits tr_standings tr_comingFruits tr_comingStandings tr_x tr_height tr_foot tr_fork post) (by decide) rfl (Nat.le_of_ble_eq_true rfl) ?_
  intro p e s m args below meth c A H locs ls C0 hP hD hS hl
  have hl : lv_has ls 6 [(0, .ref a_tr), (1, .int p0), (2, .int p1), (3, .int p2)] := hl
  obtain ⟨hx, hb, hr, hml, hown, hts, hlocks, hA, hK, hN, tL, tM, hZL, hTL, hZM, hTM, hZX⟩ := id C0
  have hp := hw
  unfold wp_X3_isWithin at hp
  refine lv_aload_n hx hb eX3_isWithin_0.1 rfl (lv_at hl 0 rfl) ?_
  refine lv_iload_n hx hb eX3_isWithin_0.2.1 rfl (lv_at hl 1 rfl) ?_
  refine lv_iload_n hx hb eX3_isWithin_0.2.2.1 rfl (lv_at hl 2 rfl) ?_
  refine g_calli (wc := (wd_X3_aside cI cC cZ cB cJ a_tr a_tr_x a_tr_height a_tr_worth a_tr_ripe a_tr_foot a_tr_fork a_tr_settings tr_fruits tr_standings tr_comingFruits tr_comingStandings tr_x tr_foot)) hP hD hS hA [0, 1, 3] [2, 4] rfl rfl rfl rfl (g_runV (As := [.int p0, .int p1]) (rest := []) C0 hP hD hS [0, 1, 3] rfl rfl 0 3 rfl rfl (c_X3_aside l dC dI cI cC cZ cB cJ a_tr a_tr_x a_tr_height a_tr_worth a_tr_ripe a_tr_foot a_tr_fork a_tr_settings H.size p0 p1 tr_fruits tr_standings tr_comingFruits tr_comingStandings tr_x tr_foot _ hp) q_267 q_270 q_268 q_269 q_48 h_X3_aside rfl rfl ⟨Nat.le_of_ble_eq_true rfl, Nat.le_of_ble_eq_true rfl⟩ rfl rfl hl.1 rfl (lv_room (Nat.le_of_ble_eq_true rfl)) eX3_isWithin_0.2.2.2.1 ⟨Nat.zero_le _, Nat.zero_le _⟩) (fun r_1 u H locs hp hP hD hS => ?_)
  have hPD := PDs (ws' := (wd_X3_isWithin cI cC cZ cB cJ a_tr a_tr_x a_tr_height a_tr_worth a_tr_ripe a_tr_foot a_tr_fork a_tr_settings tr_fruits tr_standings tr_comingFruits tr_comingStandings tr_x tr_height tr_foot tr_fork)) hP hD [2, 3, 0, 4, 1] (by decide) rfl
  have hP := hPD.1
  have hD := hPD.2
  refine lv_istore (lv' := [(4, .int r_1), (0, .ref a_tr), (1, .int p0), (2, .int p1), (3, .int p2)]) hx hb eX3_isWithin_0.2.2.2.2.1 hl (by decide) rfl (fun ls hl => ?_)
  refine lv_aload_n hx hb eX3_isWithin_0.2.2.2.2.2.1 rfl (lv_at hl 1 rfl) ?_
  refine lv_iload_n hx hb eX3_isWithin_0.2.2.2.2.2.2.1 rfl (lv_at hl 2 rfl) ?_
  refine lv_iload_n hx hb eX3_isWithin_0.2.2.2.2.2.2.2.1 rfl (lv_at hl 3 rfl) ?_
  refine g_calli (wc := (wd_X3_above cI cC cZ cB cJ a_tr a_tr_x a_tr_height a_tr_worth a_tr_ripe a_tr_foot a_tr_fork a_tr_settings tr_fruits tr_standings tr_comingFruits tr_comingStandings tr_height tr_fork)) hP hD hS hA [0, 2, 4] [1, 3] rfl rfl rfl rfl (g_runV (As := [.int p0, .int p1]) (rest := []) C0 hP hD hS [0, 2, 4] rfl rfl 0 3 rfl rfl (c_X3_above l dC dI cI cC cZ cB cJ a_tr a_tr_x a_tr_height a_tr_worth a_tr_ripe a_tr_foot a_tr_fork a_tr_settings H.size p0 p1 tr_fruits tr_standings tr_comingFruits tr_comingStandings tr_height tr_fork _ hp) q_271 q_274 q_272 q_273 q_48 h_X3_above rfl rfl ⟨Nat.le_of_ble_eq_true rfl, Nat.le_of_ble_eq_true rfl⟩ rfl rfl hl.1 rfl (lv_room (Nat.le_of_ble_eq_true rfl)) eX3_isWithin_0.2.2.2.2.2.2.2.2.1 ⟨Nat.zero_le _, Nat.zero_le _⟩) (fun r_2 u H locs hp hP hD hS => ?_)
  have hPD := PDs (ws' := (wd_X3_isWithin cI cC cZ cB cJ a_tr a_tr_x a_tr_height a_tr_worth a_tr_ripe a_tr_foot a_tr_fork a_tr_settings tr_fruits tr_standings tr_comingFruits tr_comingStandings tr_x tr_height tr_foot tr_fork)) hP hD [2, 0, 3, 1, 4] (by decide) rfl
  have hP := hPD.1
  have hD := hPD.2
  refine lv_istore (lv' := [(5, .int r_2), (4, .int r_1), (0, .ref a_tr), (1, .int p0), (2, .int p1), (3, .int p2)]) hx hb eX3_isWithin_0.2.2.2.2.2.2.2.2.2.1 hl (by decide) rfl (fun ls hl => ?_)
  refine lv_iload hx hb eX3_isWithin_0.2.2.2.2.2.2.2.2.2.2.1 (lv_at hl 1 rfl) ?_
  refine lv_iload hx hb eX3_isWithin_0.2.2.2.2.2.2.2.2.2.2.2.1 (lv_at hl 1 rfl) ?_
  refine lv_imul hx hb eX3_isWithin_0.2.2.2.2.2.2.2.2.2.2.2.2.1 ?_
  refine lv_topi (fun v_3 ev_3 => ?_)
  have hp := hp v_3 ev_3
  refine lv_iload hx hb eX3_isWithin_0.2.2.2.2.2.2.2.2.2.2.2.2.2.1 (lv_at hl 0 rfl) ?_
  refine lv_iload hx hb eX3_isWithin_0.2.2.2.2.2.2.2.2.2.2.2.2.2.2.1 (lv_at hl 0 rfl) ?_
  refine lv_imul hx hb eX3_isWithin_0.2.2.2.2.2.2.2.2.2.2.2.2.2.2.2 ?_
  refine lv_iadd hx hb eX3_isWithin_26.1 ?_
  refine lv_topi (fun v_4 ev_4 => ?_)
  have hp := hp v_4 ev_4
  refine lv_iload_n hx hb eX3_isWithin_26.2.1 rfl (lv_at hl 5 rfl) ?_
  refine lv_iload_n hx hb eX3_isWithin_26.2.2.1 rfl (lv_at hl 5 rfl) ?_
  refine lv_imul hx hb eX3_isWithin_26.2.2.2.1 ?_
  refine lv_icmp_gt (tgt := 37) hx hb eX3_isWithin_26.2.2.2.2.1 (by decide) (fun hc => ?_) (fun hc => ?_)
  · have hp := hp.1 hc
    refine lv_iconst (v := 0) hx hb eX3_isWithin_26.2.2.2.2.2.2.2.1 (by decide) ?_
    exact W.zret (v := 0) hx hb hr rfl (fun t ht hW => ⟨⟨0, (), rfl, hp, by rw [ht]; exact hP, va_K.moved hW.alike hK, hD⟩, hS.F ht⟩) hS.2.2 eX3_isWithin_26.2.2.2.2.2.2.2.2
  · have hp := hp.2 hc
    refine lv_iconst (v := 1) hx hb eX3_isWithin_26.2.2.2.2.2.1 (by decide) ?_
    refine lv_goto (tgt := 38) hx hb eX3_isWithin_26.2.2.2.2.2.2.1 (by decide) ?_
    exact W.zret (v := 1) hx hb hr rfl (fun t ht hW => ⟨⟨1, (), rfl, hp, by rw [ht]; exact hP, va_K.moved hW.alike hK, hD⟩, hS.F ht⟩) hS.2.2 eX3_isWithin_26.2.2.2.2.2.2.2.2
abbrev wd_J6_bitCount_0f7a4 (cI cC cZ cB cJ : ClassId) : va_W := []
abbrev q_J6_bitCount_0f7a4 (dC : Nat → ClassId) (dI : Nat → Nat → Nat) (cI cC cZ cB cJ : ClassId) (A : Nat → Prop) (post : Int32 → Prop) : Array Value → State → Outcome → State → Prop := va_Qi (fun (r : Int32) (u : Unit) => post r) (fun u t => gB (dC, dI) (tyl cI cC cZ cB cJ) A (wd_J6_bitCount_0f7a4 cI cC cZ cB cJ) t) A
abbrev rm_J6_bitCount_0f7a4 : Room := { frames := 0, cells := 0, slots := 0, locals := 0 }
def wp_J6_bitCount_0f7a4 (post : Int32 → Prop) (p0 : Int32) : Prop := ∀ v_1 : Int32, v_1 = (p0.toUInt32 >>> ((1 : Int32).toUInt32 &&& Int32.toUInt32 31)).toInt32 → ∀ v_2 : Int32, v_2 = p0 - (v_1 &&& 1431655765) → ∀ v_3 : Int32, v_3 = v_2 &&& 858993459 → ∀ v_4 : Int32, v_4 = (v_2.toUInt32 >>> ((2 : Int32).toUInt32 &&& Int32.toUInt32 31)).toInt32 → ∀ v_5 : Int32, v_5 = v_3 + (v_4 &&& 858993459) → ∀ v_6 : Int32, v_6 = v_5 + ((v_5.toUInt32 >>> ((4 : Int32).toUInt32 &&& Int32.toUInt32 31)).toInt32) → ∀ v_7 : Int32, v_7 = v_6 &&& 252645135 → ∀ v_8 : Int32, v_8 = v_7 + ((v_7.toUInt32 >>> ((8 : Int32).toUInt32 &&& Int32.toUInt32 31)).toInt32) → ∀ v_9 : Int32, v_9 = v_8 + ((v_8.toUInt32 >>> ((16 : Int32).toUInt32 &&& Int32.toUInt32 31)).toInt32) → post (v_9 &&& 63)
set_option maxHeartbeats 4000000 in
set_option maxRecDepth 100000 in
theorem c_J6_bitCount_0f7a4 (l : Launch) (dC : Nat → ClassId) (dI : Nat → Nat → Nat) (cI cC cZ cB cJ : ClassId) (sz : Nat) (p0 : Int32) (post : Int32 → Prop) (hw : wp_J6_bitCount_0f7a4 post p0) : Met l yJ6_bitCount_0f7a4 (gw yJ6_bitCount_0f7a4 cJ6_bitCount_0f7a4 1 (some .int)) rm_J6_bitCount_0f7a4 (va_Pc [.int p0] (gPre (dC, dI) (tyl cI cC cZ cB cJ) (wd_J6_bitCount_0f7a4 cI cC cZ cB cJ) sz)) (q_J6_bitCount_0f7a4 dC dI cI cC cZ cB cJ (va_A (wd_J6_bitCount_0f7a4 cI cC cZ cB cJ) sz) post) 0 0 (va_A (wd_J6_bitCount_0f7a4 cI cC cZ cB cJ) sz) := by
  refine g_enter (own := RJ6) (dC, dI) (tyl cI cC cZ cB cJ) (wd_J6_bitCount_0f7a4 cI cC cZ cB cJ) sz [.int p0] (fun A => q_J6_bitCount_0f7a4 dC dI cI cC cZ cB cJ A post) (by decide) rfl (Nat.le_of_ble_eq_true rfl) ?_
  intro p e s m args below meth c A H locs ls C0 hP hD hS hl
  have hl : lv_has ls 1 [(0, .int p0)] := hl
  obtain ⟨hx, hb, hr, hml, hown, hts, hlocks, hA, hK, hN, tL, tM, hZL, hTL, hZM, hTM, hZX⟩ := id C0
  have hp := hw
  unfold wp_J6_bitCount_0f7a4 at hp
  refine lv_iload_n hx hb eJ6_bitCount_0f7a4_0.1 rfl (lv_at hl 0 rfl) ?_
  refine lv_iload_n hx hb eJ6_bitCount_0f7a4_0.2.1 rfl (lv_at hl 0 rfl) ?_
  refine lv_iconst (v := 1) hx hb eJ6_bitCount_0f7a4_0.2.2.1 (by decide) ?_
  refine lv_iushr hx hb eJ6_bitCount_0f7a4_0.2.2.2.1 rfl ?_
  refine lv_topi (fun v_1 ev_1 => ?_)
  have hp := hp v_1 ev_1
  refine lv_ldcw (v := 1431655765) hx hb hown (hts _ q_275) eJ6_bitCount_0f7a4_0.2.2.2.2.1 ?_
  refine lv_iand hx hb eJ6_bitCount_0f7a4_0.2.2.2.2.2.1 ?_
  refine lv_isub hx hb eJ6_bitCount_0f7a4_0.2.2.2.2.2.2.1 ?_
  refine lv_topi (fun v_2 ev_2 => ?_)
  have hp := hp v_2 ev_2
  refine lv_istore_n (lv' := [(0, .int v_2)]) hx hb eJ6_bitCount_0f7a4_0.2.2.2.2.2.2.2.1 rfl hl (by decide) rfl (fun ls hl => ?_)
  refine lv_iload_n hx hb eJ6_bitCount_0f7a4_0.2.2.2.2.2.2.2.2.1 rfl (lv_at hl 0 rfl) ?_
  refine lv_ldcw (v := 858993459) hx hb hown (hts _ q_276) eJ6_bitCount_0f7a4_0.2.2.2.2.2.2.2.2.2.1 ?_
  refine lv_iand hx hb eJ6_bitCount_0f7a4_0.2.2.2.2.2.2.2.2.2.2.1 ?_
  refine lv_topi (fun v_3 ev_3 => ?_)
  have hp := hp v_3 ev_3
  refine lv_iload_n hx hb eJ6_bitCount_0f7a4_0.2.2.2.2.2.2.2.2.2.2.2.1 rfl (lv_at hl 0 rfl) ?_
  refine lv_iconst (v := 2) hx hb eJ6_bitCount_0f7a4_0.2.2.2.2.2.2.2.2.2.2.2.2.1 (by decide) ?_
  refine lv_iushr hx hb eJ6_bitCount_0f7a4_0.2.2.2.2.2.2.2.2.2.2.2.2.2.1 rfl ?_
  refine lv_topi (fun v_4 ev_4 => ?_)
  have hp := hp v_4 ev_4
  refine lv_ldcw (v := 858993459) hx hb hown (hts _ q_276) eJ6_bitCount_0f7a4_0.2.2.2.2.2.2.2.2.2.2.2.2.2.2.1 ?_
  refine lv_iand hx hb eJ6_bitCount_0f7a4_0.2.2.2.2.2.2.2.2.2.2.2.2.2.2.2 ?_
  refine lv_iadd hx hb eJ6_bitCount_0f7a4_22.1 ?_
  refine lv_topi (fun v_5 ev_5 => ?_)
  have hp := hp v_5 ev_5
  refine lv_istore_n (lv' := [(0, .int v_5)]) hx hb eJ6_bitCount_0f7a4_22.2.1 rfl hl (by decide) rfl (fun ls hl => ?_)
  refine lv_iload_n hx hb eJ6_bitCount_0f7a4_22.2.2.1 rfl (lv_at hl 0 rfl) ?_
  refine lv_iload_n hx hb eJ6_bitCount_0f7a4_22.2.2.2.1 rfl (lv_at hl 0 rfl) ?_
  refine lv_iconst (v := 4) hx hb eJ6_bitCount_0f7a4_22.2.2.2.2.1 (by decide) ?_
  refine lv_iushr hx hb eJ6_bitCount_0f7a4_22.2.2.2.2.2.1 rfl ?_
  refine lv_iadd hx hb eJ6_bitCount_0f7a4_22.2.2.2.2.2.2.1 ?_
  refine lv_topi (fun v_6 ev_6 => ?_)
  have hp := hp v_6 ev_6
  refine lv_ldcw (v := 252645135) hx hb hown (hts _ q_277) eJ6_bitCount_0f7a4_22.2.2.2.2.2.2.2.1 ?_
  refine lv_iand hx hb eJ6_bitCount_0f7a4_22.2.2.2.2.2.2.2.2.1 ?_
  refine lv_topi (fun v_7 ev_7 => ?_)
  have hp := hp v_7 ev_7
  refine lv_istore_n (lv' := [(0, .int v_7)]) hx hb eJ6_bitCount_0f7a4_22.2.2.2.2.2.2.2.2.2.1 rfl hl (by decide) rfl (fun ls hl => ?_)
  refine lv_iload_n hx hb eJ6_bitCount_0f7a4_22.2.2.2.2.2.2.2.2.2.2.1 rfl (lv_at hl 0 rfl) ?_
  refine lv_iload_n hx hb eJ6_bitCount_0f7a4_22.2.2.2.2.2.2.2.2.2.2.2.1 rfl (lv_at hl 0 rfl) ?_
  refine lv_bipush (v := 8) hx hb eJ6_bitCount_0f7a4_22.2.2.2.2.2.2.2.2.2.2.2.2.1 (by decide) ?_
  refine lv_iushr hx hb eJ6_bitCount_0f7a4_22.2.2.2.2.2.2.2.2.2.2.2.2.2.1 rfl ?_
  refine lv_iadd hx hb eJ6_bitCount_0f7a4_22.2.2.2.2.2.2.2.2.2.2.2.2.2.2.1 ?_
  refine lv_topi (fun v_8 ev_8 => ?_)
  have hp := hp v_8 ev_8
  refine lv_istore_n (lv' := [(0, .int v_8)]) hx hb eJ6_bitCount_0f7a4_22.2.2.2.2.2.2.2.2.2.2.2.2.2.2.2 rfl hl (by decide) rfl (fun ls hl => ?_)
  refine lv_iload_n hx hb eJ6_bitCount_0f7a4_41.1 rfl (lv_at hl 0 rfl) ?_
  refine lv_iload_n hx hb eJ6_bitCount_0f7a4_41.2.1 rfl (lv_at hl 0 rfl) ?_
  refine lv_bipush (v := 16) hx hb eJ6_bitCount_0f7a4_41.2.2.1 (by decide) ?_
  refine lv_iushr hx hb eJ6_bitCount_0f7a4_41.2.2.2.1 rfl ?_
  refine lv_iadd hx hb eJ6_bitCount_0f7a4_41.2.2.2.2.1 ?_
  refine lv_topi (fun v_9 ev_9 => ?_)
  have hp := hp v_9 ev_9
  refine lv_istore_n (lv' := [(0, .int v_9)]) hx hb eJ6_bitCount_0f7a4_41.2.2.2.2.2.1 rfl hl (by decide) rfl (fun ls hl => ?_)
  refine lv_iload_n hx hb eJ6_bitCount_0f7a4_41.2.2.2.2.2.2.1 rfl (lv_at hl 0 rfl) ?_
  refine lv_bipush (v := 63) hx hb eJ6_bitCount_0f7a4_41.2.2.2.2.2.2.2.1 (by decide) ?_
  refine lv_iand hx hb eJ6_bitCount_0f7a4_41.2.2.2.2.2.2.2.2.1 ?_
  exact W.iret (v := v_9 &&& 63) hx hb hr (fun t ht hW => ⟨⟨v_9 &&& 63, (), rfl, hp, by rw [ht]; exact hP, va_K.moved hW.alike hK, hD⟩, hS.F ht⟩) hS.2.2 eJ6_bitCount_0f7a4_41.2.2.2.2.2.2.2.2.2
abbrev wd_X3_worthOf (cI cC cZ cB cJ : ClassId) (a_tr : Nat) (a_tr_x : Nat) (a_tr_height : Nat) (a_tr_worth : Nat) (a_tr_ripe : Nat) (a_tr_foot : Nat) (a_tr_fork : Nat) (a_tr_settings : Nat) (tr_fruits : Int32) (tr_standings : Int32) (tr_comingFruits : Int32) (tr_comingStandings : Int32) (tr_worth : Nat → Int32) : va_W := [(a_tr, .inr (3, [.ref a_tr_x, .ref a_tr_height, .ref a_tr_worth, .ref a_tr_ripe, .ref a_tr_foot, .ref a_tr_fork, .ref a_tr_settings, .int tr_fruits, .int tr_standings, .int tr_comingFruits, .int tr_comingStandings])), (a_tr_worth, .inl (cI, 16, .inl tr_worth))]
abbrev q_X3_worthOf (dC : Nat → ClassId) (dI : Nat → Nat → Nat) (cI cC cZ cB cJ : ClassId) (A : Nat → Prop) (a_tr : Nat) (a_tr_x : Nat) (a_tr_height : Nat) (a_tr_worth : Nat) (a_tr_ripe : Nat) (a_tr_foot : Nat) (a_tr_fork : Nat) (a_tr_settings : Nat) (tr_fruits : Int32) (tr_standings : Int32) (tr_comingFruits : Int32) (tr_comingStandings : Int32) (tr_worth : Nat → Int32) (post : Int32 → Prop) : Array Value → State → Outcome → State → Prop := va_Qi (fun (r : Int32) (u : Unit) => post r) (fun u t => gB (dC, dI) (tyl cI cC cZ cB cJ) A (wd_X3_worthOf cI cC cZ cB cJ a_tr a_tr_x a_tr_height a_tr_worth a_tr_ripe a_tr_foot a_tr_fork a_tr_settings tr_fruits tr_standings tr_comingFruits tr_comingStandings tr_worth) t) A
abbrev rm_X3_worthOf : Room := { frames := 0, cells := 0, slots := 0, locals := 0 }
section S_X3_worthOf
variable {p : Program} {l : Launch} {e : Env} {s : State} {m : MethodId} {args : Array Value} {below : List Frame} {meth : Method} {c : Code} {dC : Nat → ClassId} {dI : Nat → Nat → Nat} {cI cC cZ cB cJ : ClassId} {A : Nat → Prop} {a_tr : Nat} {a_tr_x : Nat} {a_tr_height : Nat} {a_tr_worth : Nat} {a_tr_ripe : Nat} {a_tr_foot : Nat} {a_tr_fork : Nat} {a_tr_settings : Nat} {tr_fruits : Int32} {tr_standings : Int32} {tr_comingFruits : Int32} {tr_comingStandings : Int32} {tr_worth : Nat → Int32} {post : Int32 → Prop}
def ws_X3_worthOf_54 (post : Int32 → Prop) (K5 : Int32 → Int32 → Int32 → Int32 → Prop) (tr_fruits : Int32) (tr_worth : Nat → Int32) (x1 : Int32) (x2 : Int32) (x3 : Int32) (x4 : Int32) : Prop := ∀ v_2 : Int32, v_2 = x4 + 1 → K5 x1 x2 x3 v_2
set_option maxHeartbeats 4000000 in
set_option maxRecDepth 100000 in
theorem ks_X3_worthOf_54 (C0 : gc cX3_worthOf (some .int) 5 RX3 (dC, dI) (tyl cI cC cZ cB cJ) A p s m args meth c) {K5 : Int32 → Int32 → Int32 → Int32 → Prop} (hK5 : ∀ (x1 : Int32) (x2 : Int32) (x3 : Int32) (x4 : Int32) (H : Heap) (locs : List Loc) (ls : Array Slot), K5 x1 x2 x3 x4 → va_P (dC, dI) classes (wd_X3_worthOf cI cC cZ cB cJ a_tr a_tr_x a_tr_height a_tr_worth a_tr_ripe a_tr_foot a_tr_fork a_tr_settings tr_fruits tr_standings tr_comingFruits tr_comingStandings tr_worth) H → va_D A (wd_X3_worthOf cI cC cZ cB cJ a_tr a_tr_x a_tr_height a_tr_worth a_tr_ripe a_tr_foot a_tr_fork a_tr_settings tr_fruits tr_standings tr_comingFruits tr_comingStandings tr_worth) → va_S A s.heap H locs → lv_has ls 5 [(0, .ref a_tr), (1, .int x1), (2, .int x2), (3, .int x3), (4, .int x4)] → W p l e rm_X3_worthOf s m args below meth c H locs 0 0 (MQ below (q_X3_worthOf dC dI cI cC cZ cB cJ A a_tr a_tr_x a_tr_height a_tr_worth a_tr_ripe a_tr_foot a_tr_fork a_tr_settings tr_fruits tr_standings tr_comingFruits tr_comingStandings tr_worth post) args s 0 0 A) (F0 m 5 ls [])) : ∀ (x1 : Int32) (x2 : Int32) (x3 : Int32) (x4 : Int32) (H : Heap) (locs : List Loc) (ls : Array Slot), (ws_X3_worthOf_54 post K5 tr_fruits tr_worth) x1 x2 x3 x4 → va_P (dC, dI) classes (wd_X3_worthOf cI cC cZ cB cJ a_tr a_tr_x a_tr_height a_tr_worth a_tr_ripe a_tr_foot a_tr_fork a_tr_settings tr_fruits tr_standings tr_comingFruits tr_comingStandings tr_worth) H → va_D A (wd_X3_worthOf cI cC cZ cB cJ a_tr a_tr_x a_tr_height a_tr_worth a_tr_ripe a_tr_foot a_tr_fork a_tr_settings tr_fruits tr_standings tr_comingFruits tr_comingStandings tr_worth) → va_S A s.heap H locs → lv_has ls 5 [(0, .ref a_tr), (1, .int x1), (2, .int x2), (3, .int x3), (4, .int x4)] → W p l e rm_X3_worthOf s m args below meth c H locs 0 0 (MQ below (q_X3_worthOf dC dI cI cC cZ cB cJ A a_tr a_tr_x a_tr_height a_tr_worth a_tr_ripe a_tr_foot a_tr_fork a_tr_settings tr_fruits tr_standings tr_comingFruits tr_comingStandings tr_worth post) args s 0 0 A) (F0 m 54 ls []) := by
  obtain ⟨hx, hb, hr, hml, hown, hts, hlocks, hA, hK, hN, tL, tM, hZL, hTL, hZM, hTM, hZX⟩ := id C0
  intro x1 x2 x3 x4 H locs ls hp hP hD hS hl
  unfold ws_X3_worthOf_54 at hp
  obtain ⟨v_2, ev_2⟩ : ∃ y : Int32, y = x4 + 1 := ⟨_, rfl⟩
  refine lv_iinc (v := v_2) (lv' := [(4, .int v_2), (0, .ref a_tr), (1, .int x1), (2, .int x2), (3, .int x3)]) hx hb eX3_worthOf_52.2.2.1 hl (k := 4) rfl (by rw [ev_2]; rfl) (by decide) rfl (fun ls hl => ?_)
  have hp := hp v_2 ev_2
  refine lv_goto (tgt := 5) hx hb eX3_worthOf_52.2.2.2.1 (by decide) ?_
  exact hK5 x1 x2 x3 v_2 H locs ls hp hP hD hS (lv_sub hl [1, 2, 3, 4, 0] rfl)
def ws_X3_worthOf_52 (post : Int32 → Prop) (K5 : Int32 → Int32 → Int32 → Int32 → Prop) (tr_fruits : Int32) (tr_worth : Nat → Int32) (x1 : Int32) (x2 : Int32) (x4 : Int32) (k0 : Int32) (k1 : Int32) : Prop := ∀ v_5 : Int32, v_5 = k0 + k1 → ws_X3_worthOf_54 post K5 tr_fruits tr_worth x1 x2 v_5 x4
set_option maxHeartbeats 4000000 in
set_option maxRecDepth 100000 in
theorem ks_X3_worthOf_52 (C0 : gc cX3_worthOf (some .int) 5 RX3 (dC, dI) (tyl cI cC cZ cB cJ) A p s m args meth c) {K5 : Int32 → Int32 → Int32 → Int32 → Prop} (hK5 : ∀ (x1 : Int32) (x2 : Int32) (x3 : Int32) (x4 : Int32) (H : Heap) (locs : List Loc) (ls : Array Slot), K5 x1 x2 x3 x4 → va_P (dC, dI) classes (wd_X3_worthOf cI cC cZ cB cJ a_tr a_tr_x a_tr_height a_tr_worth a_tr_ripe a_tr_foot a_tr_fork a_tr_settings tr_fruits tr_standings tr_comingFruits tr_comingStandings tr_worth) H → va_D A (wd_X3_worthOf cI cC cZ cB cJ a_tr a_tr_x a_tr_height a_tr_worth a_tr_ripe a_tr_foot a_tr_fork a_tr_settings tr_fruits tr_standings tr_comingFruits tr_comingStandings tr_worth) → va_S A s.heap H locs → lv_has ls 5 [(0, .ref a_tr), (1, .int x1), (2, .int x2), (3, .int x3), (4, .int x4)] → W p l e rm_X3_worthOf s m args below meth c H locs 0 0 (MQ below (q_X3_worthOf dC dI cI cC cZ cB cJ A a_tr a_tr_x a_tr_height a_tr_worth a_tr_ripe a_tr_foot a_tr_fork a_tr_settings tr_fruits tr_standings tr_comingFruits tr_comingStandings tr_worth post) args s 0 0 A) (F0 m 5 ls [])) : ∀ (x1 : Int32) (x2 : Int32) (x4 : Int32) (k0 : Int32) (k1 : Int32) (H : Heap) (locs : List Loc) (ls : Array Slot), (ws_X3_worthOf_52 post K5 tr_fruits tr_worth) x1 x2 x4 k0 k1 → va_P (dC, dI) classes (wd_X3_worthOf cI cC cZ cB cJ a_tr a_tr_x a_tr_height a_tr_worth a_tr_ripe a_tr_foot a_tr_fork a_tr_settings tr_fruits tr_standings tr_comingFruits tr_comingStandings tr_worth) H → va_D A (wd_X3_worthOf cI cC cZ cB cJ a_tr a_tr_x a_tr_height a_tr_worth a_tr_ripe a_tr_foot a_tr_fork a_tr_settings tr_fruits tr_standings tr_comingFruits tr_comingStandings tr_worth) → va_S A s.heap H locs → lv_has ls 5 [(0, .ref a_tr), (1, .int x1), (2, .int x2), (4, .int x4)] → W p l e rm_X3_worthOf s m args below meth c H locs 0 0 (MQ below (q_X3_worthOf dC dI cI cC cZ cB cJ A a_tr a_tr_x a_tr_height a_tr_worth a_tr_ripe a_tr_foot a_tr_fork a_tr_settings tr_fruits tr_standings tr_comingFruits tr_comingStandings tr_worth post) args s 0 0 A) (F0 m 52 ls [.int k1, .int k0]) := by
  obtain ⟨hx, hb, hr, hml, hown, hts, hlocks, hA, hK, hN, tL, tM, hZL, hTL, hZM, hTM, hZX⟩ := id C0
  intro x1 x2 x4 k0 k1 H locs ls hp hP hD hS hl
  unfold ws_X3_worthOf_52 at hp
  refine lv_iadd hx hb eX3_worthOf_52.1 ?_
  refine lv_topi (fun v_5 ev_5 => ?_)
  have hp := hp v_5 ev_5
  refine lv_istore_n (lv' := [(3, .int v_5), (0, .ref a_tr), (1, .int x1), (2, .int x2), (4, .int x4)]) hx hb eX3_worthOf_52.2.1 rfl hl (by decide) rfl (fun ls hl => ?_)
  exact ks_X3_worthOf_54 C0 hK5 x1 x2 v_5 x4 H locs ls hp hP hD hS (lv_sub hl [1, 2, 3, 0, 4] rfl)
def ws_X3_worthOf_5 (post : Int32 → Prop) (next : Int32 → Int32 → Int32 → Int32 → Prop) (tr_fruits : Int32) (tr_worth : Nat → Int32) (x1 : Int32) (x2 : Int32) (x3 : Int32) (x4 : Int32) : Prop := (tr_fruits ≤ x4 → post x3) ∧ (¬ tr_fruits ≤ x4 → ∀ v_1 : Int32, v_1 = x1 >>> (x4 &&& 31) → ((v_1 &&& 1) = 0 → ws_X3_worthOf_54 post next tr_fruits tr_worth x1 x2 x3 x4) ∧ (¬ (v_1 &&& 1) = 0 → ∀ v_3 : Int32, v_3 = x2 >>> (x4 &&& 31) → ((v_3 &&& 1) = 0 → vp_in x4 16 ∧ (∀ v_4 : Int32, v_4 = tr_worth x4.toNatClampNeg → ws_X3_worthOf_52 post next tr_fruits tr_worth x1 x2 x4 x3 v_4)) ∧ (¬ (v_3 &&& 1) = 0 → vp_in x4 16 ∧ (∀ v_6 : Int32, v_6 = tr_worth x4.toNatClampNeg → ∀ v_7 : Int32, v_7 = v_6 / 2 → ws_X3_worthOf_52 post next tr_fruits tr_worth x1 x2 x4 x3 v_7))))
noncomputable def wb_X3_worthOf_5 (post : Int32 → Prop) (tr_fruits : Int32) (tr_worth : Nat → Int32) : Nat → Int32 → Int32 → Int32 → Int32 → Prop := fun n => Nat.rec (motive := fun _ => Int32 → Int32 → Int32 → Int32 → Prop) (fun _ _ _ _ => False) (fun _ ih => ws_X3_worthOf_5 post ih tr_fruits tr_worth) n
set_option maxHeartbeats 4000000 in
set_option maxRecDepth 100000 in
theorem ks_X3_worthOf_5 (C0 : gc cX3_worthOf (some .int) 5 RX3 (dC, dI) (tyl cI cC cZ cB cJ) A p s m args meth c) {next : Int32 → Int32 → Int32 → Int32 → Prop} (hKn : ∀ (x1 : Int32) (x2 : Int32) (x3 : Int32) (x4 : Int32) (H : Heap) (locs : List Loc) (ls : Array Slot), next x1 x2 x3 x4 → va_P (dC, dI) classes (wd_X3_worthOf cI cC cZ cB cJ a_tr a_tr_x a_tr_height a_tr_worth a_tr_ripe a_tr_foot a_tr_fork a_tr_settings tr_fruits tr_standings tr_comingFruits tr_comingStandings tr_worth) H → va_D A (wd_X3_worthOf cI cC cZ cB cJ a_tr a_tr_x a_tr_height a_tr_worth a_tr_ripe a_tr_foot a_tr_fork a_tr_settings tr_fruits tr_standings tr_comingFruits tr_comingStandings tr_worth) → va_S A s.heap H locs → lv_has ls 5 [(0, .ref a_tr), (1, .int x1), (2, .int x2), (3, .int x3), (4, .int x4)] → W p l e rm_X3_worthOf s m args below meth c H locs 0 0 (MQ below (q_X3_worthOf dC dI cI cC cZ cB cJ A a_tr a_tr_x a_tr_height a_tr_worth a_tr_ripe a_tr_foot a_tr_fork a_tr_settings tr_fruits tr_standings tr_comingFruits tr_comingStandings tr_worth post) args s 0 0 A) (F0 m 5 ls [])) : ∀ (x1 : Int32) (x2 : Int32) (x3 : Int32) (x4 : Int32) (H : Heap) (locs : List Loc) (ls : Array Slot), (ws_X3_worthOf_5 post next tr_fruits tr_worth) x1 x2 x3 x4 → va_P (dC, dI) classes (wd_X3_worthOf cI cC cZ cB cJ a_tr a_tr_x a_tr_height a_tr_worth a_tr_ripe a_tr_foot a_tr_fork a_tr_settings tr_fruits tr_standings tr_comingFruits tr_comingStandings tr_worth) H → va_D A (wd_X3_worthOf cI cC cZ cB cJ a_tr a_tr_x a_tr_height a_tr_worth a_tr_ripe a_tr_foot a_tr_fork a_tr_settings tr_fruits tr_standings tr_comingFruits tr_comingStandings tr_worth) → va_S A s.heap H locs → lv_has ls 5 [(0, .ref a_tr), (1, .int x1), (2, .int x2), (3, .int x3), (4, .int x4)] → W p l e rm_X3_worthOf s m args below meth c H locs 0 0 (MQ below (q_X3_worthOf dC dI cI cC cZ cB cJ A a_tr a_tr_x a_tr_height a_tr_worth a_tr_ripe a_tr_foot a_tr_fork a_tr_settings tr_fruits tr_standings tr_comingFruits tr_comingStandings tr_worth post) args s 0 0 A) (F0 m 5 ls []) := by
  obtain ⟨hx, hb, hr, hml, hown, hts, hlocks, hA, hK, hN, tL, tM, hZL, hTL, hZM, hTM, hZX⟩ := id C0
  intro x1 x2 x3 x4 H locs ls hp hP hD hS hl
  unfold ws_X3_worthOf_5 at hp
  refine lv_iload hx hb eX3_worthOf_0.2.2.2.2.1 (lv_at hl 4 rfl) ?_
  refine lv_aload_n hx hb eX3_worthOf_0.2.2.2.2.2.1 rfl (lv_at hl 0 rfl) ?_
  refine va_get (D := (dC, dI)) (ci := 3) (v := .int tr_fruits) (C := RX3) (T := TX3) (N := 11) hx hb hts i_X3 hown hK hP 0 rfl rfl 7 (Nat.le_of_ble_eq_true rfl) (hts _ q_20) (fun _ h9 => h9) rfl eX3_worthOf_0.2.2.2.2.2.2.1 ?_
  refine lv_icmp_ge (tgt := 60) hx hb eX3_worthOf_0.2.2.2.2.2.2.2.1 (by decide) (fun hc => ?_) (fun hc => ?_)
  · have hp := hp.1 hc
    refine lv_iload_n hx hb eX3_worthOf_52.2.2.2.2.1 rfl (lv_at hl 3 rfl) ?_
    exact W.iret (v := x3) hx hb hr (fun t ht hW => ⟨⟨x3, (), rfl, hp, by rw [ht]; exact hP, va_K.moved hW.alike hK, hD⟩, hS.F ht⟩) hS.2.2 eX3_worthOf_52.2.2.2.2.2
  · have hp := hp.2 hc
    refine lv_iload_n hx hb eX3_worthOf_0.2.2.2.2.2.2.2.2.1 rfl (lv_at hl 1 rfl) ?_
    refine lv_iload hx hb eX3_worthOf_0.2.2.2.2.2.2.2.2.2.1 (lv_at hl 4 rfl) ?_
    refine lv_ishr hx hb eX3_worthOf_0.2.2.2.2.2.2.2.2.2.2.1 ?_
    refine lv_topi (fun v_1 ev_1 => ?_)
    have hp := hp v_1 ev_1
    refine lv_iconst (v := 1) hx hb eX3_worthOf_0.2.2.2.2.2.2.2.2.2.2.2.1 (by decide) ?_
    refine lv_iand hx hb eX3_worthOf_0.2.2.2.2.2.2.2.2.2.2.2.2.1 ?_
    refine lv_if_eq (tgt := 54) hx hb eX3_worthOf_0.2.2.2.2.2.2.2.2.2.2.2.2.2.1 (by decide) (fun hc => ?_) (fun hc => ?_)
    · have hp := hp.1 hc
      exact ks_X3_worthOf_54 C0 hKn x1 x2 x3 x4 H locs ls hp hP hD hS (lv_sub hl [0, 1, 2, 3, 4] rfl)
    · have hp := hp.2 hc
      refine lv_iload_n hx hb eX3_worthOf_0.2.2.2.2.2.2.2.2.2.2.2.2.2.2.1 rfl (lv_at hl 3 rfl) ?_
      refine lv_iload_n hx hb eX3_worthOf_0.2.2.2.2.2.2.2.2.2.2.2.2.2.2.2 rfl (lv_at hl 2 rfl) ?_
      refine lv_iload hx hb eX3_worthOf_25.1 (lv_at hl 4 rfl) ?_
      refine lv_ishr hx hb eX3_worthOf_25.2.1 ?_
      refine lv_topi (fun v_3 ev_3 => ?_)
      have hp := hp v_3 ev_3
      refine lv_iconst (v := 1) hx hb eX3_worthOf_25.2.2.1 (by decide) ?_
      refine lv_iand hx hb eX3_worthOf_25.2.2.2.1 ?_
      refine lv_if_eq (tgt := 45) hx hb eX3_worthOf_25.2.2.2.2.1 (by decide) (fun hc => ?_) (fun hc => ?_)
      · have hp := hp.1 hc
        refine lv_aload_n hx hb eX3_worthOf_25.2.2.2.2.2.2.2.2.2.2.2.2.1 rfl (lv_at hl 0 rfl) ?_
        refine va_get (D := (dC, dI)) (ci := 3) (v := .ref a_tr_worth) (C := RX3) (T := TX3) (N := 11) hx hb hts i_X3 hown hK hP 0 rfl rfl 2 (Nat.le_of_ble_eq_true rfl) (hts _ q_51) (fun _ h9 => h9) rfl eX3_worthOf_25.2.2.2.2.2.2.2.2.2.2.2.2.2.1 ?_
        refine lv_iload hx hb eX3_worthOf_25.2.2.2.2.2.2.2.2.2.2.2.2.2.2.1 (lv_at hl 4 rfl) ?_
        have hin := hp.1
        have hp := hp.2
        refine va_iald hx hb hK hP 1 0 rfl rfl hin eX3_worthOf_25.2.2.2.2.2.2.2.2.2.2.2.2.2.2.2 ?_
        refine lv_topi (fun v_4 ev_4 => ?_)
        have hp := hp v_4 ev_4
        exact ks_X3_worthOf_52 C0 hKn x1 x2 x4 x3 v_4 H locs ls hp hP hD hS (lv_sub hl [0, 1, 2, 4] rfl)
      · have hp := hp.2 hc
        refine lv_aload_n hx hb eX3_worthOf_25.2.2.2.2.2.1 rfl (lv_at hl 0 rfl) ?_
        refine va_get (D := (dC, dI)) (ci := 3) (v := .ref a_tr_worth) (C := RX3) (T := TX3) (N := 11) hx hb hts i_X3 hown hK hP 0 rfl rfl 2 (Nat.le_of_ble_eq_true rfl) (hts _ q_51) (fun _ h9 => h9) rfl eX3_worthOf_25.2.2.2.2.2.2.1 ?_
        refine lv_iload hx hb eX3_worthOf_25.2.2.2.2.2.2.2.1 (lv_at hl 4 rfl) ?_
        have hin := hp.1
        have hp := hp.2
        refine va_iald hx hb hK hP 1 0 rfl rfl hin eX3_worthOf_25.2.2.2.2.2.2.2.2.1 ?_
        refine lv_topi (fun v_6 ev_6 => ?_)
        have hp := hp v_6 ev_6
        refine lv_iconst (v := 2) hx hb eX3_worthOf_25.2.2.2.2.2.2.2.2.2.1 (by decide) ?_
        refine lv_idiv hx hb eX3_worthOf_25.2.2.2.2.2.2.2.2.2.2.1 (by decide) ?_
        refine lv_topi (fun v_7 ev_7 => ?_)
        have hp := hp v_7 ev_7
        refine lv_goto (tgt := 52) hx hb eX3_worthOf_25.2.2.2.2.2.2.2.2.2.2.2.1 (by decide) ?_
        exact ks_X3_worthOf_52 C0 hKn x1 x2 x4 x3 v_7 H locs ls hp hP hD hS (lv_sub hl [0, 1, 2, 4] rfl)
set_option maxHeartbeats 4000000 in
set_option maxRecDepth 100000 in
theorem kb_X3_worthOf_5 (C0 : gc cX3_worthOf (some .int) 5 RX3 (dC, dI) (tyl cI cC cZ cB cJ) A p s m args meth c) : ∀ (n : Nat), ∀ (x1 : Int32) (x2 : Int32) (x3 : Int32) (x4 : Int32) (H : Heap) (locs : List Loc) (ls : Array Slot), (wb_X3_worthOf_5 post tr_fruits tr_worth n) x1 x2 x3 x4 → va_P (dC, dI) classes (wd_X3_worthOf cI cC cZ cB cJ a_tr a_tr_x a_tr_height a_tr_worth a_tr_ripe a_tr_foot a_tr_fork a_tr_settings tr_fruits tr_standings tr_comingFruits tr_comingStandings tr_worth) H → va_D A (wd_X3_worthOf cI cC cZ cB cJ a_tr a_tr_x a_tr_height a_tr_worth a_tr_ripe a_tr_foot a_tr_fork a_tr_settings tr_fruits tr_standings tr_comingFruits tr_comingStandings tr_worth) → va_S A s.heap H locs → lv_has ls 5 [(0, .ref a_tr), (1, .int x1), (2, .int x2), (3, .int x3), (4, .int x4)] → W p l e rm_X3_worthOf s m args below meth c H locs 0 0 (MQ below (q_X3_worthOf dC dI cI cC cZ cB cJ A a_tr a_tr_x a_tr_height a_tr_worth a_tr_ripe a_tr_foot a_tr_fork a_tr_settings tr_fruits tr_standings tr_comingFruits tr_comingStandings tr_worth post) args s 0 0 A) (F0 m 5 ls []) := by
  intro n
  induction n with
  | zero =>
    intro x1 x2 x3 x4 H locs ls hp
    exact False.elim hp
  | succ n ih =>
    intro x1 x2 x3 x4 H locs ls hp
    exact ks_X3_worthOf_5 C0 ih x1 x2 x3 x4 H locs ls hp
end S_X3_worthOf
def wp_X3_worthOf (post : Int32 → Prop) (p0 : Int32) (p1 : Int32) (tr_fruits : Int32) (tr_worth : Nat → Int32) : Prop := ∃ n : Nat, wb_X3_worthOf_5 post tr_fruits tr_worth n p0 p1 0 0
set_option maxHeartbeats 4000000 in
set_option maxRecDepth 100000 in
theorem c_X3_worthOf (l : Launch) (dC : Nat → ClassId) (dI : Nat → Nat → Nat) (cI cC cZ cB cJ : ClassId) (a_tr : Nat) (a_tr_x : Nat) (a_tr_height : Nat) (a_tr_worth : Nat) (a_tr_ripe : Nat) (a_tr_foot : Nat) (a_tr_fork : Nat) (a_tr_settings : Nat) (sz : Nat) (p0 : Int32) (p1 : Int32) (tr_fruits : Int32) (tr_standings : Int32) (tr_comingFruits : Int32) (tr_comingStandings : Int32) (tr_worth : Nat → Int32) (post : Int32 → Prop) (hw : wp_X3_worthOf post p0 p1 tr_fruits tr_worth) : Met l yX3_worthOf (gw yX3_worthOf cX3_worthOf 5 (some .int)) rm_X3_worthOf (va_Pc [.ref a_tr, .int p0, .int p1] (gPre (dC, dI) (tyl cI cC cZ cB cJ) (wd_X3_worthOf cI cC cZ cB cJ a_tr a_tr_x a_tr_height a_tr_worth a_tr_ripe a_tr_foot a_tr_fork a_tr_settings tr_fruits tr_standings tr_comingFruits tr_comingStandings tr_worth) sz)) (q_X3_worthOf dC dI cI cC cZ cB cJ (va_A (wd_X3_worthOf cI cC cZ cB cJ a_tr a_tr_x a_tr_height a_tr_worth a_tr_ripe a_tr_foot a_tr_fork a_tr_settings tr_fruits tr_standings tr_comingFruits tr_comingStandings tr_worth) sz) a_tr a_tr_x a_tr_height a_tr_worth a_tr_ripe a_tr_foot a_tr_fork a_tr_settings tr_fruits tr_standings tr_comingFruits tr_comingStandings tr_worth post) 0 0 (va_A (wd_X3_worthOf cI cC cZ cB cJ a_tr a_tr_x a_tr_height a_tr_worth a_tr_ripe a_tr_foot a_tr_fork a_tr_settings tr_fruits tr_standings tr_comingFruits tr_comingStandings tr_worth) sz) := by
  refine g_enter (own := RX3) (dC, dI) (tyl cI cC cZ cB cJ) (wd_X3_worthOf cI cC cZ cB cJ a_tr a_tr_x a_tr_height a_tr_worth a_tr_ripe a_tr_foot a_tr_fork a_tr_settings tr_fruits tr_standings tr_comingFruits tr_comingStandings tr_worth) sz [.ref a_tr, .int p0, .int p1] (fun A => q_X3_worthOf dC dI cI cC cZ cB cJ A a_tr a_tr_x a_tr_height a_tr_worth a_tr_ripe a_tr_foot a_tr_fork a_tr_settings tr_fruits tr_standings tr_comingFruits tr_comingStandings tr_worth post) (by decide) rfl (Nat.le_of_ble_eq_true rfl) ?_
  intro p e s m args below meth c A H locs ls C0 hP hD hS hl
  have hl : lv_has ls 5 [(0, .ref a_tr), (1, .int p0), (2, .int p1)] := hl
  obtain ⟨hx, hb, hr, hml, hown, hts, hlocks, hA, hK, hN, tL, tM, hZL, hTL, hZM, hTM, hZX⟩ := id C0
  have hp := hw
  unfold wp_X3_worthOf at hp
  refine lv_iconst (v := 0) hx hb eX3_worthOf_0.1 (by decide) ?_
  refine lv_istore_n (lv' := [(3, .int 0), (0, .ref a_tr), (1, .int p0), (2, .int p1)]) hx hb eX3_worthOf_0.2.1 rfl hl (by decide) rfl (fun ls hl => ?_)
  refine lv_iconst (v := 0) hx hb eX3_worthOf_0.2.2.1 (by decide) ?_
  refine lv_istore (lv' := [(4, .int 0), (3, .int 0), (0, .ref a_tr), (1, .int p0), (2, .int p1)]) hx hb eX3_worthOf_0.2.2.2.1 hl (by decide) rfl (fun ls hl => ?_)
  obtain ⟨n9, hp⟩ := hp
  exact kb_X3_worthOf_5 C0 n9 p0 p1 0 0 H locs ls hp hP hD hS (lv_sub hl [2, 3, 4, 1, 0] rfl)
abbrev wd_X0_worthOf (cI cC cZ cB cJ : ClassId) (a_ga : Nat) (a_tr : Nat) (a_no : Nat) (a_ru : Nat) (a_tr_x : Nat) (a_tr_height : Nat) (a_tr_worth : Nat) (a_tr_ripe : Nat) (a_tr_foot : Nat) (a_tr_fork : Nat) (a_tr_settings : Nat) (tr_fruits : Int32) (tr_standings : Int32) (tr_comingFruits : Int32) (tr_comingStandings : Int32) (tr_worth : Nat → Int32) (no_apron : Int32) (no_basket : Int32) (no_ground : Int32) (no_bruised : Int32) (no_ladder : Int32) (no_helper : Int32) (no_today : Int32) (no_clock : Int32) : va_W := [(a_ga, .inr (0, [.ref a_tr, .ref a_no, .ref a_ru])), (a_tr, .inr (3, [.ref a_tr_x, .ref a_tr_height, .ref a_tr_worth, .ref a_tr_ripe, .ref a_tr_foot, .ref a_tr_fork, .ref a_tr_settings, .int tr_fruits, .int tr_standings, .int tr_comingFruits, .int tr_comingStandings])), (a_tr_worth, .inl (cI, 16, .inl tr_worth)), (a_no, .inr (2, [.int no_apron, .int no_basket, .int no_ground, .int no_bruised, .int no_ladder, .int no_helper, .int no_today, .int no_clock]))]
abbrev q_X0_worthOf (dC : Nat → ClassId) (dI : Nat → Nat → Nat) (cI cC cZ cB cJ : ClassId) (A : Nat → Prop) (a_ga : Nat) (a_tr : Nat) (a_no : Nat) (a_ru : Nat) (a_tr_x : Nat) (a_tr_height : Nat) (a_tr_worth : Nat) (a_tr_ripe : Nat) (a_tr_foot : Nat) (a_tr_fork : Nat) (a_tr_settings : Nat) (tr_fruits : Int32) (tr_standings : Int32) (tr_comingFruits : Int32) (tr_comingStandings : Int32) (tr_worth : Nat → Int32) (no_apron : Int32) (no_basket : Int32) (no_ground : Int32) (no_bruised : Int32) (no_ladder : Int32) (no_helper : Int32) (no_today : Int32) (no_clock : Int32) (post : Int32 → Prop) : Array Value → State → Outcome → State → Prop := va_Qi (fun (r : Int32) (u : Unit) => post r) (fun u t => gB (dC, dI) (tyl cI cC cZ cB cJ) A (wd_X0_worthOf cI cC cZ cB cJ a_ga a_tr a_no a_ru a_tr_x a_tr_height a_tr_worth a_tr_ripe a_tr_foot a_tr_fork a_tr_settings tr_fruits tr_standings tr_comingFruits tr_comingStandings tr_worth no_apron no_basket no_ground no_bruised no_ladder no_helper no_today no_clock) t) A
abbrev rm_X0_worthOf : Room := { frames := 1, cells := 0, slots := 0, locals := 24 }
def wp_X0_worthOf (post : Int32 → Prop) (p0 : Int32) (tr_fruits : Int32) (tr_worth : Nat → Int32) (no_bruised : Int32) : Prop := wp_X3_worthOf (fun r_1 => post r_1) p0 no_bruised tr_fruits tr_worth
set_option maxHeartbeats 4000000 in
set_option maxRecDepth 100000 in
theorem c_X0_worthOf (l : Launch) (dC : Nat → ClassId) (dI : Nat → Nat → Nat) (cI cC cZ cB cJ : ClassId) (a_ga : Nat) (a_tr : Nat) (a_no : Nat) (a_ru : Nat) (a_tr_x : Nat) (a_tr_height : Nat) (a_tr_worth : Nat) (a_tr_ripe : Nat) (a_tr_foot : Nat) (a_tr_fork : Nat) (a_tr_settings : Nat) (sz : Nat) (p0 : Int32) (tr_fruits : Int32) (tr_standings : Int32) (tr_comingFruits : Int32) (tr_comingStandings : Int32) (tr_worth : Nat → Int32) (no_apron : Int32) (no_basket : Int32) (no_ground : Int32) (no_bruised : Int32) (no_ladder : Int32) (no_helper : Int32) (no_today : Int32) (no_clock : Int32) (post : Int32 → Prop) (hw : wp_X0_worthOf post p0 tr_fruits tr_worth no_bruised) : Met l yX0_worthOf (gw yX0_worthOf cX0_worthOf 2 (some .int)) rm_X0_worthOf (va_Pc [.ref a_ga, .int p0] (gPre (dC, dI) (tyl cI cC cZ cB cJ) (wd_X0_worthOf cI cC cZ cB cJ a_ga a_tr a_no a_ru a_tr_x a_tr_height a_tr_worth a_tr_ripe a_tr_foot a_tr_fork a_tr_settings tr_fruits tr_standings tr_comingFruits tr_comingStandings tr_worth no_apron no_basket no_ground no_bruised no_ladder no_helper no_today no_clock) sz)) (q_X0_worthOf dC dI cI cC cZ cB cJ (va_A (wd_X0_worthOf cI cC cZ cB cJ a_ga a_tr a_no a_ru a_tr_x a_tr_height a_tr_worth a_tr_ripe a_tr_foot a_tr_fork a_tr_settings tr_fruits tr_standings tr_comingFruits tr_comingStandings tr_worth no_apron no_basket no_ground no_bruised no_ladder no_helper no_today no_clock) sz) a_ga a_tr a_no a_ru a_tr_x a_tr_height a_tr_worth a_tr_ripe a_tr_foot a_tr_fork a_tr_settings tr_fruits tr_standings tr_comingFruits tr_comingStandings tr_worth no_apron no_basket no_ground no_bruised no_ladder no_helper no_today no_clock post) 0 0 (va_A (wd_X0_worthOf cI cC cZ cB cJ a_ga a_tr a_no a_ru a_tr_x a_tr_height a_tr_worth a_tr_ripe a_tr_foot a_tr_fork a_tr_settings tr_fruits tr_standings tr_comingFruits tr_comingStandings tr_worth no_apron no_basket no_ground no_bruised no_ladder no_helper no_today no_clock) sz) := by
  refine g_enter (own := RX0) (dC, dI) (tyl cI cC cZ cB cJ) (wd_X0_worthOf cI cC cZ cB cJ a_ga a_tr a_no a_ru a_tr_x a_tr_height a_tr_worth a_tr_ripe a_tr_foot a_tr_fork a_tr_settings tr_fruits tr_standings tr_comingFruits tr_comingStandings tr_worth no_apron no_basket no_ground no_bruised no_ladder no_helper no_today no_clock) sz [.ref a_ga, .int p0] (fun A => q_X0_worthOf dC dI cI cC cZ cB cJ A a_ga a_tr a_no a_ru a_tr_x a_tr_height a_tr_worth a_tr_ripe a_tr_foot a_tr_fork a_tr_settings tr_fruits tr_standings tr_comingFruits tr_comingStandings tr_worth no_apron no_basket no_ground no_bruised no_ladder no_helper no_today no_clock post) (by decide) rfl (Nat.le_of_ble_eq_true rfl) ?_
  intro p e s m args below meth c A H locs ls C0 hP hD hS hl
  have hl : lv_has ls 2 [(0, .ref a_ga), (1, .int p0)] := hl
  obtain ⟨hx, hb, hr, hml, hown, hts, hlocks, hA, hK, hN, tL, tM, hZL, hTL, hZM, hTM, hZX⟩ := id C0
  have hp := hw
  unfold wp_X0_worthOf at hp
  refine lv_aload_n hx hb eX0_worthOf_0.1 rfl (lv_at hl 0 rfl) ?_
  refine va_get (D := (dC, dI)) (ci := 0) (v := .ref a_tr) (C := RX0) (T := TX0) (N := 3) hx hb hts i_X0 hown hK hP 0 rfl rfl 0 (Nat.le_of_ble_eq_true rfl) (hts _ q_156) (fun _ h9 => h9) rfl eX0_worthOf_0.2.1 ?_
  refine lv_iload_n hx hb eX0_worthOf_0.2.2.1 rfl (lv_at hl 1 rfl) ?_
  refine lv_aload_n hx hb eX0_worthOf_0.2.2.2.1 rfl (lv_at hl 0 rfl) ?_
  refine va_get (D := (dC, dI)) (ci := 0) (v := .ref a_no) (C := RX0) (T := TX0) (N := 3) hx hb hts i_X0 hown hK hP 0 rfl rfl 1 (Nat.le_of_ble_eq_true rfl) (hts _ q_161) (fun _ h9 => h9) rfl eX0_worthOf_0.2.2.2.2.1 ?_
  refine va_get (D := (dC, dI)) (ci := 2) (v := .int no_bruised) (C := RX2) (T := TX2) (N := 8) hx hb hts i_X2 hown hK hP 3 rfl rfl 3 (Nat.le_of_ble_eq_true rfl) (hts _ q_278) (fun _ h9 => h9) rfl eX0_worthOf_0.2.2.2.2.2.1 ?_
  refine g_calli (wc := (wd_X3_worthOf cI cC cZ cB cJ a_tr a_tr_x a_tr_height a_tr_worth a_tr_ripe a_tr_foot a_tr_fork a_tr_settings tr_fruits tr_standings tr_comingFruits tr_comingStandings tr_worth)) hP hD hS hA [1, 2] [0, 3] rfl rfl rfl rfl (g_runV (As := [.int p0, .int no_bruised]) (rest := []) C0 hP hD hS [1, 2] rfl rfl 1 3 rfl rfl (c_X3_worthOf l dC dI cI cC cZ cB cJ a_tr a_tr_x a_tr_height a_tr_worth a_tr_ripe a_tr_foot a_tr_fork a_tr_settings H.size p0 no_bruised tr_fruits tr_standings tr_comingFruits tr_comingStandings tr_worth _ hp) q_279 q_282 q_280 q_281 q_48 h_X3_worthOf rfl rfl ⟨Nat.le_of_ble_eq_true rfl, Nat.le_of_ble_eq_true rfl⟩ rfl rfl hl.1 rfl (lv_room (Nat.le_of_ble_eq_true rfl)) eX0_worthOf_0.2.2.2.2.2.2.1 ⟨Nat.zero_le _, Nat.zero_le _⟩) (fun r_1 u H locs hp hP hD hS => ?_)
  have hPD := PDs (ws' := (wd_X0_worthOf cI cC cZ cB cJ a_ga a_tr a_no a_ru a_tr_x a_tr_height a_tr_worth a_tr_ripe a_tr_foot a_tr_fork a_tr_settings tr_fruits tr_standings tr_comingFruits tr_comingStandings tr_worth no_apron no_basket no_ground no_bruised no_ladder no_helper no_today no_clock)) hP hD [0, 2, 3, 1] (by decide) rfl
  have hP := hPD.1
  have hD := hPD.2
  exact W.iret (v := r_1) hx hb hr (fun t ht hW => ⟨⟨r_1, (), rfl, hp, by rw [ht]; exact hP, va_K.moved hW.alike hK, hD⟩, hS.F ht⟩) hS.2.2 eX0_worthOf_0.2.2.2.2.2.2.2
abbrev wd_X7_meant (cI cC cZ cB cJ : ClassId) (a_ru : Nat) (a_ru_given : Nat) (a_ru_waiting : Nat) (a_ru_stack : Nat) (a_ru_program : Nat) (a_ru_draft : Nat) (ru_length : Int32) (ru_drafted : Int32) (ru_waits : Int32) (ru_open : Int32) (ru_compared : Int32) (ru_wantsThing : Int32) (ru_given : Nat → Int32) : va_W := [(a_ru, .inr (7, [.ref a_ru_given, .ref a_ru_waiting, .ref a_ru_stack, .ref a_ru_program, .ref a_ru_draft, .int ru_length, .int ru_drafted, .int ru_waits, .int ru_open, .int ru_compared, .int ru_wantsThing])), (a_ru_given, .inl (cI, 7, .inl ru_given))]
abbrev q_X7_meant (dC : Nat → ClassId) (dI : Nat → Nat → Nat) (cI cC cZ cB cJ : ClassId) (A : Nat → Prop) (a_ru : Nat) (a_ru_given : Nat) (a_ru_waiting : Nat) (a_ru_stack : Nat) (a_ru_program : Nat) (a_ru_draft : Nat) (ru_length : Int32) (ru_drafted : Int32) (ru_waits : Int32) (ru_open : Int32) (ru_compared : Int32) (ru_wantsThing : Int32) (ru_given : Nat → Int32) (post : Int32 → Prop) : Array Value → State → Outcome → State → Prop := va_Qi (fun (r : Int32) (u : Unit) => post r) (fun u t => gB (dC, dI) (tyl cI cC cZ cB cJ) A (wd_X7_meant cI cC cZ cB cJ a_ru a_ru_given a_ru_waiting a_ru_stack a_ru_program a_ru_draft ru_length ru_drafted ru_waits ru_open ru_compared ru_wantsThing ru_given) t) A
abbrev rm_X7_meant : Room := { frames := 0, cells := 0, slots := 0, locals := 0 }
def wp_X7_meant (post : Int32 → Prop) (p0 : Int32) (ru_given : Nat → Int32) : Prop := ∀ v_1 : Int32, v_1 = p0 - 1000 → (v_1 < 0 → post p0) ∧ (¬ v_1 < 0 → (7 ≤ v_1 → post p0) ∧ (¬ 7 ≤ v_1 → vp_in v_1 7 ∧ (∀ v_2 : Int32, v_2 = ru_given v_1.toNatClampNeg → post v_2)))
set_option maxHeartbeats 4000000 in
set_option maxRecDepth 100000 in
theorem c_X7_meant (l : Launch) (dC : Nat → ClassId) (dI : Nat → Nat → Nat) (cI cC cZ cB cJ : ClassId) (a_ru : Nat) (a_ru_given : Nat) (a_ru_waiting : Nat) (a_ru_stack : Nat) (a_ru_program : Nat) (a_ru_draft : Nat) (sz : Nat) (p0 : Int32) (ru_length : Int32) (ru_drafted : Int32) (ru_waits : Int32) (ru_open : Int32) (ru_compared : Int32) (ru_wantsThing : Int32) (ru_given : Nat → Int32) (post : Int32 → Prop) (hw : wp_X7_meant post p0 ru_given) : Met l yX7_meant (gw yX7_meant cX7_meant 3 (some .int)) rm_X7_meant (va_Pc [.ref a_ru, .int p0] (gPre (dC, dI) (tyl cI cC cZ cB cJ) (wd_X7_meant cI cC cZ cB cJ a_ru a_ru_given a_ru_waiting a_ru_stack a_ru_program a_ru_draft ru_length ru_drafted ru_waits ru_open ru_compared ru_wantsThing ru_given) sz)) (q_X7_meant dC dI cI cC cZ cB cJ (va_A (wd_X7_meant cI cC cZ cB cJ a_ru a_ru_given a_ru_waiting a_ru_stack a_ru_program a_ru_draft ru_length ru_drafted ru_waits ru_open ru_compared ru_wantsThing ru_given) sz) a_ru a_ru_given a_ru_waiting a_ru_stack a_ru_program a_ru_draft ru_length ru_drafted ru_waits ru_open ru_compared ru_wantsThing ru_given post) 0 0 (va_A (wd_X7_meant cI cC cZ cB cJ a_ru a_ru_given a_ru_waiting a_ru_stack a_ru_program a_ru_draft ru_length ru_drafted ru_waits ru_open ru_compared ru_wantsThing ru_given) sz) := by
  refine g_enter (own := RX7) (dC, dI) (tyl cI cC cZ cB cJ) (wd_X7_meant cI cC cZ cB cJ a_ru a_ru_given a_ru_waiting a_ru_stack a_ru_program a_ru_draft ru_length ru_drafted ru_waits ru_open ru_compared ru_wantsThing ru_given) sz [.ref a_ru, .int p0] (fun A => q_X7_meant dC dI cI cC cZ cB cJ A a_ru a_ru_given a_ru_waiting a_ru_stack a_ru_program a_ru_draft ru_length ru_drafted ru_waits ru_open ru_compared ru_wantsThing ru_given post) (by decide) rfl (Nat.le_of_ble_eq_true rfl) ?_
  intro p e s m args below meth c A H locs ls C0 hP hD hS hl
  have hl : lv_has ls 3 [(0, .ref a_ru), (1, .int p0)] := hl
  obtain ⟨hx, hb, hr, hml, hown, hts, hlocks, hA, hK, hN, tL, tM, hZL, hTL, hZM, hTM, hZX⟩ := id C0
  have hp := hw
  unfold wp_X7_meant at hp
  refine lv_iload_n hx hb eX7_meant_0.1 rfl (lv_at hl 1 rfl) ?_
  refine lv_sipush (v := 1000) hx hb eX7_meant_0.2.1 (by decide) ?_
  refine lv_isub hx hb eX7_meant_0.2.2.1 ?_
  refine lv_topi (fun v_1 ev_1 => ?_)
  have hp := hp v_1 ev_1
  refine lv_istore_n (lv' := [(2, .int v_1), (0, .ref a_ru), (1, .int p0)]) hx hb eX7_meant_0.2.2.2.1 rfl hl (by decide) rfl (fun ls hl => ?_)
  refine lv_iload_n hx hb eX7_meant_0.2.2.2.2.1 rfl (lv_at hl 0 rfl) ?_
  refine lv_if_lt (tgt := 28) hx hb eX7_meant_0.2.2.2.2.2.1 (by decide) (fun hc => ?_) (fun hc => ?_)
  · have hp := hp.1 hc
    refine lv_iload_n hx hb eX7_meant_28.1 rfl (lv_at hl 2 rfl) ?_
    exact W.iret (v := p0) hx hb hr (fun t ht hW => ⟨⟨p0, (), rfl, hp, by rw [ht]; exact hP, va_K.moved hW.alike hK, hD⟩, hS.F ht⟩) hS.2.2 eX7_meant_28.2
  · have hp := hp.2 hc
    refine lv_iload_n hx hb eX7_meant_0.2.2.2.2.2.2.1 rfl (lv_at hl 0 rfl) ?_
    refine lv_aload_n hx hb eX7_meant_0.2.2.2.2.2.2.2.1 rfl (lv_at hl 1 rfl) ?_
    refine va_get (D := (dC, dI)) (ci := 7) (v := .ref a_ru_given) (C := RX7) (T := TX7) (N := 11) hx hb hts i_X7 hown hK hP 0 rfl rfl 0 (Nat.le_of_ble_eq_true rfl) (hts _ q_283) (fun _ h9 => h9) rfl eX7_meant_0.2.2.2.2.2.2.2.2.1 ?_
    refine va_alen (v := 7) hx hb hK hP 1 0 rfl rfl rfl eX7_meant_0.2.2.2.2.2.2.2.2.2.1 ?_
    refine lv_icmp_ge (tgt := 28) hx hb eX7_meant_0.2.2.2.2.2.2.2.2.2.2.1 (by decide) (fun hc => ?_) (fun hc => ?_)
    · have hp := hp.1 hc
      refine lv_iload_n hx hb eX7_meant_28.1 rfl (lv_at hl 2 rfl) ?_
      exact W.iret (v := p0) hx hb hr (fun t ht hW => ⟨⟨p0, (), rfl, hp, by rw [ht]; exact hP, va_K.moved hW.alike hK, hD⟩, hS.F ht⟩) hS.2.2 eX7_meant_28.2
    · have hp := hp.2 hc
      refine lv_aload_n hx hb eX7_meant_0.2.2.2.2.2.2.2.2.2.2.2.1 rfl (lv_at hl 1 rfl) ?_
      refine va_get (D := (dC, dI)) (ci := 7) (v := .ref a_ru_given) (C := RX7) (T := TX7) (N := 11) hx hb hts i_X7 hown hK hP 0 rfl rfl 0 (Nat.le_of_ble_eq_true rfl) (hts _ q_283) (fun _ h9 => h9) rfl eX7_meant_0.2.2.2.2.2.2.2.2.2.2.2.2.1 ?_
      refine lv_iload_n hx hb eX7_meant_0.2.2.2.2.2.2.2.2.2.2.2.2.2.1 rfl (lv_at hl 0 rfl) ?_
      have hin := hp.1
      have hp := hp.2
      refine va_iald hx hb hK hP 1 0 rfl rfl hin eX7_meant_0.2.2.2.2.2.2.2.2.2.2.2.2.2.2.1 ?_
      refine lv_topi (fun v_2 ev_2 => ?_)
      have hp := hp v_2 ev_2
      refine lv_goto (tgt := 29) hx hb eX7_meant_0.2.2.2.2.2.2.2.2.2.2.2.2.2.2.2 (by decide) ?_
      exact W.iret (v := v_2) hx hb hr (fun t ht hW => ⟨⟨v_2, (), rfl, hp, by rw [ht]; exact hP, va_K.moved hW.alike hK, hD⟩, hS.F ht⟩) hS.2.2 eX7_meant_28.2
abbrev wd_X7_join (cI cC cZ cB cJ : ClassId) : va_W := []
abbrev q_X7_join (dC : Nat → ClassId) (dI : Nat → Nat → Nat) (cI cC cZ cB cJ : ClassId) (A : Nat → Prop) (post : Int32 → Prop) : Array Value → State → Outcome → State → Prop := va_Qi (fun (r : Int32) (u : Unit) => post r) (fun u t => gB (dC, dI) (tyl cI cC cZ cB cJ) A (wd_X7_join cI cC cZ cB cJ) t) A
abbrev rm_X7_join : Room := { frames := 0, cells := 0, slots := 0, locals := 0 }
def wp_X7_join (post : Int32 → Prop) (p0 : Int32) (p1 : Int32) (p2 : Int32) : Prop := (p0 = 42 → post (p1 * p2)) ∧ (p0 = 43 → post (p1 + p2)) ∧ (p0 = 45 → post (p1 - p2)) ∧ (p0 = 60 → (p2 ≤ p1 → post 0) ∧ (¬ p2 ≤ p1 → post 1)) ∧ (p0 = 61 → (¬ p1 = p2 → post 0) ∧ (p1 = p2 → post 1)) ∧ (p0 = 62 → (p1 ≤ p2 → post 0) ∧ (¬ p1 ≤ p2 → post 1)) ∧ (¬ p0 = 42 → ¬ p0 = 43 → ¬ p0 = 45 → ¬ p0 = 60 → ¬ p0 = 61 → ¬ p0 = 62 → (¬ p2 = 0 → ¬ p2 = 0 ∧ (post (p1 / p2))) ∧ (p2 = 0 → post 0))
set_option maxHeartbeats 4000000 in
set_option maxRecDepth 100000 in
theorem c_X7_join (l : Launch) (dC : Nat → ClassId) (dI : Nat → Nat → Nat) (cI cC cZ cB cJ : ClassId) (sz : Nat) (p0 : Int32) (p1 : Int32) (p2 : Int32) (post : Int32 → Prop) (hw : wp_X7_join post p0 p1 p2) : Met l yX7_join (gw yX7_join cX7_join 3 (some .int)) rm_X7_join (va_Pc [.int p0, .int p1, .int p2] (gPre (dC, dI) (tyl cI cC cZ cB cJ) (wd_X7_join cI cC cZ cB cJ) sz)) (q_X7_join dC dI cI cC cZ cB cJ (va_A (wd_X7_join cI cC cZ cB cJ) sz) post) 0 0 (va_A (wd_X7_join cI cC cZ cB cJ) sz) := by
  refine g_enter (own := RX7) (dC, dI) (tyl cI cC cZ cB cJ) (wd_X7_join cI cC cZ cB cJ) sz [.int p0, .int p1, .int p2] (fun A => q_X7_join dC dI cI cC cZ cB cJ A post) (by decide) rfl (Nat.le_of_ble_eq_true rfl) ?_
  intro p e s m args below meth c A H locs ls C0 hP hD hS hl
  have hl : lv_has ls 3 [(0, .int p0), (1, .int p1), (2, .int p2)] := hl
  obtain ⟨hx, hb, hr, hml, hown, hts, hlocks, hA, hK, hN, tL, tM, hZL, hTL, hZM, hTM, hZX⟩ := id C0
  have hp := hw
  unfold wp_X7_join at hp
  refine lv_iload_n hx hb eX7_join_0.1 rfl (lv_at hl 0 rfl) ?_
  by_cases hc0 : p0 = 42
  · have hp := hp.1 hc0
    refine lv_lookup (tgt := 101) hx hb eX7_join_0.2.1 (by decide) (by first | (rw [hc0]; done) | (rw [hc0]; rfl)) (by decide) ?_
    refine lv_iload_n hx hb eX7_join_82.2.2.2.2.2.2.2.2.2.2.2.2.2.2.2 rfl (lv_at hl 1 rfl) ?_
    refine lv_iload_n hx hb eX7_join_102.1 rfl (lv_at hl 2 rfl) ?_
    refine lv_imul hx hb eX7_join_102.2.1 ?_
    exact W.iret (v := p1 * p2) hx hb hr (fun t ht hW => ⟨⟨p1 * p2, (), rfl, hp, by rw [ht]; exact hP, va_K.moved hW.alike hK, hD⟩, hS.F ht⟩) hS.2.2 eX7_join_102.2.2.1
  by_cases hc1 : p0 = 43
  · have hp := hp.2.1 hc1
    refine lv_lookup (tgt := 93) hx hb eX7_join_0.2.1 (by decide) (by first | (rw [hc1]; done) | (rw [hc1]; rfl)) (by decide) ?_
    refine lv_iload_n hx hb eX7_join_82.2.2.2.2.2.2.2.1 rfl (lv_at hl 1 rfl) ?_
    refine lv_iload_n hx hb eX7_join_82.2.2.2.2.2.2.2.2.1 rfl (lv_at hl 2 rfl) ?_
    refine lv_iadd hx hb eX7_join_82.2.2.2.2.2.2.2.2.2.1 ?_
    exact W.iret (v := p1 + p2) hx hb hr (fun t ht hW => ⟨⟨p1 + p2, (), rfl, hp, by rw [ht]; exact hP, va_K.moved hW.alike hK, hD⟩, hS.F ht⟩) hS.2.2 eX7_join_82.2.2.2.2.2.2.2.2.2.2.1
  by_cases hc2 : p0 = 45
  · have hp := hp.2.2.1 hc2
    refine lv_lookup (tgt := 97) hx hb eX7_join_0.2.1 (by decide) (by first | (rw [hc2]; done) | (rw [hc2]; rfl)) (by decide) ?_
    refine lv_iload_n hx hb eX7_join_82.2.2.2.2.2.2.2.2.2.2.2.1 rfl (lv_at hl 1 rfl) ?_
    refine lv_iload_n hx hb eX7_join_82.2.2.2.2.2.2.2.2.2.2.2.2.1 rfl (lv_at hl 2 rfl) ?_
    refine lv_isub hx hb eX7_join_82.2.2.2.2.2.2.2.2.2.2.2.2.2.1 ?_
    exact W.iret (v := p1 - p2) hx hb hr (fun t ht hW => ⟨⟨p1 - p2, (), rfl, hp, by rw [ht]; exact hP, va_K.moved hW.alike hK, hD⟩, hS.F ht⟩) hS.2.2 eX7_join_82.2.2.2.2.2.2.2.2.2.2.2.2.2.2.1
  by_cases hc3 : p0 = 60
  · have hp := hp.2.2.2.1 hc3
    refine lv_lookup (tgt := 60) hx hb eX7_join_0.2.1 (by decide) (by first | (rw [hc3]; done) | (rw [hc3]; rfl)) (by decide) ?_
    refine lv_iload_n hx hb eX7_join_0.2.2.1 rfl (lv_at hl 1 rfl) ?_
    refine lv_iload_n hx hb eX7_join_0.2.2.2.1 rfl (lv_at hl 2 rfl) ?_
    refine lv_icmp_ge (tgt := 69) hx hb eX7_join_0.2.2.2.2.1 (by decide) (fun hc => ?_) (fun hc => ?_)
    · have hp := hp.1 hc
      refine lv_iconst (v := 0) hx hb eX7_join_0.2.2.2.2.2.2.2.1 (by decide) ?_
      exact W.iret (v := 0) hx hb hr (fun t ht hW => ⟨⟨0, (), rfl, hp, by rw [ht]; exact hP, va_K.moved hW.alike hK, hD⟩, hS.F ht⟩) hS.2.2 eX7_join_0.2.2.2.2.2.2.2.2.1
    · have hp := hp.2 hc
      refine lv_iconst (v := 1) hx hb eX7_join_0.2.2.2.2.2.1 (by decide) ?_
      refine lv_goto (tgt := 70) hx hb eX7_join_0.2.2.2.2.2.2.1 (by decide) ?_
      exact W.iret (v := 1) hx hb hr (fun t ht hW => ⟨⟨1, (), rfl, hp, by rw [ht]; exact hP, va_K.moved hW.alike hK, hD⟩, hS.F ht⟩) hS.2.2 eX7_join_0.2.2.2.2.2.2.2.2.1
  by_cases hc4 : p0 = 61
  · have hp := hp.2.2.2.2.1 hc4
    refine lv_lookup (tgt := 82) hx hb eX7_join_0.2.1 (by decide) (by first | (rw [hc4]; done) | (rw [hc4]; rfl)) (by decide) ?_
    refine lv_iload_n hx hb eX7_join_82.1 rfl (lv_at hl 1 rfl) ?_
    refine lv_iload_n hx hb eX7_join_82.2.1 rfl (lv_at hl 2 rfl) ?_
    refine lv_icmp_ne (tgt := 91) hx hb eX7_join_82.2.2.1 (by decide) (fun hc => ?_) (fun hc => ?_)
    · have hp := hp.1 hc
      refine lv_iconst (v := 0) hx hb eX7_join_82.2.2.2.2.2.1 (by decide) ?_
      exact W.iret (v := 0) hx hb hr (fun t ht hW => ⟨⟨0, (), rfl, hp, by rw [ht]; exact hP, va_K.moved hW.alike hK, hD⟩, hS.F ht⟩) hS.2.2 eX7_join_82.2.2.2.2.2.2.1
    · have hp := hp.2 hc
      refine lv_iconst (v := 1) hx hb eX7_join_82.2.2.2.1 (by decide) ?_
      refine lv_goto (tgt := 92) hx hb eX7_join_82.2.2.2.2.1 (by decide) ?_
      exact W.iret (v := 1) hx hb hr (fun t ht hW => ⟨⟨1, (), rfl, hp, by rw [ht]; exact hP, va_K.moved hW.alike hK, hD⟩, hS.F ht⟩) hS.2.2 eX7_join_82.2.2.2.2.2.2.1
  by_cases hc5 : p0 = 62
  · have hp := hp.2.2.2.2.2.1 hc5
    refine lv_lookup (tgt := 71) hx hb eX7_join_0.2.1 (by decide) (by first | (rw [hc5]; done) | (rw [hc5]; rfl)) (by decide) ?_
    refine lv_iload_n hx hb eX7_join_0.2.2.2.2.2.2.2.2.2.1 rfl (lv_at hl 1 rfl) ?_
    refine lv_iload_n hx hb eX7_join_0.2.2.2.2.2.2.2.2.2.2.1 rfl (lv_at hl 2 rfl) ?_
    refine lv_icmp_le (tgt := 80) hx hb eX7_join_0.2.2.2.2.2.2.2.2.2.2.2.1 (by decide) (fun hc => ?_) (fun hc => ?_)
    · have hp := hp.1 hc
      refine lv_iconst (v := 0) hx hb eX7_join_0.2.2.2.2.2.2.2.2.2.2.2.2.2.2.1 (by decide) ?_
      exact W.iret (v := 0) hx hb hr (fun t ht hW => ⟨⟨0, (), rfl, hp, by rw [ht]; exact hP, va_K.moved hW.alike hK, hD⟩, hS.F ht⟩) hS.2.2 eX7_join_0.2.2.2.2.2.2.2.2.2.2.2.2.2.2.2
    · have hp := hp.2 hc
      refine lv_iconst (v := 1) hx hb eX7_join_0.2.2.2.2.2.2.2.2.2.2.2.2.1 (by decide) ?_
      refine lv_goto (tgt := 81) hx hb eX7_join_0.2.2.2.2.2.2.2.2.2.2.2.2.2.1 (by decide) ?_
      exact W.iret (v := 1) hx hb hr (fun t ht hW => ⟨⟨1, (), rfl, hp, by rw [ht]; exact hP, va_K.moved hW.alike hK, hD⟩, hS.F ht⟩) hS.2.2 eX7_join_0.2.2.2.2.2.2.2.2.2.2.2.2.2.2.2
  have hp := hp.2.2.2.2.2.2 hc0 hc1 hc2 hc3 hc4 hc5
  have key : W p l e rm_X7_join s m args below meth c H locs 0 0 (MQ below (q_X7_join dC dI cI cC cZ cB cJ A post) args s 0 0 A) (F0 m 105 ls []) := by
    refine lv_iload_n hx hb eX7_join_102.2.2.2.1 rfl (lv_at hl 2 rfl) ?_
    refine lv_if_ne (tgt := 113) hx hb eX7_join_102.2.2.2.2.1 (by decide) (fun hc => ?_) (fun hc => ?_)
    · have hp := hp.1 hc
      refine lv_iload_n hx hb eX7_join_102.2.2.2.2.2.2.2.1 rfl (lv_at hl 1 rfl) ?_
      refine lv_iload_n hx hb eX7_join_102.2.2.2.2.2.2.2.2.1 rfl (lv_at hl 2 rfl) ?_
      have hne := hp.1
      have hp := hp.2
      refine lv_idiv hx hb eX7_join_102.2.2.2.2.2.2.2.2.2.1 hne ?_
      exact W.iret (v := p1 / p2) hx hb hr (fun t ht hW => ⟨⟨p1 / p2, (), rfl, hp, by rw [ht]; exact hP, va_K.moved hW.alike hK, hD⟩, hS.F ht⟩) hS.2.2 eX7_join_102.2.2.2.2.2.2.2.2.2.2
    · have hp := hp.2 hc
      refine lv_iconst (v := 0) hx hb eX7_join_102.2.2.2.2.2.1 (by decide) ?_
      refine lv_goto (tgt := 116) hx hb eX7_join_102.2.2.2.2.2.2.1 (by decide) ?_
      exact W.iret (v := 0) hx hb hr (fun t ht hW => ⟨⟨0, (), rfl, hp, by rw [ht]; exact hP, va_K.moved hW.alike hK, hD⟩, hS.F ht⟩) hS.2.2 eX7_join_102.2.2.2.2.2.2.2.2.2.2
  exact lv_lookup (tgt := 105) (off := 104) hx hb eX7_join_0.2.1 (by decide) (by show Op.lookupswitch.offset [(42, 100), (43, 92), (45, 96), (60, 59), (61, 81), (62, 70)] _ _ = _; first | (rw [lv_osw (a := 42) hc0 rfl, lv_osw (a := 43) hc1 rfl, lv_osw (a := 45) hc2 rfl, lv_osw (a := 60) hc3 rfl, lv_osw (a := 61) hc4 rfl, lv_osw (a := 62) hc5 rfl]; done) | (rw [lv_osw (a := 42) hc0 rfl, lv_osw (a := 43) hc1 rfl, lv_osw (a := 45) hc2 rfl, lv_osw (a := 60) hc3 rfl, lv_osw (a := 61) hc4 rfl, lv_osw (a := 62) hc5 rfl]; rfl)) (by decide) key
abbrev wd_X7_reckon (cI cC cZ cB cJ : ClassId) (a_ru : Nat) (a_ru_given : Nat) (a_ru_waiting : Nat) (a_ru_stack : Nat) (a_ru_program : Nat) (a_ru_draft : Nat) (ru_length : Int32) (ru_drafted : Int32) (ru_waits : Int32) (ru_open : Int32) (ru_compared : Int32) (ru_wantsThing : Int32) (ru_given : Nat → Int32) (ru_stack : Nat → Int32) (ru_program : Nat → Int32) : va_W := [(a_ru, .inr (7, [.ref a_ru_given, .ref a_ru_waiting, .ref a_ru_stack, .ref a_ru_program, .ref a_ru_draft, .int ru_length, .int ru_drafted, .int ru_waits, .int ru_open, .int ru_compared, .int ru_wantsThing])), (a_ru_given, .inl (cI, 7, .inl ru_given)), (a_ru_stack, .inl (cI, 40, .inl ru_stack)), (a_ru_program, .inl (cI, 40, .inl ru_program))]
abbrev q_X7_reckon (dC : Nat → ClassId) (dI : Nat → Nat → Nat) (cI cC cZ cB cJ : ClassId) (A : Nat → Prop) (a_ru : Nat) (a_ru_given : Nat) (a_ru_waiting : Nat) (a_ru_stack : Nat) (a_ru_program : Nat) (a_ru_draft : Nat) (ru_length : Int32) (ru_drafted : Int32) (ru_waits : Int32) (ru_open : Int32) (ru_compared : Int32) (ru_wantsThing : Int32) (ru_given : Nat → Int32) (ru_program : Nat → Int32) (post : Int32 → (Nat → Int32) → Prop) : Array Value → State → Outcome → State → Prop := va_Qi (fun (r : Int32) (u : (Nat → Int32)) => post r u) (fun u t => gB (dC, dI) (tyl cI cC cZ cB cJ) A (wd_X7_reckon cI cC cZ cB cJ a_ru a_ru_given a_ru_waiting a_ru_stack a_ru_program a_ru_draft ru_length ru_drafted ru_waits ru_open ru_compared ru_wantsThing ru_given u ru_program) t) A
abbrev rm_X7_reckon : Room := { frames := 1, cells := 0, slots := 0, locals := 22 }
section S_X7_reckon
variable {p : Program} {l : Launch} {e : Env} {s : State} {m : MethodId} {args : Array Value} {below : List Frame} {meth : Method} {c : Code} {dC : Nat → ClassId} {dI : Nat → Nat → Nat} {cI cC cZ cB cJ : ClassId} {A : Nat → Prop} {a_ru : Nat} {a_ru_given : Nat} {a_ru_waiting : Nat} {a_ru_stack : Nat} {a_ru_program : Nat} {a_ru_draft : Nat} {ru_length : Int32} {ru_drafted : Int32} {ru_waits : Int32} {ru_open : Int32} {ru_compared : Int32} {ru_wantsThing : Int32} {ru_given : Nat → Int32} {ru_program : Nat → Int32} {post : Int32 → (Nat → Int32) → Prop}
def ws_X7_reckon_136 (post : Int32 → (Nat → Int32) → Prop) (ru_length : Int32) (ru_given : Nat → Int32) (ru_program : Nat → Int32) (x1 : Int32) (ru_stack : Nat → Int32) : Prop := (x1 ≤ 0 → post 0 ru_stack) ∧ (¬ x1 ≤ 0 → ∀ v_1 : Int32, v_1 = x1 - 1 → vp_in v_1 40 ∧ (∀ v_2 : Int32, v_2 = ru_stack v_1.toNatClampNeg → post v_2 ru_stack))
set_option maxHeartbeats 4000000 in
set_option maxRecDepth 100000 in
theorem ks_X7_reckon_136 (C0 : gc cX7_reckon (some .int) 4 RX7 (dC, dI) (tyl cI cC cZ cB cJ) A p s m args meth c) : ∀ (x1 : Int32) (ru_stack : Nat → Int32) (H : Heap) (locs : List Loc) (ls : Array Slot), (ws_X7_reckon_136 post ru_length ru_given ru_program) x1 ru_stack → va_P (dC, dI) classes (wd_X7_reckon cI cC cZ cB cJ a_ru a_ru_given a_ru_waiting a_ru_stack a_ru_program a_ru_draft ru_length ru_drafted ru_waits ru_open ru_compared ru_wantsThing ru_given ru_stack ru_program) H → va_D A (wd_X7_reckon cI cC cZ cB cJ a_ru a_ru_given a_ru_waiting a_ru_stack a_ru_program a_ru_draft ru_length ru_drafted ru_waits ru_open ru_compared ru_wantsThing ru_given ru_stack ru_program) → va_S A s.heap H locs → lv_has ls 4 [(0, .ref a_ru), (1, .int x1)] → W p l e rm_X7_reckon s m args below meth c H locs 0 0 (MQ below (q_X7_reckon dC dI cI cC cZ cB cJ A a_ru a_ru_given a_ru_waiting a_ru_stack a_ru_program a_ru_draft ru_length ru_drafted ru_waits ru_open ru_compared ru_wantsThing ru_given ru_program post) args s 0 0 A) (F0 m 136 ls []) := by
  obtain ⟨hx, hb, hr, hml, hown, hts, hlocks, hA, hK, hN, tL, tM, hZL, hTL, hZM, hTM, hZX⟩ := id C0
  intro x1 ru_stack H locs ls hp hP hD hS hl
  unfold ws_X7_reckon_136 at hp
  refine lv_iload_n hx hb eX7_reckon_121.2.2.2.2.2.2.2.1 rfl (lv_at hl 1 rfl) ?_
  refine lv_if_le (tgt := 151) hx hb eX7_reckon_121.2.2.2.2.2.2.2.2.1 (by decide) (fun hc => ?_) (fun hc => ?_)
  · have hp := hp.1 hc
    refine lv_iconst (v := 0) hx hb eX7_reckon_151.1 (by decide) ?_
    exact W.iret (v := 0) hx hb hr (fun t ht hW => ⟨⟨0, ru_stack, rfl, hp, by rw [ht]; exact hP, va_K.moved hW.alike hK, hD⟩, hS.F ht⟩) hS.2.2 eX7_reckon_151.2
  · have hp := hp.2 hc
    refine lv_aload_n hx hb eX7_reckon_121.2.2.2.2.2.2.2.2.2.1 rfl (lv_at hl 0 rfl) ?_
    refine va_get (D := (dC, dI)) (ci := 7) (v := .ref a_ru_stack) (C := RX7) (T := TX7) (N := 11) hx hb hts i_X7 hown hK hP 0 rfl rfl 2 (Nat.le_of_ble_eq_true rfl) (hts _ q_284) (fun _ h9 => h9) rfl eX7_reckon_121.2.2.2.2.2.2.2.2.2.2.1 ?_
    refine lv_iload_n hx hb eX7_reckon_121.2.2.2.2.2.2.2.2.2.2.2.1 rfl (lv_at hl 1 rfl) ?_
    refine lv_iconst (v := 1) hx hb eX7_reckon_121.2.2.2.2.2.2.2.2.2.2.2.2.1 (by decide) ?_
    refine lv_isub hx hb eX7_reckon_121.2.2.2.2.2.2.2.2.2.2.2.2.2.1 ?_
    refine lv_topi (fun v_1 ev_1 => ?_)
    have hp := hp v_1 ev_1
    have hin := hp.1
    have hp := hp.2
    refine va_iald hx hb hK hP 2 0 rfl rfl hin eX7_reckon_121.2.2.2.2.2.2.2.2.2.2.2.2.2.2.1 ?_
    refine lv_topi (fun v_2 ev_2 => ?_)
    have hp := hp v_2 ev_2
    refine lv_goto (tgt := 152) hx hb eX7_reckon_121.2.2.2.2.2.2.2.2.2.2.2.2.2.2.2 (by decide) ?_
    exact W.iret (v := v_2) hx hb hr (fun t ht hW => ⟨⟨v_2, ru_stack, rfl, hp, by rw [ht]; exact hP, va_K.moved hW.alike hK, hD⟩, hS.F ht⟩) hS.2.2 eX7_reckon_151.2
def ws_X7_reckon_130 (post : Int32 → (Nat → Int32) → Prop) (K4 : Int32 → Int32 → (Nat → Int32) → Prop) (ru_length : Int32) (ru_given : Nat → Int32) (ru_program : Nat → Int32) (x1 : Int32) (x2 : Int32) (ru_stack : Nat → Int32) : Prop := ∀ v_4 : Int32, v_4 = x2 + 1 → K4 x1 v_4 ru_stack
set_option maxHeartbeats 4000000 in
set_option maxRecDepth 100000 in
theorem ks_X7_reckon_130 (C0 : gc cX7_reckon (some .int) 4 RX7 (dC, dI) (tyl cI cC cZ cB cJ) A p s m args meth c) {K4 : Int32 → Int32 → (Nat → Int32) → Prop} (hK4 : ∀ (x1 : Int32) (x2 : Int32) (ru_stack : Nat → Int32) (H : Heap) (locs : List Loc) (ls : Array Slot), K4 x1 x2 ru_stack → va_P (dC, dI) classes (wd_X7_reckon cI cC cZ cB cJ a_ru a_ru_given a_ru_waiting a_ru_stack a_ru_program a_ru_draft ru_length ru_drafted ru_waits ru_open ru_compared ru_wantsThing ru_given ru_stack ru_program) H → va_D A (wd_X7_reckon cI cC cZ cB cJ a_ru a_ru_given a_ru_waiting a_ru_stack a_ru_program a_ru_draft ru_length ru_drafted ru_waits ru_open ru_compared ru_wantsThing ru_given ru_stack ru_program) → va_S A s.heap H locs → lv_has ls 4 [(0, .ref a_ru), (1, .int x1), (2, .int x2)] → W p l e rm_X7_reckon s m args below meth c H locs 0 0 (MQ below (q_X7_reckon dC dI cI cC cZ cB cJ A a_ru a_ru_given a_ru_waiting a_ru_stack a_ru_program a_ru_draft ru_length ru_drafted ru_waits ru_open ru_compared ru_wantsThing ru_given ru_program post) args s 0 0 A) (F0 m 4 ls [])) : ∀ (x1 : Int32) (x2 : Int32) (ru_stack : Nat → Int32) (H : Heap) (locs : List Loc) (ls : Array Slot), (ws_X7_reckon_130 post K4 ru_length ru_given ru_program) x1 x2 ru_stack → va_P (dC, dI) classes (wd_X7_reckon cI cC cZ cB cJ a_ru a_ru_given a_ru_waiting a_ru_stack a_ru_program a_ru_draft ru_length ru_drafted ru_waits ru_open ru_compared ru_wantsThing ru_given ru_stack ru_program) H → va_D A (wd_X7_reckon cI cC cZ cB cJ a_ru a_ru_given a_ru_waiting a_ru_stack a_ru_program a_ru_draft ru_length ru_drafted ru_waits ru_open ru_compared ru_wantsThing ru_given ru_stack ru_program) → va_S A s.heap H locs → lv_has ls 4 [(0, .ref a_ru), (1, .int x1), (2, .int x2)] → W p l e rm_X7_reckon s m args below meth c H locs 0 0 (MQ below (q_X7_reckon dC dI cI cC cZ cB cJ A a_ru a_ru_given a_ru_waiting a_ru_stack a_ru_program a_ru_draft ru_length ru_drafted ru_waits ru_open ru_compared ru_wantsThing ru_given ru_program post) args s 0 0 A) (F0 m 130 ls []) := by
  obtain ⟨hx, hb, hr, hml, hown, hts, hlocks, hA, hK, hN, tL, tM, hZL, hTL, hZM, hTM, hZX⟩ := id C0
  intro x1 x2 ru_stack H locs ls hp hP hD hS hl
  unfold ws_X7_reckon_130 at hp
  obtain ⟨v_4, ev_4⟩ : ∃ y : Int32, y = x2 + 1 := ⟨_, rfl⟩
  refine lv_iinc (v := v_4) (lv' := [(2, .int v_4), (0, .ref a_ru), (1, .int x1)]) hx hb eX7_reckon_121.2.2.2.2.2.1 hl (k := 2) rfl (by rw [ev_4]; rfl) (by decide) rfl (fun ls hl => ?_)
  have hp := hp v_4 ev_4
  refine lv_goto (tgt := 4) hx hb eX7_reckon_121.2.2.2.2.2.2.1 (by decide) ?_
  exact hK4 x1 v_4 ru_stack H locs ls hp hP hD hS (lv_sub hl [1, 2, 0] rfl)
def ws_X7_reckon_4 (post : Int32 → (Nat → Int32) → Prop) (next : Int32 → Int32 → (Nat → Int32) → Prop) (ru_length : Int32) (ru_given : Nat → Int32) (ru_program : Nat → Int32) (x1 : Int32) (x2 : Int32) (ru_stack : Nat → Int32) : Prop := (ru_length ≤ x2 → ws_X7_reckon_136 post ru_length ru_given ru_program x1 ru_stack) ∧ (¬ ru_length ≤ x2 → (40 ≤ x2 → ws_X7_reckon_136 post ru_length ru_given ru_program x1 ru_stack) ∧ (¬ 40 ≤ x2 → vp_in x2 40 ∧ (∀ v_3 : Int32, v_3 = ru_program x2.toNatClampNeg → (2000 ≤ v_3 → (¬ v_3 = 2256 → (x1 ≤ 1 → ws_X7_reckon_130 post next ru_length ru_given ru_program x1 x2 ru_stack) ∧ (¬ x1 ≤ 1 → ∀ v_5 : Int32, v_5 = x1 + (-1) → ∀ v_6 : Int32, v_6 = v_5 - 1 → ∀ v_7 : Int32, v_7 = v_3 - 2000 → ∀ v_8 : Int32, v_8 = v_5 - 1 → vp_in v_8 40 ∧ (∀ v_9 : Int32, v_9 = ru_stack v_8.toNatClampNeg → vp_in v_5 40 ∧ (∀ v_10 : Int32, v_10 = ru_stack v_5.toNatClampNeg → wp_X7_join (fun r_11 => vp_in v_6 40 ∧ (ws_X7_reckon_130 post next ru_length ru_given ru_program v_5 x2 (upd ru_stack v_6.toNatClampNeg r_11))) v_7 v_9 v_10)))) ∧ (v_3 = 2256 → (x1 ≤ 0 → ws_X7_reckon_130 post next ru_length ru_given ru_program x1 x2 ru_stack) ∧ (¬ x1 ≤ 0 → ∀ v_12 : Int32, v_12 = x1 - 1 → ∀ v_13 : Int32, v_13 = x1 - 1 → vp_in v_13 40 ∧ (∀ v_14 : Int32, v_14 = -(ru_stack v_13.toNatClampNeg) → vp_in v_12 40 ∧ (ws_X7_reckon_130 post next ru_length ru_given ru_program x1 x2 (upd ru_stack v_12.toNatClampNeg v_14)))))) ∧ (¬ 2000 ≤ v_3 → (40 ≤ x1 → ws_X7_reckon_130 post next ru_length ru_given ru_program x1 x2 ru_stack) ∧ (¬ 40 ≤ x1 → wp_X7_meant (fun r_15 => vp_in x1 40 ∧ (∀ v_16 : Int32, v_16 = x1 + 1 → ws_X7_reckon_130 post next ru_length ru_given ru_program v_16 x2 (upd ru_stack x1.toNatClampNeg r_15))) v_3 ru_given)))))
noncomputable def wb_X7_reckon_4 (post : Int32 → (Nat → Int32) → Prop) (ru_length : Int32) (ru_given : Nat → Int32) (ru_program : Nat → Int32) : Nat → Int32 → Int32 → (Nat → Int32) → Prop := fun n => Nat.rec (motive := fun _ => Int32 → Int32 → (Nat → Int32) → Prop) (fun _ _ _ => False) (fun _ ih => ws_X7_reckon_4 post ih ru_length ru_given ru_program) n
set_option maxHeartbeats 4000000 in
set_option maxRecDepth 100000 in
theorem ks_X7_reckon_4 (C0 : gc cX7_reckon (some .int) 4 RX7 (dC, dI) (tyl cI cC cZ cB cJ) A p s m args meth c) {next : Int32 → Int32 → (Nat → Int32) → Prop} (hKn : ∀ (x1 : Int32) (x2 : Int32) (ru_stack : Nat → Int32) (H : Heap) (locs : List Loc) (ls : Array Slot), next x1 x2 ru_stack → va_P (dC, dI) classes (wd_X7_reckon cI cC cZ cB cJ a_ru a_ru_given a_ru_waiting a_ru_stack a_ru_program a_ru_draft ru_length ru_drafted ru_waits ru_open ru_compared ru_wantsThing ru_given ru_stack ru_program) H → va_D A (wd_X7_reckon cI cC cZ cB cJ a_ru a_ru_given a_ru_waiting a_ru_stack a_ru_program a_ru_draft ru_length ru_drafted ru_waits ru_open ru_compared ru_wantsThing ru_given ru_stack ru_program) → va_S A s.heap H locs → lv_has ls 4 [(0, .ref a_ru), (1, .int x1), (2, .int x2)] → W p l e rm_X7_reckon s m args below meth c H locs 0 0 (MQ below (q_X7_reckon dC dI cI cC cZ cB cJ A a_ru a_ru_given a_ru_waiting a_ru_stack a_ru_program a_ru_draft ru_length ru_drafted ru_waits ru_open ru_compared ru_wantsThing ru_given ru_program post) args s 0 0 A) (F0 m 4 ls [])) : ∀ (x1 : Int32) (x2 : Int32) (ru_stack : Nat → Int32) (H : Heap) (locs : List Loc) (ls : Array Slot), (ws_X7_reckon_4 post next ru_length ru_given ru_program) x1 x2 ru_stack → va_P (dC, dI) classes (wd_X7_reckon cI cC cZ cB cJ a_ru a_ru_given a_ru_waiting a_ru_stack a_ru_program a_ru_draft ru_length ru_drafted ru_waits ru_open ru_compared ru_wantsThing ru_given ru_stack ru_program) H → va_D A (wd_X7_reckon cI cC cZ cB cJ a_ru a_ru_given a_ru_waiting a_ru_stack a_ru_program a_ru_draft ru_length ru_drafted ru_waits ru_open ru_compared ru_wantsThing ru_given ru_stack ru_program) → va_S A s.heap H locs → lv_has ls 4 [(0, .ref a_ru), (1, .int x1), (2, .int x2)] → W p l e rm_X7_reckon s m args below meth c H locs 0 0 (MQ below (q_X7_reckon dC dI cI cC cZ cB cJ A a_ru a_ru_given a_ru_waiting a_ru_stack a_ru_program a_ru_draft ru_length ru_drafted ru_waits ru_open ru_compared ru_wantsThing ru_given ru_program post) args s 0 0 A) (F0 m 4 ls []) := by
  obtain ⟨hx, hb, hr, hml, hown, hts, hlocks, hA, hK, hN, tL, tM, hZL, hTL, hZM, hTM, hZX⟩ := id C0
  intro x1 x2 ru_stack H locs ls hp hP hD hS hl
  unfold ws_X7_reckon_4 at hp
  refine lv_iload_n hx hb eX7_reckon_0.2.2.2.2.1 rfl (lv_at hl 2 rfl) ?_
  refine lv_aload_n hx hb eX7_reckon_0.2.2.2.2.2.1 rfl (lv_at hl 0 rfl) ?_
  refine va_get (D := (dC, dI)) (ci := 7) (v := .int ru_length) (C := RX7) (T := TX7) (N := 11) hx hb hts i_X7 hown hK hP 0 rfl rfl 5 (Nat.le_of_ble_eq_true rfl) (hts _ q_101) (fun _ h9 => h9) rfl eX7_reckon_0.2.2.2.2.2.2.1 ?_
  refine lv_icmp_ge (tgt := 136) hx hb eX7_reckon_0.2.2.2.2.2.2.2.1 (by decide) (fun hc => ?_) (fun hc => ?_)
  · have hp := hp.1 hc
    exact ks_X7_reckon_136 C0 x1 ru_stack H locs ls hp hP hD hS (lv_sub hl [0, 1] rfl)
  · have hp := hp.2 hc
    refine lv_iload_n hx hb eX7_reckon_0.2.2.2.2.2.2.2.2.1 rfl (lv_at hl 2 rfl) ?_
    refine lv_aload_n hx hb eX7_reckon_0.2.2.2.2.2.2.2.2.2.1 rfl (lv_at hl 0 rfl) ?_
    refine va_get (D := (dC, dI)) (ci := 7) (v := .ref a_ru_program) (C := RX7) (T := TX7) (N := 11) hx hb hts i_X7 hown hK hP 0 rfl rfl 3 (Nat.le_of_ble_eq_true rfl) (hts _ q_137) (fun _ h9 => h9) rfl eX7_reckon_0.2.2.2.2.2.2.2.2.2.2.1 ?_
    refine va_alen (v := 40) hx hb hK hP 3 0 rfl rfl rfl eX7_reckon_0.2.2.2.2.2.2.2.2.2.2.2.1 ?_
    refine lv_icmp_ge (tgt := 136) hx hb eX7_reckon_0.2.2.2.2.2.2.2.2.2.2.2.2.1 (by decide) (fun hc => ?_) (fun hc => ?_)
    · have hp := hp.1 hc
      exact ks_X7_reckon_136 C0 x1 ru_stack H locs ls hp hP hD hS (lv_sub hl [0, 1] rfl)
    · have hp := hp.2 hc
      refine lv_aload_n hx hb eX7_reckon_0.2.2.2.2.2.2.2.2.2.2.2.2.2.1 rfl (lv_at hl 0 rfl) ?_
      refine va_get (D := (dC, dI)) (ci := 7) (v := .ref a_ru_program) (C := RX7) (T := TX7) (N := 11) hx hb hts i_X7 hown hK hP 0 rfl rfl 3 (Nat.le_of_ble_eq_true rfl) (hts _ q_137) (fun _ h9 => h9) rfl eX7_reckon_0.2.2.2.2.2.2.2.2.2.2.2.2.2.2.1 ?_
      refine lv_iload_n hx hb eX7_reckon_0.2.2.2.2.2.2.2.2.2.2.2.2.2.2.2 rfl (lv_at hl 2 rfl) ?_
      have hin := hp.1
      have hp := hp.2
      refine va_iald hx hb hK hP 3 0 rfl rfl hin eX7_reckon_26.1 ?_
      refine lv_topi (fun v_3 ev_3 => ?_)
      have hp := hp v_3 ev_3
      refine lv_istore_n (lv' := [(3, .int v_3), (0, .ref a_ru), (1, .int x1), (2, .int x2)]) hx hb eX7_reckon_26.2.1 rfl hl (by decide) rfl (fun ls hl => ?_)
      refine lv_iload_n hx hb eX7_reckon_26.2.2.1 rfl (lv_at hl 0 rfl) ?_
      refine lv_sipush (v := 2000) hx hb eX7_reckon_26.2.2.2.1 (by decide) ?_
      refine lv_icmp_ge (tgt := 61) hx hb eX7_reckon_26.2.2.2.2.1 (by decide) (fun hc => ?_) (fun hc => ?_)
      · have hp := hp.1 hc
        refine lv_iload_n hx hb eX7_reckon_54.2.2.2.1 rfl (lv_at hl 0 rfl) ?_
        refine lv_sipush (v := 2256) hx hb eX7_reckon_54.2.2.2.2.1 (by decide) ?_
        refine lv_icmp_ne (tgt := 92) hx hb eX7_reckon_54.2.2.2.2.2.1 (by decide) (fun hc => ?_) (fun hc => ?_)
        · have hp := hp.1 hc
          refine lv_iload_n hx hb eX7_reckon_73.2.2.2.2.2.2.2.2.2.2.2.2.2.1 rfl (lv_at hl 2 rfl) ?_
          refine lv_iconst (v := 1) hx hb eX7_reckon_73.2.2.2.2.2.2.2.2.2.2.2.2.2.2.1 (by decide) ?_
          refine lv_icmp_le (tgt := 130) hx hb eX7_reckon_73.2.2.2.2.2.2.2.2.2.2.2.2.2.2.2 (by decide) (fun hc => ?_) (fun hc => ?_)
          · have hp := hp.1 hc
            exact ks_X7_reckon_130 C0 hKn x1 x2 ru_stack H locs ls hp hP hD hS (lv_sub hl [1, 2, 3] rfl)
          · have hp := hp.2 hc
            obtain ⟨v_5, ev_5⟩ : ∃ y : Int32, y = x1 + (-1) := ⟨_, rfl⟩
            refine lv_iinc (v := v_5) (lv' := [(1, .int v_5), (3, .int v_3), (0, .ref a_ru), (2, .int x2)]) hx hb eX7_reckon_97.1 hl (k := 2) rfl (by rw [ev_5]; rfl) (by decide) rfl (fun ls hl => ?_)
            have hp := hp v_5 ev_5
            refine lv_aload_n hx hb eX7_reckon_97.2.1 rfl (lv_at hl 2 rfl) ?_
            refine va_get (D := (dC, dI)) (ci := 7) (v := .ref a_ru_stack) (C := RX7) (T := TX7) (N := 11) hx hb hts i_X7 hown hK hP 0 rfl rfl 2 (Nat.le_of_ble_eq_true rfl) (hts _ q_284) (fun _ h9 => h9) rfl eX7_reckon_97.2.2.1 ?_
            refine lv_iload_n hx hb eX7_reckon_97.2.2.2.1 rfl (lv_at hl 0 rfl) ?_
            refine lv_iconst (v := 1) hx hb eX7_reckon_97.2.2.2.2.1 (by decide) ?_
            refine lv_isub hx hb eX7_reckon_97.2.2.2.2.2.1 ?_
            refine lv_topi (fun v_6 ev_6 => ?_)
            have hp := hp v_6 ev_6
            refine lv_iload_n hx hb eX7_reckon_97.2.2.2.2.2.2.1 rfl (lv_at hl 1 rfl) ?_
            refine lv_sipush (v := 2000) hx hb eX7_reckon_97.2.2.2.2.2.2.2.1 (by decide) ?_
            refine lv_isub hx hb eX7_reckon_97.2.2.2.2.2.2.2.2.1 ?_
            refine lv_topi (fun v_7 ev_7 => ?_)
            have hp := hp v_7 ev_7
            refine lv_aload_n hx hb eX7_reckon_97.2.2.2.2.2.2.2.2.2.1 rfl (lv_at hl 2 rfl) ?_
            refine va_get (D := (dC, dI)) (ci := 7) (v := .ref a_ru_stack) (C := RX7) (T := TX7) (N := 11) hx hb hts i_X7 hown hK hP 0 rfl rfl 2 (Nat.le_of_ble_eq_true rfl) (hts _ q_284) (fun _ h9 => h9) rfl eX7_reckon_97.2.2.2.2.2.2.2.2.2.2.1 ?_
            refine lv_iload_n hx hb eX7_reckon_97.2.2.2.2.2.2.2.2.2.2.2.1 rfl (lv_at hl 0 rfl) ?_
            refine lv_iconst (v := 1) hx hb eX7_reckon_97.2.2.2.2.2.2.2.2.2.2.2.2.1 (by decide) ?_
            refine lv_isub hx hb eX7_reckon_97.2.2.2.2.2.2.2.2.2.2.2.2.2.1 ?_
            refine lv_topi (fun v_8 ev_8 => ?_)
            have hp := hp v_8 ev_8
            have hin := hp.1
            have hp := hp.2
            refine va_iald hx hb hK hP 2 0 rfl rfl hin eX7_reckon_97.2.2.2.2.2.2.2.2.2.2.2.2.2.2.1 ?_
            refine lv_topi (fun v_9 ev_9 => ?_)
            have hp := hp v_9 ev_9
            refine lv_aload_n hx hb eX7_reckon_97.2.2.2.2.2.2.2.2.2.2.2.2.2.2.2 rfl (lv_at hl 2 rfl) ?_
            refine va_get (D := (dC, dI)) (ci := 7) (v := .ref a_ru_stack) (C := RX7) (T := TX7) (N := 11) hx hb hts i_X7 hown hK hP 0 rfl rfl 2 (Nat.le_of_ble_eq_true rfl) (hts _ q_284) (fun _ h9 => h9) rfl eX7_reckon_121.1 ?_
            refine lv_iload_n hx hb eX7_reckon_121.2.1 rfl (lv_at hl 0 rfl) ?_
            have hin := hp.1
            have hp := hp.2
            refine va_iald hx hb hK hP 2 0 rfl rfl hin eX7_reckon_121.2.2.1 ?_
            refine lv_topi (fun v_10 ev_10 => ?_)
            have hp := hp v_10 ev_10
            refine g_calli (wc := (wd_X7_join cI cC cZ cB cJ)) hP hD hS hA [] [0, 1, 2, 3] rfl rfl rfl rfl (g_runS (As := [.int v_7, .int v_9, .int v_10]) (rest := [.int v_6, .ref a_ru_stack]) C0 hP hD hS [] rfl rfl (c_X7_join l dC dI cI cC cZ cB cJ H.size v_7 v_9 v_10 _ hp) q_285 q_287 q_286 q_108 h_X7_join rfl rfl ⟨Nat.le_of_ble_eq_true rfl, Nat.le_of_ble_eq_true rfl⟩ rfl rfl hl.1 rfl (lv_room (Nat.le_of_ble_eq_true rfl)) eX7_reckon_121.2.2.2.1 ⟨Nat.zero_le _, Nat.zero_le _⟩) (fun r_11 u H locs hp hP hD hS => ?_)
            have hPD := PDs (ws' := (wd_X7_reckon cI cC cZ cB cJ a_ru a_ru_given a_ru_waiting a_ru_stack a_ru_program a_ru_draft ru_length ru_drafted ru_waits ru_open ru_compared ru_wantsThing ru_given ru_stack ru_program)) hP hD [0, 1, 2, 3] (by decide) rfl
            have hP := hPD.1
            have hD := hPD.2
            have hin := hp.1
            have hp := hp.2
            refine va_iast hx hb hK hP hD hS 2 0 rfl rfl hin eX7_reckon_121.2.2.2.2.1 (fun H locs hP hD hS => ?_)
            have hP : va_P (dC, dI) classes (wd_X7_reckon cI cC cZ cB cJ a_ru a_ru_given a_ru_waiting a_ru_stack a_ru_program a_ru_draft ru_length ru_drafted ru_waits ru_open ru_compared ru_wantsThing ru_given (upd ru_stack v_6.toNatClampNeg r_11) ru_program) H := hP
            have hD : va_D A (wd_X7_reckon cI cC cZ cB cJ a_ru a_ru_given a_ru_waiting a_ru_stack a_ru_program a_ru_draft ru_length ru_drafted ru_waits ru_open ru_compared ru_wantsThing ru_given (upd ru_stack v_6.toNatClampNeg r_11) ru_program) := hD
            exact ks_X7_reckon_130 C0 hKn v_5 x2 (upd ru_stack v_6.toNatClampNeg r_11) H locs ls hp hP hD hS (lv_sub hl [2, 0, 3] rfl)
        · have hp := hp.2 hc
          refine lv_iload_n hx hb eX7_reckon_54.2.2.2.2.2.2.1 rfl (lv_at hl 2 rfl) ?_
          refine lv_if_le (tgt := 130) hx hb eX7_reckon_54.2.2.2.2.2.2.2.1 (by decide) (fun hc => ?_) (fun hc => ?_)
          · have hp := hp.1 hc
            exact ks_X7_reckon_130 C0 hKn x1 x2 ru_stack H locs ls hp hP hD hS (lv_sub hl [1, 2, 3] rfl)
          · have hp := hp.2 hc
            refine lv_aload_n hx hb eX7_reckon_54.2.2.2.2.2.2.2.2 rfl (lv_at hl 1 rfl) ?_
            refine va_get (D := (dC, dI)) (ci := 7) (v := .ref a_ru_stack) (C := RX7) (T := TX7) (N := 11) hx hb hts i_X7 hown hK hP 0 rfl rfl 2 (Nat.le_of_ble_eq_true rfl) (hts _ q_284) (fun _ h9 => h9) rfl eX7_reckon_73.1 ?_
            refine lv_iload_n hx hb eX7_reckon_73.2.1 rfl (lv_at hl 2 rfl) ?_
            refine lv_iconst (v := 1) hx hb eX7_reckon_73.2.2.1 (by decide) ?_
            refine lv_isub hx hb eX7_reckon_73.2.2.2.1 ?_
            refine lv_topi (fun v_12 ev_12 => ?_)
            have hp := hp v_12 ev_12
            refine lv_aload_n hx hb eX7_reckon_73.2.2.2.2.1 rfl (lv_at hl 1 rfl) ?_
            refine va_get (D := (dC, dI)) (ci := 7) (v := .ref a_ru_stack) (C := RX7) (T := TX7) (N := 11) hx hb hts i_X7 hown hK hP 0 rfl rfl 2 (Nat.le_of_ble_eq_true rfl) (hts _ q_284) (fun _ h9 => h9) rfl eX7_reckon_73.2.2.2.2.2.1 ?_
            refine lv_iload_n hx hb eX7_reckon_73.2.2.2.2.2.2.1 rfl (lv_at hl 2 rfl) ?_
            refine lv_iconst (v := 1) hx hb eX7_reckon_73.2.2.2.2.2.2.2.1 (by decide) ?_
            refine lv_isub hx hb eX7_reckon_73.2.2.2.2.2.2.2.2.1 ?_
            refine lv_topi (fun v_13 ev_13 => ?_)
            have hp := hp v_13 ev_13
            have hin := hp.1
            have hp := hp.2
            refine va_iald hx hb hK hP 2 0 rfl rfl hin eX7_reckon_73.2.2.2.2.2.2.2.2.2.1 ?_
            refine lv_ineg hx hb eX7_reckon_73.2.2.2.2.2.2.2.2.2.2.1 ?_
            refine lv_topi (fun v_14 ev_14 => ?_)
            have hp := hp v_14 ev_14
            have hin := hp.1
            have hp := hp.2
            refine va_iast hx hb hK hP hD hS 2 0 rfl rfl hin eX7_reckon_73.2.2.2.2.2.2.2.2.2.2.2.1 (fun H locs hP hD hS => ?_)
            have hP : va_P (dC, dI) classes (wd_X7_reckon cI cC cZ cB cJ a_ru a_ru_given a_ru_waiting a_ru_stack a_ru_program a_ru_draft ru_length ru_drafted ru_waits ru_open ru_compared ru_wantsThing ru_given (upd ru_stack v_12.toNatClampNeg v_14) ru_program) H := hP
            have hD : va_D A (wd_X7_reckon cI cC cZ cB cJ a_ru a_ru_given a_ru_waiting a_ru_stack a_ru_program a_ru_draft ru_length ru_drafted ru_waits ru_open ru_compared ru_wantsThing ru_given (upd ru_stack v_12.toNatClampNeg v_14) ru_program) := hD
            refine lv_goto (tgt := 130) hx hb eX7_reckon_73.2.2.2.2.2.2.2.2.2.2.2.2.1 (by decide) ?_
            exact ks_X7_reckon_130 C0 hKn x1 x2 (upd ru_stack v_12.toNatClampNeg v_14) H locs ls hp hP hD hS (lv_sub hl [1, 2, 3] rfl)
      · have hp := hp.2 hc
        refine lv_iload_n hx hb eX7_reckon_26.2.2.2.2.2.1 rfl (lv_at hl 2 rfl) ?_
        refine lv_aload_n hx hb eX7_reckon_26.2.2.2.2.2.2.1 rfl (lv_at hl 1 rfl) ?_
        refine va_get (D := (dC, dI)) (ci := 7) (v := .ref a_ru_stack) (C := RX7) (T := TX7) (N := 11) hx hb hts i_X7 hown hK hP 0 rfl rfl 2 (Nat.le_of_ble_eq_true rfl) (hts _ q_284) (fun _ h9 => h9) rfl eX7_reckon_26.2.2.2.2.2.2.2.1 ?_
        refine va_alen (v := 40) hx hb hK hP 2 0 rfl rfl rfl eX7_reckon_26.2.2.2.2.2.2.2.2.1 ?_
        refine lv_icmp_ge (tgt := 130) hx hb eX7_reckon_26.2.2.2.2.2.2.2.2.2.1 (by decide) (fun hc => ?_) (fun hc => ?_)
        · have hp := hp.1 hc
          exact ks_X7_reckon_130 C0 hKn x1 x2 ru_stack H locs ls hp hP hD hS (lv_sub hl [1, 2, 3] rfl)
        · have hp := hp.2 hc
          refine lv_aload_n hx hb eX7_reckon_26.2.2.2.2.2.2.2.2.2.2.1 rfl (lv_at hl 1 rfl) ?_
          refine va_get (D := (dC, dI)) (ci := 7) (v := .ref a_ru_stack) (C := RX7) (T := TX7) (N := 11) hx hb hts i_X7 hown hK hP 0 rfl rfl 2 (Nat.le_of_ble_eq_true rfl) (hts _ q_284) (fun _ h9 => h9) rfl eX7_reckon_26.2.2.2.2.2.2.2.2.2.2.2.1 ?_
          refine lv_iload_n hx hb eX7_reckon_26.2.2.2.2.2.2.2.2.2.2.2.2.1 rfl (lv_at hl 2 rfl) ?_
          refine lv_aload_n hx hb eX7_reckon_26.2.2.2.2.2.2.2.2.2.2.2.2.2.1 rfl (lv_at hl 1 rfl) ?_
          refine lv_iload_n hx hb eX7_reckon_26.2.2.2.2.2.2.2.2.2.2.2.2.2.2.1 rfl (lv_at hl 0 rfl) ?_
          refine g_calli (wc := (wd_X7_meant cI cC cZ cB cJ a_ru a_ru_given a_ru_waiting a_ru_stack a_ru_program a_ru_draft ru_length ru_drafted ru_waits ru_open ru_compared ru_wantsThing ru_given)) hP hD hS hA [0, 1] [2, 3] rfl rfl rfl rfl (g_runV (As := [.int v_3]) (rest := [.int x1, .ref a_ru_stack]) C0 hP hD hS [0, 1] rfl rfl 0 7 rfl rfl (c_X7_meant l dC dI cI cC cZ cB cJ a_ru a_ru_given a_ru_waiting a_ru_stack a_ru_program a_ru_draft H.size v_3 ru_length ru_drafted ru_waits ru_open ru_compared ru_wantsThing ru_given _ hp) q_288 q_291 q_289 q_290 q_108 h_X7_meant rfl rfl ⟨Nat.le_of_ble_eq_true rfl, Nat.le_of_ble_eq_true rfl⟩ rfl rfl hl.1 rfl (lv_room (Nat.le_of_ble_eq_true rfl)) eX7_reckon_26.2.2.2.2.2.2.2.2.2.2.2.2.2.2.2 ⟨Nat.zero_le _, Nat.zero_le _⟩) (fun r_15 u H locs hp hP hD hS => ?_)
          have hPD := PDs (ws' := (wd_X7_reckon cI cC cZ cB cJ a_ru a_ru_given a_ru_waiting a_ru_stack a_ru_program a_ru_draft ru_length ru_drafted ru_waits ru_open ru_compared ru_wantsThing ru_given ru_stack ru_program)) hP hD [2, 3, 0, 1] (by decide) rfl
          have hP := hPD.1
          have hD := hPD.2
          have hin := hp.1
          have hp := hp.2
          refine va_iast hx hb hK hP hD hS 2 0 rfl rfl hin eX7_reckon_54.1 (fun H locs hP hD hS => ?_)
          have hP : va_P (dC, dI) classes (wd_X7_reckon cI cC cZ cB cJ a_ru a_ru_given a_ru_waiting a_ru_stack a_ru_program a_ru_draft ru_length ru_drafted ru_waits ru_open ru_compared ru_wantsThing ru_given (upd ru_stack x1.toNatClampNeg r_15) ru_program) H := hP
          have hD : va_D A (wd_X7_reckon cI cC cZ cB cJ a_ru a_ru_given a_ru_waiting a_ru_stack a_ru_program a_ru_draft ru_length ru_drafted ru_waits ru_open ru_compared ru_wantsThing ru_given (upd ru_stack x1.toNatClampNeg r_15) ru_program) := hD
          obtain ⟨v_16, ev_16⟩ : ∃ y : Int32, y = x1 + 1 := ⟨_, rfl⟩
          refine lv_iinc (v := v_16) (lv' := [(1, .int v_16), (3, .int v_3), (0, .ref a_ru), (2, .int x2)]) hx hb eX7_reckon_54.2.1 hl (k := 2) rfl (by rw [ev_16]; rfl) (by decide) rfl (fun ls hl => ?_)
          have hp := hp v_16 ev_16
          refine lv_goto (tgt := 130) hx hb eX7_reckon_54.2.2.1 (by decide) ?_
          exact ks_X7_reckon_130 C0 hKn v_16 x2 (upd ru_stack x1.toNatClampNeg r_15) H locs ls hp hP hD hS (lv_sub hl [2, 0, 3] rfl)
set_option maxHeartbeats 4000000 in
set_option maxRecDepth 100000 in
theorem kb_X7_reckon_4 (C0 : gc cX7_reckon (some .int) 4 RX7 (dC, dI) (tyl cI cC cZ cB cJ) A p s m args meth c) : ∀ (n : Nat), ∀ (x1 : Int32) (x2 : Int32) (ru_stack : Nat → Int32) (H : Heap) (locs : List Loc) (ls : Array Slot), (wb_X7_reckon_4 post ru_length ru_given ru_program n) x1 x2 ru_stack → va_P (dC, dI) classes (wd_X7_reckon cI cC cZ cB cJ a_ru a_ru_given a_ru_waiting a_ru_stack a_ru_program a_ru_draft ru_length ru_drafted ru_waits ru_open ru_compared ru_wantsThing ru_given ru_stack ru_program) H → va_D A (wd_X7_reckon cI cC cZ cB cJ a_ru a_ru_given a_ru_waiting a_ru_stack a_ru_program a_ru_draft ru_length ru_drafted ru_waits ru_open ru_compared ru_wantsThing ru_given ru_stack ru_program) → va_S A s.heap H locs → lv_has ls 4 [(0, .ref a_ru), (1, .int x1), (2, .int x2)] → W p l e rm_X7_reckon s m args below meth c H locs 0 0 (MQ below (q_X7_reckon dC dI cI cC cZ cB cJ A a_ru a_ru_given a_ru_waiting a_ru_stack a_ru_program a_ru_draft ru_length ru_drafted ru_waits ru_open ru_compared ru_wantsThing ru_given ru_program post) args s 0 0 A) (F0 m 4 ls []) := by
  intro n
  induction n with
  | zero =>
    intro x1 x2 ru_stack H locs ls hp
    exact False.elim hp
  | succ n ih =>
    intro x1 x2 ru_stack H locs ls hp
    exact ks_X7_reckon_4 C0 ih x1 x2 ru_stack H locs ls hp
end S_X7_reckon
def wp_X7_reckon (post : Int32 → (Nat → Int32) → Prop) (ru_length : Int32) (ru_given : Nat → Int32) (ru_stack : Nat → Int32) (ru_program : Nat → Int32) : Prop := ∃ n : Nat, wb_X7_reckon_4 post ru_length ru_given ru_program n 0 0 ru_stack
set_option maxHeartbeats 4000000 in
set_option maxRecDepth 100000 in
theorem c_X7_reckon (l : Launch) (dC : Nat → ClassId) (dI : Nat → Nat → Nat) (cI cC cZ cB cJ : ClassId) (a_ru : Nat) (a_ru_given : Nat) (a_ru_waiting : Nat) (a_ru_stack : Nat) (a_ru_program : Nat) (a_ru_draft : Nat) (sz : Nat) (ru_length : Int32) (ru_drafted : Int32) (ru_waits : Int32) (ru_open : Int32) (ru_compared : Int32) (ru_wantsThing : Int32) (ru_given : Nat → Int32) (ru_stack : Nat → Int32) (ru_program : Nat → Int32) (post : Int32 → (Nat → Int32) → Prop) (hw : wp_X7_reckon post ru_length ru_given ru_stack ru_program) : Met l yX7_reckon (gw yX7_reckon cX7_reckon 4 (some .int)) rm_X7_reckon (va_Pc [.ref a_ru] (gPre (dC, dI) (tyl cI cC cZ cB cJ) (wd_X7_reckon cI cC cZ cB cJ a_ru a_ru_given a_ru_waiting a_ru_stack a_ru_program a_ru_draft ru_length ru_drafted ru_waits ru_open ru_compared ru_wantsThing ru_given ru_stack ru_program) sz)) (q_X7_reckon dC dI cI cC cZ cB cJ (va_A (wd_X7_reckon cI cC cZ cB cJ a_ru a_ru_given a_ru_waiting a_ru_stack a_ru_program a_ru_draft ru_length ru_drafted ru_waits ru_open ru_compared ru_wantsThing ru_given ru_stack ru_program) sz) a_ru a_ru_given a_ru_waiting a_ru_stack a_ru_program a_ru_draft ru_length ru_drafted ru_waits ru_open ru_compared ru_wantsThing ru_given ru_program post) 0 0 (va_A (wd_X7_reckon cI cC cZ cB cJ a_ru a_ru_given a_ru_waiting a_ru_stack a_ru_program a_ru_draft ru_length ru_drafted ru_waits ru_open ru_compared ru_wantsThing ru_given ru_stack ru_program) sz) := by
  refine g_enter (own := RX7) (dC, dI) (tyl cI cC cZ cB cJ) (wd_X7_reckon cI cC cZ cB cJ a_ru a_ru_given a_ru_waiting a_ru_stack a_ru_program a_ru_draft ru_length ru_drafted ru_waits ru_open ru_compared ru_wantsThing ru_given ru_stack ru_program) sz [.ref a_ru] (fun A => q_X7_reckon dC dI cI cC cZ cB cJ A a_ru a_ru_given a_ru_waiting a_ru_stack a_ru_program a_ru_draft ru_length ru_drafted ru_waits ru_open ru_compared ru_wantsThing ru_given ru_program post) (by decide) rfl (Nat.le_of_ble_eq_true rfl) ?_
  intro p e s m args below meth c A H locs ls C0 hP hD hS hl
  have hl : lv_has ls 4 [(0, .ref a_ru)] := hl
  obtain ⟨hx, hb, hr, hml, hown, hts, hlocks, hA, hK, hN, tL, tM, hZL, hTL, hZM, hTM, hZX⟩ := id C0
  have hp := hw
  unfold wp_X7_reckon at hp
  refine lv_iconst (v := 0) hx hb eX7_reckon_0.1 (by decide) ?_
  refine lv_istore_n (lv' := [(1, .int 0), (0, .ref a_ru)]) hx hb eX7_reckon_0.2.1 rfl hl (by decide) rfl (fun ls hl => ?_)
  refine lv_iconst (v := 0) hx hb eX7_reckon_0.2.2.1 (by decide) ?_
  refine lv_istore_n (lv' := [(2, .int 0), (1, .int 0), (0, .ref a_ru)]) hx hb eX7_reckon_0.2.2.2.1 rfl hl (by decide) rfl (fun ls hl => ?_)
  obtain ⟨n9, hp⟩ := hp
  exact kb_X7_reckon_4 C0 n9 0 0 ru_stack H locs ls hp hP hD hS (lv_sub hl [2, 1, 0] rfl)
