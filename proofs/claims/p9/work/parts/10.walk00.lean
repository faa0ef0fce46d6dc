abbrev wd_X8_add (cI cC cZ cB cJ : ClassId) (a_tx : Nat) (a_tx_signs : Nat) (tx_length : Int32) (tx_place : Int32) (tx_stop : Int32) (tx_signs : Nat → Int32) : va_W := [(a_tx, .inr (8, [.ref a_tx_signs, .int tx_length, .int tx_place, .int tx_stop])), (a_tx_signs, .inl (cC, 80, .inl tx_signs))]
abbrev q_X8_add (dC : Nat → ClassId) (dI : Nat → Nat → Nat) (cI cC cZ cB cJ : ClassId) (A : Nat → Prop) (a_tx : Nat) (a_tx_signs : Nat) (tx_place : Int32) (tx_stop : Int32) (post : Int32 → Int32 → (Nat → Int32) → Prop) : Array Value → State → Outcome → State → Prop := va_Qi (fun (r : Int32) (u : Int32 × (Nat → Int32)) => post r u.1 u.2) (fun u t => gB (dC, dI) (tyl cI cC cZ cB cJ) A (wd_X8_add cI cC cZ cB cJ a_tx a_tx_signs u.1 tx_place tx_stop u.2) t) A
abbrev rm_X8_add : Room := { frames := 0, cells := 0, slots := 0, locals := 0 }
section S_X8_add
variable {p : Program} {l : Launch} {e : Env} {s : State} {m : MethodId} {args : Array Value} {below : List Frame} {meth : Method} {c : Code} {dC : Nat → ClassId} {dI : Nat → Nat → Nat} {cI cC cZ cB cJ : ClassId} {A : Nat → Prop} {a_tx : Nat} {a_tx_signs : Nat} {tx_place : Int32} {tx_stop : Int32} {post : Int32 → Int32 → (Nat → Int32) → Prop}
def ws_X8_add_14 (post : Int32 → Int32 → (Nat → Int32) → Prop) (next : Int32 → Int32 → Int32 → (Nat → Int32) → Prop) (x1 : Int32) (x2 : Int32) (tx_length : Int32) (tx_signs : Nat → Int32) : Prop := (x2 < 0 → post tx_length tx_length tx_signs) ∧ (¬ x2 < 0 → ∀ v_1 : Int32, v_1 = (x1.toUInt32 >>> (x2.toUInt32 &&& Int32.toUInt32 31)).toInt32 → ∀ v_2 : Int32, v_2 = ((v_1 &&& 255).toUInt32 % 65536).toInt32 → vp_in tx_length 80 ∧ (∀ v_3 : Int32, v_3 = tx_length + 1 → ∀ v_4 : Int32, v_4 = x2 + (-8) → next x1 v_4 v_3 (upd tx_signs tx_length.toNatClampNeg (vp_nar .char v_2))))
noncomputable def wb_X8_add_14 (post : Int32 → Int32 → (Nat → Int32) → Prop) : Nat → Int32 → Int32 → Int32 → (Nat → Int32) → Prop := fun n => Nat.rec (motive := fun _ => Int32 → Int32 → Int32 → (Nat → Int32) → Prop) (fun _ _ _ _ => False) (fun _ ih => ws_X8_add_14 post ih) n
set_option maxHeartbeats 4000000 in
set_option maxRecDepth 100000 in
theorem ks_X8_add_14 (C0 : gc cX8_add (some .int) 3 RX8 (dC, dI) (tyl cI cC cZ cB cJ) A p s m args meth c) {next : Int32 → Int32 → Int32 → (Nat → Int32) → Prop} (hKn : ∀ (x1 : Int32) (x2 : Int32) (tx_length : Int32) (tx_signs : Nat → Int32) (H : Heap) (locs : List Loc) (ls : Array Slot), next x1 x2 tx_length tx_signs → va_P (dC, dI) classes (wd_X8_add cI cC cZ cB cJ a_tx a_tx_signs tx_length tx_place tx_stop tx_signs) H → va_D A (wd_X8_add cI cC cZ cB cJ a_tx a_tx_signs tx_length tx_place tx_stop tx_signs) → va_S A s.heap H locs → lv_has ls 3 [(0, .ref a_tx), (1, .int x1), (2, .int x2)] → W p l e rm_X8_add s m args below meth c H locs 0 0 (MQ below (q_X8_add dC dI cI cC cZ cB cJ A a_tx a_tx_signs tx_place tx_stop post) args s 0 0 A) (F0 m 14 ls [])) : ∀ (x1 : Int32) (x2 : Int32) (tx_length : Int32) (tx_signs : Nat → Int32) (H : Heap) (locs : List Loc) (ls : Array Slot), (ws_X8_add_14 post next) x1 x2 tx_length tx_signs → va_P (dC, dI) classes (wd_X8_add cI cC cZ cB cJ a_tx a_tx_signs tx_length tx_place tx_stop tx_signs) H → va_D A (wd_X8_add cI cC cZ cB cJ a_tx a_tx_signs tx_length tx_place tx_stop tx_signs) → va_S A s.heap H locs → lv_has ls 3 [(0, .ref a_tx), (1, .int x1), (2, .int x2)] → W p l e rm_X8_add s m args below meth c H locs 0 0 (MQ below (q_X8_add dC dI cI cC cZ cB cJ A a_tx a_tx_signs tx_place tx_stop post) args s 0 0 A) (F0 m 14 ls []) := by
  obtain ⟨hx, hb, hr, hml, hown, hts, hlocks, hA, hK, hN, tL, tM, hZL, hTL, hZM, hTM, hZX⟩ := id C0
  intro x1 x2 tx_length tx_signs H locs ls hp hP hD hS hl
  unfold ws_X8_add_14 at hp
  refine lv_iload_n hx hb eX8_add_0.2.2.2.2.2.2.2.2.1 rfl (lv_at hl 2 rfl) ?_
  refine lv_if_lt (tgt := 51) hx hb eX8_add_0.2.2.2.2.2.2.2.2.2.1 (by decide) (fun hc => ?_) (fun hc => ?_)
  · have hp := hp.1 hc
    refine lv_aload_n hx hb eX8_add_28.2.2.2.2.2.2.2.2.2.2.2.2.2.1 rfl (lv_at hl 0 rfl) ?_
    refine va_get (D := (dC, dI)) (ci := 8) (v := .int tx_length) (C := RX8) (T := TX8) (N := 4) hx hb hts i_X8 hown hK hP 0 rfl rfl 1 (Nat.le_of_ble_eq_true rfl) (hts _ q_1) (fun _ h9 => h9) rfl eX8_add_28.2.2.2.2.2.2.2.2.2.2.2.2.2.2.1 ?_
    exact W.iret (v := tx_length) hx hb hr (fun t ht hW => ⟨⟨tx_length, (tx_length, tx_signs), rfl, hp, by rw [ht]; exact hP, va_K.moved hW.alike hK, hD⟩, hS.F ht⟩) hS.2.2 eX8_add_28.2.2.2.2.2.2.2.2.2.2.2.2.2.2.2
  · have hp := hp.2 hc
    refine lv_aload_n hx hb eX8_add_0.2.2.2.2.2.2.2.2.2.2.1 rfl (lv_at hl 0 rfl) ?_
    refine va_get (D := (dC, dI)) (ci := 8) (v := .ref a_tx_signs) (C := RX8) (T := TX8) (N := 4) hx hb hts i_X8 hown hK hP 0 rfl rfl 0 (Nat.le_of_ble_eq_true rfl) (hts _ q_2) (fun _ h9 => h9) rfl eX8_add_0.2.2.2.2.2.2.2.2.2.2.2.1 ?_
    refine lv_aload_n hx hb eX8_add_0.2.2.2.2.2.2.2.2.2.2.2.2.1 rfl (lv_at hl 0 rfl) ?_
    refine va_get (D := (dC, dI)) (ci := 8) (v := .int tx_length) (C := RX8) (T := TX8) (N := 4) hx hb hts i_X8 hown hK hP 0 rfl rfl 1 (Nat.le_of_ble_eq_true rfl) (hts _ q_1) (fun _ h9 => h9) rfl eX8_add_0.2.2.2.2.2.2.2.2.2.2.2.2.2.1 ?_
    refine lv_iload_n hx hb eX8_add_0.2.2.2.2.2.2.2.2.2.2.2.2.2.2.1 rfl (lv_at hl 1 rfl) ?_
    refine lv_iload_n hx hb eX8_add_0.2.2.2.2.2.2.2.2.2.2.2.2.2.2.2 rfl (lv_at hl 2 rfl) ?_
    refine lv_iushr hx hb eX8_add_28.1 rfl ?_
    refine lv_topi (fun v_1 ev_1 => ?_)
    have hp := hp v_1 ev_1
    refine lv_sipush (v := 255) hx hb eX8_add_28.2.1 (by decide) ?_
    refine lv_iand hx hb eX8_add_28.2.2.1 ?_
    refine lv_i2c hx hb eX8_add_28.2.2.2.1 rfl ?_
    refine lv_topi (fun v_2 ev_2 => ?_)
    have hp := hp v_2 ev_2
    have hin := hp.1
    have hp := hp.2
    refine va_cast hx hb hK hP hD hS 1 1 rfl rfl hin eX8_add_28.2.2.2.2.1 (fun H locs hP hD hS => ?_)
    have hP : va_P (dC, dI) classes (wd_X8_add cI cC cZ cB cJ a_tx a_tx_signs tx_length tx_place tx_stop (upd tx_signs tx_length.toNatClampNeg (vp_nar .char v_2))) H := hP
    have hD : va_D A (wd_X8_add cI cC cZ cB cJ a_tx a_tx_signs tx_length tx_place tx_stop (upd tx_signs tx_length.toNatClampNeg (vp_nar .char v_2))) := hD
    refine lv_aload_n hx hb eX8_add_28.2.2.2.2.2.1 rfl (lv_at hl 0 rfl) ?_
    refine lv_dup hx hb eX8_add_28.2.2.2.2.2.2.1 rfl ?_
    refine va_get (D := (dC, dI)) (ci := 8) (v := .int tx_length) (C := RX8) (T := TX8) (N := 4) hx hb hts i_X8 hown hK hP 0 rfl rfl 1 (Nat.le_of_ble_eq_true rfl) (hts _ q_1) (fun _ h9 => h9) rfl eX8_add_28.2.2.2.2.2.2.2.1 ?_
    refine lv_iconst (v := 1) hx hb eX8_add_28.2.2.2.2.2.2.2.2.1 (by decide) ?_
    refine lv_iadd hx hb eX8_add_28.2.2.2.2.2.2.2.2.2.1 ?_
    refine lv_topi (fun v_3 ev_3 => ?_)
    have hp := hp v_3 ev_3
    refine va_put (D := (dC, dI)) (ci := 8) (v := .int v_3) (ty := .int) (C := RX8) (T := TX8) (N := 4) hx hb hts i_X8 tyX8 tyX8_ok nmX8 hown hK hP hD hS 0 rfl rfl 1 (Nat.le_of_ble_eq_true rfl) (hts _ q_1) (fun _ h9 => h9) rfl (tyX8_ok 1 (Nat.le_of_ble_eq_true rfl)) rfl rfl (Nat.le_of_ble_eq_true rfl) eX8_add_28.2.2.2.2.2.2.2.2.2.2.1 (fun H locs hP hD hS => ?_)
    have hP : va_P (dC, dI) classes (wd_X8_add cI cC cZ cB cJ a_tx a_tx_signs v_3 tx_place tx_stop (upd tx_signs tx_length.toNatClampNeg (vp_nar .char v_2))) H := hP
    have hD : va_D A (wd_X8_add cI cC cZ cB cJ a_tx a_tx_signs v_3 tx_place tx_stop (upd tx_signs tx_length.toNatClampNeg (vp_nar .char v_2))) := hD
    obtain ⟨v_4, ev_4⟩ : ∃ y : Int32, y = x2 + (-8) := ⟨_, rfl⟩
    refine lv_iinc (v := v_4) (lv' := [(2, .int v_4), (0, .ref a_tx), (1, .int x1)]) hx hb eX8_add_28.2.2.2.2.2.2.2.2.2.2.2.1 hl (k := 2) rfl (by rw [ev_4]; rfl) (by decide) rfl (fun ls hl => ?_)
    have hp := hp v_4 ev_4
    refine lv_goto (tgt := 14) hx hb eX8_add_28.2.2.2.2.2.2.2.2.2.2.2.2.1 (by decide) ?_
    exact hKn x1 v_4 v_3 (upd tx_signs tx_length.toNatClampNeg (vp_nar .char v_2)) H locs ls hp hP hD hS (lv_sub hl [1, 2, 0] rfl)
set_option maxHeartbeats 4000000 in
set_option maxRecDepth 100000 in
theorem kb_X8_add_14 (C0 : gc cX8_add (some .int) 3 RX8 (dC, dI) (tyl cI cC cZ cB cJ) A p s m args meth c) : ∀ (n : Nat), ∀ (x1 : Int32) (x2 : Int32) (tx_length : Int32) (tx_signs : Nat → Int32) (H : Heap) (locs : List Loc) (ls : Array Slot), (wb_X8_add_14 post n) x1 x2 tx_length tx_signs → va_P (dC, dI) classes (wd_X8_add cI cC cZ cB cJ a_tx a_tx_signs tx_length tx_place tx_stop tx_signs) H → va_D A (wd_X8_add cI cC cZ cB cJ a_tx a_tx_signs tx_length tx_place tx_stop tx_signs) → va_S A s.heap H locs → lv_has ls 3 [(0, .ref a_tx), (1, .int x1), (2, .int x2)] → W p l e rm_X8_add s m args below meth c H locs 0 0 (MQ below (q_X8_add dC dI cI cC cZ cB cJ A a_tx a_tx_signs tx_place tx_stop post) args s 0 0 A) (F0 m 14 ls []) := by
  intro n
  induction n with
  | zero =>
    intro x1 x2 tx_length tx_signs H locs ls hp
    exact False.elim hp
  | succ n ih =>
    intro x1 x2 tx_length tx_signs H locs ls hp
    exact ks_X8_add_14 C0 ih x1 x2 tx_length tx_signs H locs ls hp
end S_X8_add
def wp_X8_add (post : Int32 → Int32 → (Nat → Int32) → Prop) (p0 : Int32) (tx_length : Int32) (tx_signs : Nat → Int32) : Prop := (tx_length ≤ 76 → ∃ n : Nat, wb_X8_add_14 post n p0 24 tx_length tx_signs) ∧ (¬ tx_length ≤ 76 → post (-1) tx_length tx_signs)
set_option maxHeartbeats 4000000 in
set_option maxRecDepth 100000 in
theorem c_X8_add (l : Launch) (dC : Nat → ClassId) (dI : Nat → Nat → Nat) (cI cC cZ cB cJ : ClassId) (a_tx : Nat) (a_tx_signs : Nat) (sz : Nat) (p0 : Int32) (tx_length : Int32) (tx_place : Int32) (tx_stop : Int32) (tx_signs : Nat → Int32) (post : Int32 → Int32 → (Nat → Int32) → Prop) (hw : wp_X8_add post p0 tx_length tx_signs) : Met l yX8_add (gw yX8_add cX8_add 3 (some .int)) rm_X8_add (va_Pc [.ref a_tx, .int p0] (gPre (dC, dI) (tyl cI cC cZ cB cJ) (wd_X8_add cI cC cZ cB cJ a_tx a_tx_signs tx_length tx_place tx_stop tx_signs) sz)) (q_X8_add dC dI cI cC cZ cB cJ (va_A (wd_X8_add cI cC cZ cB cJ a_tx a_tx_signs tx_length tx_place tx_stop tx_signs) sz) a_tx a_tx_signs tx_place tx_stop post) 0 0 (va_A (wd_X8_add cI cC cZ cB cJ a_tx a_tx_signs tx_length tx_place tx_stop tx_signs) sz) := by
  refine g_enter (own := RX8) (dC, dI) (tyl cI cC cZ cB cJ) (wd_X8_add cI cC cZ cB cJ a_tx a_tx_signs tx_length tx_place tx_stop tx_signs) sz [.ref a_tx, .int p0] (fun A => q_X8_add dC dI cI cC cZ cB cJ A a_tx a_tx_signs tx_place tx_stop post) (by decide) rfl (Nat.le_of_ble_eq_true rfl) ?_
  intro p e s m args below meth c A H locs ls C0 hP hD hS hl
  have hl : lv_has ls 3 [(0, .ref a_tx), (1, .int p0)] := hl
  obtain ⟨hx, hb, hr, hml, hown, hts, hlocks, hA, hK, hN, tL, tM, hZL, hTL, hZM, hTM, hZX⟩ := id C0
  have hp := hw
  unfold wp_X8_add at hp
  refine lv_aload_n hx hb eX8_add_0.1 rfl (lv_at hl 0 rfl) ?_
  refine va_get (D := (dC, dI)) (ci := 8) (v := .int tx_length) (C := RX8) (T := TX8) (N := 4) hx hb hts i_X8 hown hK hP 0 rfl rfl 1 (Nat.le_of_ble_eq_true rfl) (hts _ q_1) (fun _ h9 => h9) rfl eX8_add_0.2.1 ?_
  refine lv_bipush (v := 76) hx hb eX8_add_0.2.2.1 (by decide) ?_
  refine lv_icmp_le (tgt := 11) hx hb eX8_add_0.2.2.2.1 (by decide) (fun hc => ?_) (fun hc => ?_)
  · have hp := hp.1 hc
    refine lv_bipush (v := 24) hx hb eX8_add_0.2.2.2.2.2.2.1 (by decide) ?_
    refine lv_istore_n (lv' := [(2, .int 24), (0, .ref a_tx), (1, .int p0)]) hx hb eX8_add_0.2.2.2.2.2.2.2.1 rfl hl (by decide) rfl (fun ls hl => ?_)
    obtain ⟨n9, hp⟩ := hp
    exact kb_X8_add_14 C0 n9 p0 24 tx_length tx_signs H locs ls hp hP hD hS (lv_sub hl [1, 2, 0] rfl)
  · have hp := hp.2 hc
    refine lv_iconst (v := (-1)) hx hb eX8_add_0.2.2.2.2.1 (by decide) ?_
    exact W.iret (v := (-1)) hx hb hr (fun t ht hW => ⟨⟨(-1), (tx_length, tx_signs), rfl, hp, by rw [ht]; exact hP, va_K.moved hW.alike hK, hD⟩, hS.F ht⟩) hS.2.2 eX8_add_0.2.2.2.2.2.1
abbrev wd_X9_sign (cI cC cZ cB cJ : ClassId) (a_x : Nat) (a_tx : Nat) (a_pl : Nat) (a_ga : Nat) (a_tr : Nat) (a_no : Nat) (a_pa : Nat) (a_ro : Nat) (a_mk : Nat) (a_x_acts : Nat) (a_tx_signs : Nat) (tx_length : Int32) (tx_place : Int32) (tx_stop : Int32) (tx_signs : Nat → Int32) : va_W := [(a_x, .inr (9, [.ref a_tx, .ref a_pl, .ref a_ga, .ref a_tr, .ref a_no, .ref a_pa, .ref a_ro, .ref a_mk, .ref a_x_acts])), (a_tx, .inr (8, [.ref a_tx_signs, .int tx_length, .int tx_place, .int tx_stop])), (a_tx_signs, .inl (cC, 80, .inl tx_signs))]
abbrev q_X9_sign (dC : Nat → ClassId) (dI : Nat → Nat → Nat) (cI cC cZ cB cJ : ClassId) (A : Nat → Prop) (a_x : Nat) (a_tx : Nat) (a_pl : Nat) (a_ga : Nat) (a_tr : Nat) (a_no : Nat) (a_pa : Nat) (a_ro : Nat) (a_mk : Nat) (a_x_acts : Nat) (a_tx_signs : Nat) (tx_place : Int32) (tx_stop : Int32) (post : Int32 → Int32 → (Nat → Int32) → Prop) : Array Value → State → Outcome → State → Prop := va_Qi (fun (r : Int32) (u : Int32 × (Nat → Int32)) => post r u.1 u.2) (fun u t => gB (dC, dI) (tyl cI cC cZ cB cJ) A (wd_X9_sign cI cC cZ cB cJ a_x a_tx a_pl a_ga a_tr a_no a_pa a_ro a_mk a_x_acts a_tx_signs u.1 tx_place tx_stop u.2) t) A
abbrev rm_X9_sign : Room := { frames := 1, cells := 0, slots := 0, locals := 22 }
def wp_X9_sign (post : Int32 → Int32 → (Nat → Int32) → Prop) (p0 : Int32) (tx_length : Int32) (tx_signs : Nat → Int32) : Prop := wp_X8_add (fun r_1 tx_length_2 tx_signs_3 => post r_1 tx_length_2 tx_signs_3) p0 tx_length tx_signs
set_option maxHeartbeats 4000000 in
set_option maxRecDepth 100000 in
theorem c_X9_sign (l : Launch) (dC : Nat → ClassId) (dI : Nat → Nat → Nat) (cI cC cZ cB cJ : ClassId) (a_x : Nat) (a_tx : Nat) (a_pl : Nat) (a_ga : Nat) (a_tr : Nat) (a_no : Nat) (a_pa : Nat) (a_ro : Nat) (a_mk : Nat) (a_x_acts : Nat) (a_tx_signs : Nat) (sz : Nat) (p0 : Int32) (tx_length : Int32) (tx_place : Int32) (tx_stop : Int32) (tx_signs : Nat → Int32) (post : Int32 → Int32 → (Nat → Int32) → Prop) (hw : wp_X9_sign post p0 tx_length tx_signs) : Met l yX9_sign (gw yX9_sign cX9_sign 2 (some .int)) rm_X9_sign (va_Pc [.ref a_x, .int p0] (gPre (dC, dI) (tyl cI cC cZ cB cJ) (wd_X9_sign cI cC cZ cB cJ a_x a_tx a_pl a_ga a_tr a_no a_pa a_ro a_mk a_x_acts a_tx_signs tx_length tx_place tx_stop tx_signs) sz)) (q_X9_sign dC dI cI cC cZ cB cJ (va_A (wd_X9_sign cI cC cZ cB cJ a_x a_tx a_pl a_ga a_tr a_no a_pa a_ro a_mk a_x_acts a_tx_signs tx_length tx_place tx_stop tx_signs) sz) a_x a_tx a_pl a_ga a_tr a_no a_pa a_ro a_mk a_x_acts a_tx_signs tx_place tx_stop post) 0 0 (va_A (wd_X9_sign cI cC cZ cB cJ a_x a_tx a_pl a_ga a_tr a_no a_pa a_ro a_mk a_x_acts a_tx_signs tx_length tx_place tx_stop tx_signs) sz) := by
  refine g_enter (own := RX9) (dC, dI) (tyl cI cC cZ cB cJ) (wd_X9_sign cI cC cZ cB cJ a_x a_tx a_pl a_ga a_tr a_no a_pa a_ro a_mk a_x_acts a_tx_signs tx_length tx_place tx_stop tx_signs) sz [.ref a_x, .int p0] (fun A => q_X9_sign dC dI cI cC cZ cB cJ A a_x a_tx a_pl a_ga a_tr a_no a_pa a_ro a_mk a_x_acts a_tx_signs tx_place tx_stop post) (by decide) rfl (Nat.le_of_ble_eq_true rfl) ?_
  intro p e s m args below meth c A H locs ls C0 hP hD hS hl
  have hl : lv_has ls 2 [(0, .ref a_x), (1, .int p0)] := hl
  obtain ⟨hx, hb, hr, hml, hown, hts, hlocks, hA, hK, hN, tL, tM, hZL, hTL, hZM, hTM, hZX⟩ := id C0
  have hp := hw
  unfold wp_X9_sign at hp
  refine lv_aload_n hx hb eX9_sign_0.1 rfl (lv_at hl 0 rfl) ?_
  refine va_get (D := (dC, dI)) (ci := 9) (v := .ref a_tx) (C := RX9) (T := TX9) (N := 9) hx hb hts i_X9 hown hK hP 0 rfl rfl 0 (Nat.le_of_ble_eq_true rfl) (hts _ q_3) (fun _ h9 => h9) rfl eX9_sign_0.2.1 ?_
  refine lv_iload_n hx hb eX9_sign_0.2.2.1 rfl (lv_at hl 1 rfl) ?_
  refine g_calli (wc := (wd_X8_add cI cC cZ cB cJ a_tx a_tx_signs tx_length tx_place tx_stop tx_signs)) hP hD hS hA [1, 2] [0] rfl rfl rfl rfl (g_runV (As := [.int p0]) (rest := []) C0 hP hD hS [1, 2] rfl rfl 1 8 rfl rfl (c_X8_add l dC dI cI cC cZ cB cJ a_tx a_tx_signs H.size p0 tx_length tx_place tx_stop tx_signs _ hp) q_4 q_8 q_6 q_7 q_5 h_X8_add rfl rfl ⟨Nat.le_of_ble_eq_true rfl, Nat.le_of_ble_eq_true rfl⟩ rfl rfl hl.1 rfl (lv_room (Nat.le_of_ble_eq_true rfl)) eX9_sign_0.2.2.2.1 ⟨Nat.zero_le _, Nat.zero_le _⟩) (fun r_1 u H locs hp hP hD hS => ?_)
  obtain ⟨tx_length_2, tx_signs_3⟩ := u
  have hPD := PDs (ws' := (wd_X9_sign cI cC cZ cB cJ a_x a_tx a_pl a_ga a_tr a_no a_pa a_ro a_mk a_x_acts a_tx_signs tx_length_2 tx_place tx_stop tx_signs_3)) hP hD [0, 1, 2] (by decide) rfl
  have hP := hPD.1
  have hD := hPD.2
  exact W.iret (v := r_1) hx hb hr (fun t ht hW => ⟨⟨r_1, (tx_length_2, tx_signs_3), rfl, hp, by rw [ht]; exact hP, va_K.moved hW.alike hK, hD⟩, hS.F ht⟩) hS.2.2 eX9_sign_0.2.2.2.2
abbrev wd_X8_cut (cI cC cZ cB cJ : ClassId) (a_tx : Nat) (a_tx_signs : Nat) (tx_length : Int32) (tx_place : Int32) (tx_stop : Int32) : va_W := [(a_tx, .inr (8, [.ref a_tx_signs, .int tx_length, .int tx_place, .int tx_stop]))]
abbrev q_X8_cut (dC : Nat → ClassId) (dI : Nat → Nat → Nat) (cI cC cZ cB cJ : ClassId) (A : Nat → Prop) (a_tx : Nat) (a_tx_signs : Nat) (tx_place : Int32) (tx_stop : Int32) (post : Int32 → Int32 → Prop) : Array Value → State → Outcome → State → Prop := va_Qi (fun (r : Int32) (u : Int32) => post r u) (fun u t => gB (dC, dI) (tyl cI cC cZ cB cJ) A (wd_X8_cut cI cC cZ cB cJ a_tx a_tx_signs u tx_place tx_stop) t) A
abbrev rm_X8_cut : Room := { frames := 0, cells := 0, slots := 0, locals := 0 }
def wp_X8_cut (post : Int32 → Int32 → Prop) (p0 : Int32) (tx_length : Int32) : Prop := (p0 < 0 → post 0 tx_length) ∧ (¬ p0 < 0 → (p0 ≤ tx_length → post 1 p0) ∧ (¬ p0 ≤ tx_length → post 0 tx_length))
set_option maxHeartbeats 4000000 in
set_option maxRecDepth 100000 in
theorem c_X8_cut (l : Launch) (dC : Nat → ClassId) (dI : Nat → Nat → Nat) (cI cC cZ cB cJ : ClassId) (a_tx : Nat) (a_tx_signs : Nat) (sz : Nat) (p0 : Int32) (tx_length : Int32) (tx_place : Int32) (tx_stop : Int32) (post : Int32 → Int32 → Prop) (hw : wp_X8_cut post p0 tx_length) : Met l yX8_cut (gw yX8_cut cX8_cut 2 (some .boolean)) rm_X8_cut (va_Pc [.ref a_tx, .int p0] (gPre (dC, dI) (tyl cI cC cZ cB cJ) (wd_X8_cut cI cC cZ cB cJ a_tx a_tx_signs tx_length tx_place tx_stop) sz)) (q_X8_cut dC dI cI cC cZ cB cJ (va_A (wd_X8_cut cI cC cZ cB cJ a_tx a_tx_signs tx_length tx_place tx_stop) sz) a_tx a_tx_signs tx_place tx_stop post) 0 0 (va_A (wd_X8_cut cI cC cZ cB cJ a_tx a_tx_signs tx_length tx_place tx_stop) sz) := by
  refine g_enter (own := RX8) (dC, dI) (tyl cI cC cZ cB cJ) (wd_X8_cut cI cC cZ cB cJ a_tx a_tx_signs tx_length tx_place tx_stop) sz [.ref a_tx, .int p0] (fun A => q_X8_cut dC dI cI cC cZ cB cJ A a_tx a_tx_signs tx_place tx_stop post) (by decide) rfl (Nat.le_of_ble_eq_true rfl) ?_
  intro p e s m args below meth c A H locs ls C0 hP hD hS hl
  have hl : lv_has ls 2 [(0, .ref a_tx), (1, .int p0)] := hl
  obtain ⟨hx, hb, hr, hml, hown, hts, hlocks, hA, hK, hN, tL, tM, hZL, hTL, hZM, hTM, hZX⟩ := id C0
  have hp := hw
  unfold wp_X8_cut at hp
  refine lv_iload_n hx hb eX8_cut_0.1 rfl (lv_at hl 1 rfl) ?_
  refine lv_if_lt (tgt := 12) hx hb eX8_cut_0.2.1 (by decide) (fun hc => ?_) (fun hc => ?_)
  · have hp := hp.1 hc
    refine lv_iconst (v := 0) hx hb eX8_cut_0.2.2.2.2.2.2.1 (by decide) ?_
    exact W.zret (v := 0) hx hb hr rfl (fun t ht hW => ⟨⟨0, tx_length, rfl, hp, by rw [ht]; exact hP, va_K.moved hW.alike hK, hD⟩, hS.F ht⟩) hS.2.2 eX8_cut_0.2.2.2.2.2.2.2.1
  · have hp := hp.2 hc
    refine lv_iload_n hx hb eX8_cut_0.2.2.1 rfl (lv_at hl 1 rfl) ?_
    refine lv_aload_n hx hb eX8_cut_0.2.2.2.1 rfl (lv_at hl 0 rfl) ?_
    refine va_get (D := (dC, dI)) (ci := 8) (v := .int tx_length) (C := RX8) (T := TX8) (N := 4) hx hb hts i_X8 hown hK hP 0 rfl rfl 1 (Nat.le_of_ble_eq_true rfl) (hts _ q_1) (fun _ h9 => h9) rfl eX8_cut_0.2.2.2.2.1 ?_
    refine lv_icmp_le (tgt := 14) hx hb eX8_cut_0.2.2.2.2.2.1 (by decide) (fun hc => ?_) (fun hc => ?_)
    · have hp := hp.1 hc
      refine lv_aload_n hx hb eX8_cut_0.2.2.2.2.2.2.2.2.1 rfl (lv_at hl 0 rfl) ?_
      refine lv_iload_n hx hb eX8_cut_0.2.2.2.2.2.2.2.2.2.1 rfl (lv_at hl 1 rfl) ?_
      refine va_put (D := (dC, dI)) (ci := 8) (v := .int p0) (ty := .int) (C := RX8) (T := TX8) (N := 4) hx hb hts i_X8 tyX8 tyX8_ok nmX8 hown hK hP hD hS 0 rfl rfl 1 (Nat.le_of_ble_eq_true rfl) (hts _ q_1) (fun _ h9 => h9) rfl (tyX8_ok 1 (Nat.le_of_ble_eq_true rfl)) rfl rfl (Nat.le_of_ble_eq_true rfl) eX8_cut_0.2.2.2.2.2.2.2.2.2.2.1 (fun H locs hP hD hS => ?_)
      have hP : va_P (dC, dI) classes (wd_X8_cut cI cC cZ cB cJ a_tx a_tx_signs p0 tx_place tx_stop) H := hP
      have hD : va_D A (wd_X8_cut cI cC cZ cB cJ a_tx a_tx_signs p0 tx_place tx_stop) := hD
      refine lv_iconst (v := 1) hx hb eX8_cut_0.2.2.2.2.2.2.2.2.2.2.2.1 (by decide) ?_
      exact W.zret (v := 1) hx hb hr rfl (fun t ht hW => ⟨⟨1, p0, rfl, hp, by rw [ht]; exact hP, va_K.moved hW.alike hK, hD⟩, hS.F ht⟩) hS.2.2 eX8_cut_0.2.2.2.2.2.2.2.2.2.2.2.2
    · have hp := hp.2 hc
      refine lv_iconst (v := 0) hx hb eX8_cut_0.2.2.2.2.2.2.1 (by decide) ?_
      exact W.zret (v := 0) hx hb hr rfl (fun t ht hW => ⟨⟨0, tx_length, rfl, hp, by rw [ht]; exact hP, va_K.moved hW.alike hK, hD⟩, hS.F ht⟩) hS.2.2 eX8_cut_0.2.2.2.2.2.2.2.1
abbrev wd_X9_end (cI cC cZ cB cJ : ClassId) (a_x : Nat) (a_tx : Nat) (a_pl : Nat) (a_ga : Nat) (a_tr : Nat) (a_no : Nat) (a_pa : Nat) (a_ro : Nat) (a_mk : Nat) (a_x_acts : Nat) (a_tx_signs : Nat) (tx_length : Int32) (tx_place : Int32) (tx_stop : Int32) : va_W := [(a_x, .inr (9, [.ref a_tx, .ref a_pl, .ref a_ga, .ref a_tr, .ref a_no, .ref a_pa, .ref a_ro, .ref a_mk, .ref a_x_acts])), (a_tx, .inr (8, [.ref a_tx_signs, .int tx_length, .int tx_place, .int tx_stop]))]
abbrev q_X9_end (dC : Nat → ClassId) (dI : Nat → Nat → Nat) (cI cC cZ cB cJ : ClassId) (A : Nat → Prop) (a_x : Nat) (a_tx : Nat) (a_pl : Nat) (a_ga : Nat) (a_tr : Nat) (a_no : Nat) (a_pa : Nat) (a_ro : Nat) (a_mk : Nat) (a_x_acts : Nat) (a_tx_signs : Nat) (tx_place : Int32) (tx_stop : Int32) (post : Int32 → Int32 → Prop) : Array Value → State → Outcome → State → Prop := va_Qi (fun (r : Int32) (u : Int32) => post r u) (fun u t => gB (dC, dI) (tyl cI cC cZ cB cJ) A (wd_X9_end cI cC cZ cB cJ a_x a_tx a_pl a_ga a_tr a_no a_pa a_ro a_mk a_x_acts a_tx_signs u tx_place tx_stop) t) A
abbrev rm_X9_end : Room := { frames := 1, cells := 0, slots := 0, locals := 21 }
def wp_X9_end (post : Int32 → Int32 → Prop) (p0 : Int32) (tx_length : Int32) : Prop := wp_X8_cut (fun r_1 tx_length_2 => narrow .boolean (.int r_1) = .int r_1 ∧ post r_1 tx_length_2) p0 tx_length
set_option maxHeartbeats 4000000 in
set_option maxRecDepth 100000 in
theorem c_X9_end (l : Launch) (dC : Nat → ClassId) (dI : Nat → Nat → Nat) (cI cC cZ cB cJ : ClassId) (a_x : Nat) (a_tx : Nat) (a_pl : Nat) (a_ga : Nat) (a_tr : Nat) (a_no : Nat) (a_pa : Nat) (a_ro : Nat) (a_mk : Nat) (a_x_acts : Nat) (a_tx_signs : Nat) (sz : Nat) (p0 : Int32) (tx_length : Int32) (tx_place : Int32) (tx_stop : Int32) (post : Int32 → Int32 → Prop) (hw : wp_X9_end post p0 tx_length) : Met l yX9_end (gw yX9_end cX9_end 2 (some .boolean)) rm_X9_end (va_Pc [.ref a_x, .int p0] (gPre (dC, dI) (tyl cI cC cZ cB cJ) (wd_X9_end cI cC cZ cB cJ a_x a_tx a_pl a_ga a_tr a_no a_pa a_ro a_mk a_x_acts a_tx_signs tx_length tx_place tx_stop) sz)) (q_X9_end dC dI cI cC cZ cB cJ (va_A (wd_X9_end cI cC cZ cB cJ a_x a_tx a_pl a_ga a_tr a_no a_pa a_ro a_mk a_x_acts a_tx_signs tx_length tx_place tx_stop) sz) a_x a_tx a_pl a_ga a_tr a_no a_pa a_ro a_mk a_x_acts a_tx_signs tx_place tx_stop post) 0 0 (va_A (wd_X9_end cI cC cZ cB cJ a_x a_tx a_pl a_ga a_tr a_no a_pa a_ro a_mk a_x_acts a_tx_signs tx_length tx_place tx_stop) sz) := by
  refine g_enter (own := RX9) (dC, dI) (tyl cI cC cZ cB cJ) (wd_X9_end cI cC cZ cB cJ a_x a_tx a_pl a_ga a_tr a_no a_pa a_ro a_mk a_x_acts a_tx_signs tx_length tx_place tx_stop) sz [.ref a_x, .int p0] (fun A => q_X9_end dC dI cI cC cZ cB cJ A a_x a_tx a_pl a_ga a_tr a_no a_pa a_ro a_mk a_x_acts a_tx_signs tx_place tx_stop post) (by decide) rfl (Nat.le_of_ble_eq_true rfl) ?_
  intro p e s m args below meth c A H locs ls C0 hP hD hS hl
  have hl : lv_has ls 2 [(0, .ref a_x), (1, .int p0)] := hl
  obtain ⟨hx, hb, hr, hml, hown, hts, hlocks, hA, hK, hN, tL, tM, hZL, hTL, hZM, hTM, hZX⟩ := id C0
  have hp := hw
  unfold wp_X9_end at hp
  refine lv_aload_n hx hb eX9_end_0.1 rfl (lv_at hl 0 rfl) ?_
  refine va_get (D := (dC, dI)) (ci := 9) (v := .ref a_tx) (C := RX9) (T := TX9) (N := 9) hx hb hts i_X9 hown hK hP 0 rfl rfl 0 (Nat.le_of_ble_eq_true rfl) (hts _ q_3) (fun _ h9 => h9) rfl eX9_end_0.2.1 ?_
  refine lv_iload_n hx hb eX9_end_0.2.2.1 rfl (lv_at hl 1 rfl) ?_
  refine g_calli (wc := (wd_X8_cut cI cC cZ cB cJ a_tx a_tx_signs tx_length tx_place tx_stop)) hP hD hS hA [1] [0] rfl rfl rfl rfl (g_runV (As := [.int p0]) (rest := []) C0 hP hD hS [1] rfl rfl 1 8 rfl rfl (c_X8_cut l dC dI cI cC cZ cB cJ a_tx a_tx_signs H.size p0 tx_length tx_place tx_stop _ hp) q_9 q_12 q_10 q_11 q_5 h_X8_cut rfl rfl ⟨Nat.le_of_ble_eq_true rfl, Nat.le_of_ble_eq_true rfl⟩ rfl rfl hl.1 rfl (lv_room (Nat.le_of_ble_eq_true rfl)) eX9_end_0.2.2.2.1 ⟨Nat.zero_le _, Nat.zero_le _⟩) (fun r_1 u H locs hp hP hD hS => ?_)
  obtain ⟨tx_length_2, rfl⟩ : ∃ z, z = u := ⟨_, rfl⟩
  have hPD := PDs (ws' := (wd_X9_end cI cC cZ cB cJ a_x a_tx a_pl a_ga a_tr a_no a_pa a_ro a_mk a_x_acts a_tx_signs tx_length_2 tx_place tx_stop)) hP hD [0, 1] (by decide) rfl
  have hP := hPD.1
  have hD := hPD.2
  have hnz := hp.1
  have hp := hp.2
  exact W.zret (v := r_1) hx hb hr hnz (fun t ht hW => ⟨⟨r_1, tx_length_2, rfl, hp, by rw [ht]; exact hP, va_K.moved hW.alike hK, hD⟩, hS.F ht⟩) hS.2.2 eX9_end_0.2.2.2.2
abbrev wd_X8_open (cI cC cZ cB cJ : ClassId) (a_tx : Nat) (a_tx_signs : Nat) (tx_length : Int32) (tx_place : Int32) (tx_stop : Int32) : va_W := [(a_tx, .inr (8, [.ref a_tx_signs, .int tx_length, .int tx_place, .int tx_stop]))]
abbrev q_X8_open (dC : Nat → ClassId) (dI : Nat → Nat → Nat) (cI cC cZ cB cJ : ClassId) (A : Nat → Prop) (a_tx : Nat) (a_tx_signs : Nat) (tx_length : Int32) (post : Int32 → Int32 → Prop) : Array Value → State → Outcome → State → Prop := va_Qv (fun (u : Int32 × Int32) => post u.1 u.2) (fun u t => gB (dC, dI) (tyl cI cC cZ cB cJ) A (wd_X8_open cI cC cZ cB cJ a_tx a_tx_signs tx_length u.1 u.2) t) A
abbrev rm_X8_open : Room := { frames := 1, cells := 0, slots := 0, locals := 21 }
def wp_X8_open (post : Int32 → Int32 → Prop) (p0 : Int32) (tx_length : Int32) (tx_place : Int32) (tx_stop : Int32) : Prop := ∀ v_1 : Int32, v_1 = (if p0 < tx_length then p0 else tx_length) → post 0 v_1
set_option maxHeartbeats 4000000 in
set_option maxRecDepth 100000 in
theorem c_X8_open (l : Launch) (dC : Nat → ClassId) (dI : Nat → Nat → Nat) (cI cC cZ cB cJ : ClassId) (a_tx : Nat) (a_tx_signs : Nat) (sz : Nat) (p0 : Int32) (tx_length : Int32) (tx_place : Int32) (tx_stop : Int32) (post : Int32 → Int32 → Prop) (hw : wp_X8_open post p0 tx_length tx_place tx_stop) : Met l yX8_open (gw yX8_open cX8_open 2 none) rm_X8_open (va_Pc [.ref a_tx, .int p0] (gPre (dC, dI) (tyl cI cC cZ cB cJ) (wd_X8_open cI cC cZ cB cJ a_tx a_tx_signs tx_length tx_place tx_stop) sz)) (q_X8_open dC dI cI cC cZ cB cJ (va_A (wd_X8_open cI cC cZ cB cJ a_tx a_tx_signs tx_length tx_place tx_stop) sz) a_tx a_tx_signs tx_length post) 0 0 (va_A (wd_X8_open cI cC cZ cB cJ a_tx a_tx_signs tx_length tx_place tx_stop) sz) := by
  refine g_enter (own := RX8) (dC, dI) (tyl cI cC cZ cB cJ) (wd_X8_open cI cC cZ cB cJ a_tx a_tx_signs tx_length tx_place tx_stop) sz [.ref a_tx, .int p0] (fun A => q_X8_open dC dI cI cC cZ cB cJ A a_tx a_tx_signs tx_length post) (by decide) rfl (Nat.le_of_ble_eq_true rfl) ?_
  intro p e s m args below meth c A H locs ls C0 hP hD hS hl
  have hl : lv_has ls 2 [(0, .ref a_tx), (1, .int p0)] := hl
  obtain ⟨hx, hb, hr, hml, hown, hts, hlocks, hA, hK, hN, tL, tM, hZL, hTL, hZM, hTM, hZX⟩ := id C0
  have hp := hw
  unfold wp_X8_open at hp
  refine lv_aload_n hx hb eX8_open_0.1 rfl (lv_at hl 0 rfl) ?_
  refine lv_iconst (v := 0) hx hb eX8_open_0.2.1 (by decide) ?_
  refine va_put (D := (dC, dI)) (ci := 8) (v := .int 0) (ty := .int) (C := RX8) (T := TX8) (N := 4) hx hb hts i_X8 tyX8 tyX8_ok nmX8 hown hK hP hD hS 0 rfl rfl 2 (Nat.le_of_ble_eq_true rfl) (hts _ q_13) (fun _ h9 => h9) rfl (tyX8_ok 2 (Nat.le_of_ble_eq_true rfl)) rfl rfl (Nat.le_of_ble_eq_true rfl) eX8_open_0.2.2.1 (fun H locs hP hD hS => ?_)
  have hP : va_P (dC, dI) classes (wd_X8_open cI cC cZ cB cJ a_tx a_tx_signs tx_length 0 tx_stop) H := hP
  have hD : va_D A (wd_X8_open cI cC cZ cB cJ a_tx a_tx_signs tx_length 0 tx_stop) := hD
  refine lv_aload_n hx hb eX8_open_0.2.2.2.1 rfl (lv_at hl 0 rfl) ?_
  refine lv_aload_n hx hb eX8_open_0.2.2.2.2.1 rfl (lv_at hl 0 rfl) ?_
  refine va_get (D := (dC, dI)) (ci := 8) (v := .int tx_length) (C := RX8) (T := TX8) (N := 4) hx hb hts i_X8 hown hK hP 0 rfl rfl 1 (Nat.le_of_ble_eq_true rfl) (hts _ q_1) (fun _ h9 => h9) rfl eX8_open_0.2.2.2.2.2.1 ?_
  refine lv_iload_n hx hb eX8_open_0.2.2.2.2.2.2.1 rfl (lv_at hl 1 rfl) ?_
  refine va_mmin hx hb (by rw [hml]; exact hl.1.symm) hown (hts _ q_14) (hts _ q_15) (hts _ q_16) (hts _ q_17) (Nat.le_of_ble_eq_true rfl) (Nat.le_of_ble_eq_true rfl) (Nat.zero_le _) (Nat.zero_le _) eX8_open_0.2.2.2.2.2.2.2.1 ?_
  refine lv_topi (fun v_1 ev_1 => ?_)
  have hp := hp v_1 ev_1
  refine va_put (D := (dC, dI)) (ci := 8) (v := .int v_1) (ty := .int) (C := RX8) (T := TX8) (N := 4) hx hb hts i_X8 tyX8 tyX8_ok nmX8 hown hK hP hD hS 0 rfl rfl 3 (Nat.le_of_ble_eq_true rfl) (hts _ q_18) (fun _ h9 => h9) rfl (tyX8_ok 3 (Nat.le_of_ble_eq_true rfl)) rfl rfl (Nat.le_of_ble_eq_true rfl) eX8_open_0.2.2.2.2.2.2.2.2.1 (fun H locs hP hD hS => ?_)
  have hP : va_P (dC, dI) classes (wd_X8_open cI cC cZ cB cJ a_tx a_tx_signs tx_length 0 v_1) H := hP
  have hD : va_D A (wd_X8_open cI cC cZ cB cJ a_tx a_tx_signs tx_length 0 v_1) := hD
  exact W.vret hx hb hr (fun t ht hW => ⟨⟨(0, v_1), rfl, hp, by rw [ht]; exact hP, va_K.moved hW.alike hK, hD⟩, hS.F ht⟩) hS.2.2 eX8_open_0.2.2.2.2.2.2.2.2.2
abbrev wd_X8_isThrough (cI cC cZ cB cJ : ClassId) (a_tx : Nat) (a_tx_signs : Nat) (tx_length : Int32) (tx_place : Int32) (tx_stop : Int32) : va_W := [(a_tx, .inr (8, [.ref a_tx_signs, .int tx_length, .int tx_place, .int tx_stop]))]
abbrev q_X8_isThrough (dC : Nat → ClassId) (dI : Nat → Nat → Nat) (cI cC cZ cB cJ : ClassId) (A : Nat → Prop) (a_tx : Nat) (a_tx_signs : Nat) (tx_length : Int32) (tx_place : Int32) (tx_stop : Int32) (post : Int32 → Prop) : Array Value → State → Outcome → State → Prop := va_Qi (fun (r : Int32) (u : Unit) => post r) (fun u t => gB (dC, dI) (tyl cI cC cZ cB cJ) A (wd_X8_isThrough cI cC cZ cB cJ a_tx a_tx_signs tx_length tx_place tx_stop) t) A
abbrev rm_X8_isThrough : Room := { frames := 0, cells := 0, slots := 0, locals := 0 }
def wp_X8_isThrough (post : Int32 → Prop) (tx_length : Int32) (tx_place : Int32) : Prop := (¬ tx_place = tx_length → post 0) ∧ (tx_place = tx_length → post 1)
set_option maxHeartbeats 4000000 in
set_option maxRecDepth 100000 in
theorem c_X8_isThrough (l : Launch) (dC : Nat → ClassId) (dI : Nat → Nat → Nat) (cI cC cZ cB cJ : ClassId) (a_tx : Nat) (a_tx_signs : Nat) (sz : Nat) (tx_length : Int32) (tx_place : Int32) (tx_stop : Int32) (post : Int32 → Prop) (hw : wp_X8_isThrough post tx_length tx_place) : Met l yX8_isThrough (gw yX8_isThrough cX8_isThrough 1 (some .boolean)) rm_X8_isThrough (va_Pc [.ref a_tx] (gPre (dC, dI) (tyl cI cC cZ cB cJ) (wd_X8_isThrough cI cC cZ cB cJ a_tx a_tx_signs tx_length tx_place tx_stop) sz)) (q_X8_isThrough dC dI cI cC cZ cB cJ (va_A (wd_X8_isThrough cI cC cZ cB cJ a_tx a_tx_signs tx_length tx_place tx_stop) sz) a_tx a_tx_signs tx_length tx_place tx_stop post) 0 0 (va_A (wd_X8_isThrough cI cC cZ cB cJ a_tx a_tx_signs tx_length tx_place tx_stop) sz) := by
  refine g_enter (own := RX8) (dC, dI) (tyl cI cC cZ cB cJ) (wd_X8_isThrough cI cC cZ cB cJ a_tx a_tx_signs tx_length tx_place tx_stop) sz [.ref a_tx] (fun A => q_X8_isThrough dC dI cI cC cZ cB cJ A a_tx a_tx_signs tx_length tx_place tx_stop post) (by decide) rfl (Nat.le_of_ble_eq_true rfl) ?_
  intro p e s m args below meth c A H locs ls C0 hP hD hS hl
  have hl : lv_has ls 1 [(0, .ref a_tx)] := hl
  obtain ⟨hx, hb, hr, hml, hown, hts, hlocks, hA, hK, hN, tL, tM, hZL, hTL, hZM, hTM, hZX⟩ := id C0
  have hp := hw
  unfold wp_X8_isThrough at hp
  refine lv_aload_n hx hb eX8_isThrough_0.1 rfl (lv_at hl 0 rfl) ?_
  refine va_get (D := (dC, dI)) (ci := 8) (v := .int tx_place) (C := RX8) (T := TX8) (N := 4) hx hb hts i_X8 hown hK hP 0 rfl rfl 2 (Nat.le_of_ble_eq_true rfl) (hts _ q_13) (fun _ h9 => h9) rfl eX8_isThrough_0.2.1 ?_
  refine lv_aload_n hx hb eX8_isThrough_0.2.2.1 rfl (lv_at hl 0 rfl) ?_
  refine va_get (D := (dC, dI)) (ci := 8) (v := .int tx_length) (C := RX8) (T := TX8) (N := 4) hx hb hts i_X8 hown hK hP 0 rfl rfl 1 (Nat.le_of_ble_eq_true rfl) (hts _ q_1) (fun _ h9 => h9) rfl eX8_isThrough_0.2.2.2.1 ?_
  refine lv_icmp_ne (tgt := 15) hx hb eX8_isThrough_0.2.2.2.2.1 (by decide) (fun hc => ?_) (fun hc => ?_)
  · have hp := hp.1 hc
    refine lv_iconst (v := 0) hx hb eX8_isThrough_0.2.2.2.2.2.2.2.1 (by decide) ?_
    exact W.zret (v := 0) hx hb hr rfl (fun t ht hW => ⟨⟨0, (), rfl, hp, by rw [ht]; exact hP, va_K.moved hW.alike hK, hD⟩, hS.F ht⟩) hS.2.2 eX8_isThrough_0.2.2.2.2.2.2.2.2
  · have hp := hp.2 hc
    refine lv_iconst (v := 1) hx hb eX8_isThrough_0.2.2.2.2.2.1 (by decide) ?_
    refine lv_goto (tgt := 16) hx hb eX8_isThrough_0.2.2.2.2.2.2.1 (by decide) ?_
    exact W.zret (v := 1) hx hb hr rfl (fun t ht hW => ⟨⟨1, (), rfl, hp, by rw [ht]; exact hP, va_K.moved hW.alike hK, hD⟩, hS.F ht⟩) hS.2.2 eX8_isThrough_0.2.2.2.2.2.2.2.2
abbrev wd_X3_takeLines (cI cC cZ cB cJ : ClassId) (a_tr : Nat) (a_tr_x : Nat) (a_tr_height : Nat) (a_tr_worth : Nat) (a_tr_ripe : Nat) (a_tr_foot : Nat) (a_tr_fork : Nat) (a_tr_settings : Nat) (tr_fruits : Int32) (tr_standings : Int32) (tr_comingFruits : Int32) (tr_comingStandings : Int32) : va_W := [(a_tr, .inr (3, [.ref a_tr_x, .ref a_tr_height, .ref a_tr_worth, .ref a_tr_ripe, .ref a_tr_foot, .ref a_tr_fork, .ref a_tr_settings, .int tr_fruits, .int tr_standings, .int tr_comingFruits, .int tr_comingStandings]))]
abbrev q_X3_takeLines (dC : Nat → ClassId) (dI : Nat → Nat → Nat) (cI cC cZ cB cJ : ClassId) (A : Nat → Prop) (a_tr : Nat) (a_tr_x : Nat) (a_tr_height : Nat) (a_tr_worth : Nat) (a_tr_ripe : Nat) (a_tr_foot : Nat) (a_tr_fork : Nat) (a_tr_settings : Nat) (tr_comingFruits : Int32) (tr_comingStandings : Int32) (post : Int32 → Int32 → Prop) : Array Value → State → Outcome → State → Prop := va_Qv (fun (u : Int32 × Int32) => post u.1 u.2) (fun u t => gB (dC, dI) (tyl cI cC cZ cB cJ) A (wd_X3_takeLines cI cC cZ cB cJ a_tr a_tr_x a_tr_height a_tr_worth a_tr_ripe a_tr_foot a_tr_fork a_tr_settings u.1 u.2 tr_comingFruits tr_comingStandings) t) A
abbrev rm_X3_takeLines : Room := { frames := 0, cells := 0, slots := 0, locals := 0 }
def wp_X3_takeLines (post : Int32 → Int32 → Prop) (tr_fruits : Int32) (tr_standings : Int32) (tr_comingFruits : Int32) (tr_comingStandings : Int32) : Prop := post tr_comingFruits tr_comingStandings
set_option maxHeartbeats 4000000 in
set_option maxRecDepth 100000 in
theorem c_X3_takeLines (l : Launch) (dC : Nat → ClassId) (dI : Nat → Nat → Nat) (cI cC cZ cB cJ : ClassId) (a_tr : Nat) (a_tr_x : Nat) (a_tr_height : Nat) (a_tr_worth : Nat) (a_tr_ripe : Nat) (a_tr_foot : Nat) (a_tr_fork : Nat) (a_tr_settings : Nat) (sz : Nat) (tr_fruits : Int32) (tr_standings : Int32) (tr_comingFruits : Int32) (tr_comingStandings : Int32) (post : Int32 → Int32 → Prop) (hw : wp_X3_takeLines post tr_fruits tr_standings tr_comingFruits tr_comingStandings) : Met l yX3_takeLines (gw yX3_takeLines cX3_takeLines 1 none) rm_X3_takeLines (va_Pc [.ref a_tr] (gPre (dC, dI) (tyl cI cC cZ cB cJ) (wd_X3_takeLines cI cC cZ cB cJ a_tr a_tr_x a_tr_height a_tr_worth a_tr_ripe a_tr_foot a_tr_fork a_tr_settings tr_fruits tr_standings tr_comingFruits tr_comingStandings) sz)) (q_X3_takeLines dC dI cI cC cZ cB cJ (va_A (wd_X3_takeLines cI cC cZ cB cJ a_tr a_tr_x a_tr_height a_tr_worth a_tr_ripe a_tr_foot a_tr_fork a_tr_settings tr_fruits tr_standings tr_comingFruits tr_comingStandings) sz) a_tr a_tr_x a_tr_height a_tr_worth a_tr_ripe a_tr_foot a_tr_fork a_tr_settings tr_comingFruits tr_comingStandings post) 0 0 (va_A (wd_X3_takeLines cI cC cZ cB cJ a_tr a_tr_x a_tr_height a_tr_worth a_tr_ripe a_tr_foot a_tr_fork a_tr_settings tr_fruits tr_standings tr_comingFruits tr_comingStandings) sz) := by
  refine g_enter (own := RX3) (dC, dI) (tyl cI cC cZ cB cJ) (wd_X3_takeLines cI cC cZ cB cJ a_tr a_tr_x a_tr_height a_tr_worth a_tr_ripe a_tr_foot a_tr_fork a_tr_settings tr_fruits tr_standings tr_comingFruits tr_comingStandings) sz [.ref a_tr] (fun A => q_X3_takeLines dC dI cI cC cZ cB cJ A a_tr a_tr_x a_tr_height a_tr_worth a_tr_ripe a_tr_foot a_tr_fork a_tr_settings tr_comingFruits tr_comingStandings post) (by decide) rfl (Nat.le_of_ble_eq_true rfl) ?_
  intro p e s m args below meth c A H locs ls C0 hP hD hS hl
  have hl : lv_has ls 1 [(0, .ref a_tr)] := hl
  obtain ⟨hx, hb, hr, hml, hown, hts, hlocks, hA, hK, hN, tL, tM, hZL, hTL, hZM, hTM, hZX⟩ := id C0
  have hp := hw
  unfold wp_X3_takeLines at hp
  refine lv_aload_n hx hb eX3_takeLines_0.1 rfl (lv_at hl 0 rfl) ?_
  refine lv_aload_n hx hb eX3_takeLines_0.2.1 rfl (lv_at hl 0 rfl) ?_
  refine va_get (D := (dC, dI)) (ci := 3) (v := .int tr_comingFruits) (C := RX3) (T := TX3) (N := 11) hx hb hts i_X3 hown hK hP 0 rfl rfl 9 (Nat.le_of_ble_eq_true rfl) (hts _ q_19) (fun _ h9 => h9) rfl eX3_takeLines_0.2.2.1 ?_
  refine va_put (D := (dC, dI)) (ci := 3) (v := .int tr_comingFruits) (ty := .int) (C := RX3) (T := TX3) (N := 11) hx hb hts i_X3 tyX3 tyX3_ok nmX3 hown hK hP hD hS 0 rfl rfl 7 (Nat.le_of_ble_eq_true rfl) (hts _ q_20) (fun _ h9 => h9) rfl (tyX3_ok 7 (Nat.le_of_ble_eq_true rfl)) rfl rfl (Nat.le_of_ble_eq_true rfl) eX3_takeLines_0.2.2.2.1 (fun H locs hP hD hS => ?_)
  have hP : va_P (dC, dI) classes (wd_X3_takeLines cI cC cZ cB cJ a_tr a_tr_x a_tr_height a_tr_worth a_tr_ripe a_tr_foot a_tr_fork a_tr_settings tr_comingFruits tr_standings tr_comingFruits tr_comingStandings) H := hP
  have hD : va_D A (wd_X3_takeLines cI cC cZ cB cJ a_tr a_tr_x a_tr_height a_tr_worth a_tr_ripe a_tr_foot a_tr_fork a_tr_settings tr_comingFruits tr_standings tr_comingFruits tr_comingStandings) := hD
  refine lv_aload_n hx hb eX3_takeLines_0.2.2.2.2.1 rfl (lv_at hl 0 rfl) ?_
  refine lv_aload_n hx hb eX3_takeLines_0.2.2.2.2.2.1 rfl (lv_at hl 0 rfl) ?_
  refine va_get (D := (dC, dI)) (ci := 3) (v := .int tr_comingStandings) (C := RX3) (T := TX3) (N := 11) hx hb hts i_X3 hown hK hP 0 rfl rfl 10 (Nat.le_of_ble_eq_true rfl) (hts _ q_21) (fun _ h9 => h9) rfl eX3_takeLines_0.2.2.2.2.2.2.1 ?_
  refine va_put (D := (dC, dI)) (ci := 3) (v := .int tr_comingStandings) (ty := .int) (C := RX3) (T := TX3) (N := 11) hx hb hts i_X3 tyX3 tyX3_ok nmX3 hown hK hP hD hS 0 rfl rfl 8 (Nat.le_of_ble_eq_true rfl) (hts _ q_22) (fun _ h9 => h9) rfl (tyX3_ok 8 (Nat.le_of_ble_eq_true rfl)) rfl rfl (Nat.le_of_ble_eq_true rfl) eX3_takeLines_0.2.2.2.2.2.2.2.1 (fun H locs hP hD hS => ?_)
  have hP : va_P (dC, dI) classes (wd_X3_takeLines cI cC cZ cB cJ a_tr a_tr_x a_tr_height a_tr_worth a_tr_ripe a_tr_foot a_tr_fork a_tr_settings tr_comingFruits tr_comingStandings tr_comingFruits tr_comingStandings) H := hP
  have hD : va_D A (wd_X3_takeLines cI cC cZ cB cJ a_tr a_tr_x a_tr_height a_tr_worth a_tr_ripe a_tr_foot a_tr_fork a_tr_settings tr_comingFruits tr_comingStandings tr_comingFruits tr_comingStandings) := hD
  exact W.vret hx hb hr (fun t ht hW => ⟨⟨(tr_comingFruits, tr_comingStandings), rfl, hp, by rw [ht]; exact hP, va_K.moved hW.alike hK, hD⟩, hS.F ht⟩) hS.2.2 eX3_takeLines_0.2.2.2.2.2.2.2.2
abbrev wd_X4_forgetAll (cI cC cZ cB cJ : ClassId) (a_pa : Nat) (a_pa_cells : Nat) (a_pa_keptCells : Nat) (a_pa_isKept : Nat) (pa_undoable : Int32) (pa_free : Int32) (pa_isKept : Nat → Int32) : va_W := [(a_pa, .inr (4, [.ref a_pa_cells, .ref a_pa_keptCells, .ref a_pa_isKept, .int pa_undoable, .int pa_free])), (a_pa_isKept, .inl (cZ, 2, .inl pa_isKept))]
abbrev q_X4_forgetAll (dC : Nat → ClassId) (dI : Nat → Nat → Nat) (cI cC cZ cB cJ : ClassId) (A : Nat → Prop) (a_pa : Nat) (a_pa_cells : Nat) (a_pa_keptCells : Nat) (a_pa_isKept : Nat) (pa_free : Int32) (post : Int32 → (Nat → Int32) → Prop) : Array Value → State → Outcome → State → Prop := va_Qv (fun (u : Int32 × (Nat → Int32)) => post u.1 u.2) (fun u t => gB (dC, dI) (tyl cI cC cZ cB cJ) A (wd_X4_forgetAll cI cC cZ cB cJ a_pa a_pa_cells a_pa_keptCells a_pa_isKept u.1 pa_free u.2) t) A
abbrev rm_X4_forgetAll : Room := { frames := 0, cells := 0, slots := 0, locals := 0 }
section S_X4_forgetAll
variable {p : Program} {l : Launch} {e : Env} {s : State} {m : MethodId} {args : Array Value} {below : List Frame} {meth : Method} {c : Code} {dC : Nat → ClassId} {dI : Nat → Nat → Nat} {cI cC cZ cB cJ : ClassId} {A : Nat → Prop} {a_pa : Nat} {a_pa_cells : Nat} {a_pa_keptCells : Nat} {a_pa_isKept : Nat} {pa_free : Int32} {post : Int32 → (Nat → Int32) → Prop}
def ws_X4_forgetAll_7 (post : Int32 → (Nat → Int32) → Prop) (next : Int32 → Int32 → (Nat → Int32) → Prop) (x1 : Int32) (pa_undoable : Int32) (pa_isKept : Nat → Int32) : Prop := (2 ≤ x1 → post pa_undoable pa_isKept) ∧ (¬ 2 ≤ x1 → vp_in x1 2 ∧ (∀ v_1 : Int32, v_1 = x1 + 1 → next v_1 pa_undoable (upd pa_isKept x1.toNatClampNeg (vp_nar .boolean 0))))
noncomputable def wb_X4_forgetAll_7 (post : Int32 → (Nat → Int32) → Prop) : Nat → Int32 → Int32 → (Nat → Int32) → Prop := fun n => Nat.rec (motive := fun _ => Int32 → Int32 → (Nat → Int32) → Prop) (fun _ _ _ => False) (fun _ ih => ws_X4_forgetAll_7 post ih) n
set_option maxHeartbeats 4000000 in
set_option maxRecDepth 100000 in
theorem ks_X4_forgetAll_7 (C0 : gc cX4_forgetAll none 2 RX4 (dC, dI) (tyl cI cC cZ cB cJ) A p s m args meth c) {next : Int32 → Int32 → (Nat → Int32) → Prop} (hKn : ∀ (x1 : Int32) (pa_undoable : Int32) (pa_isKept : Nat → Int32) (H : Heap) (locs : List Loc) (ls : Array Slot), next x1 pa_undoable pa_isKept → va_P (dC, dI) classes (wd_X4_forgetAll cI cC cZ cB cJ a_pa a_pa_cells a_pa_keptCells a_pa_isKept pa_undoable pa_free pa_isKept) H → va_D A (wd_X4_forgetAll cI cC cZ cB cJ a_pa a_pa_cells a_pa_keptCells a_pa_isKept pa_undoable pa_free pa_isKept) → va_S A s.heap H locs → lv_has ls 2 [(0, .ref a_pa), (1, .int x1)] → W p l e rm_X4_forgetAll s m args below meth c H locs 0 0 (MQ below (q_X4_forgetAll dC dI cI cC cZ cB cJ A a_pa a_pa_cells a_pa_keptCells a_pa_isKept pa_free post) args s 0 0 A) (F0 m 7 ls [])) : ∀ (x1 : Int32) (pa_undoable : Int32) (pa_isKept : Nat → Int32) (H : Heap) (locs : List Loc) (ls : Array Slot), (ws_X4_forgetAll_7 post next) x1 pa_undoable pa_isKept → va_P (dC, dI) classes (wd_X4_forgetAll cI cC cZ cB cJ a_pa a_pa_cells a_pa_keptCells a_pa_isKept pa_undoable pa_free pa_isKept) H → va_D A (wd_X4_forgetAll cI cC cZ cB cJ a_pa a_pa_cells a_pa_keptCells a_pa_isKept pa_undoable pa_free pa_isKept) → va_S A s.heap H locs → lv_has ls 2 [(0, .ref a_pa), (1, .int x1)] → W p l e rm_X4_forgetAll s m args below meth c H locs 0 0 (MQ below (q_X4_forgetAll dC dI cI cC cZ cB cJ A a_pa a_pa_cells a_pa_keptCells a_pa_isKept pa_free post) args s 0 0 A) (F0 m 7 ls []) := by
  obtain ⟨hx, hb, hr, hml, hown, hts, hlocks, hA, hK, hN, tL, tM, hZL, hTL, hZM, hTM, hZX⟩ := id C0
  intro x1 pa_undoable pa_isKept H locs ls hp hP hD hS hl
  unfold ws_X4_forgetAll_7 at hp
  refine lv_iload_n hx hb eX4_forgetAll_0.2.2.2.2.2.1 rfl (lv_at hl 1 rfl) ?_
  refine lv_iconst (v := 2) hx hb eX4_forgetAll_0.2.2.2.2.2.2.1 (by decide) ?_
  refine lv_icmp_ge (tgt := 25) hx hb eX4_forgetAll_0.2.2.2.2.2.2.2.1 (by decide) (fun hc => ?_) (fun hc => ?_)
  · have hp := hp.1 hc
    exact W.vret hx hb hr (fun t ht hW => ⟨⟨(pa_undoable, pa_isKept), rfl, hp, by rw [ht]; exact hP, va_K.moved hW.alike hK, hD⟩, hS.F ht⟩) hS.2.2 eX4_forgetAll_0.2.2.2.2.2.2.2.2.2.2.2.2.2.2.2
  · have hp := hp.2 hc
    refine lv_aload_n hx hb eX4_forgetAll_0.2.2.2.2.2.2.2.2.1 rfl (lv_at hl 0 rfl) ?_
    refine va_get (D := (dC, dI)) (ci := 4) (v := .ref a_pa_isKept) (C := RX4) (T := TX4) (N := 5) hx hb hts i_X4 hown hK hP 0 rfl rfl 2 (Nat.le_of_ble_eq_true rfl) (hts _ q_24) (fun _ h9 => h9) rfl eX4_forgetAll_0.2.2.2.2.2.2.2.2.2.1 ?_
    refine lv_iload_n hx hb eX4_forgetAll_0.2.2.2.2.2.2.2.2.2.2.1 rfl (lv_at hl 1 rfl) ?_
    refine lv_iconst (v := 0) hx hb eX4_forgetAll_0.2.2.2.2.2.2.2.2.2.2.2.1 (by decide) ?_
    have hin := hp.1
    have hp := hp.2
    refine va_zast hx hb hK hP hD hS 1 2 rfl rfl hin eX4_forgetAll_0.2.2.2.2.2.2.2.2.2.2.2.2.1 (fun H locs hP hD hS => ?_)
    have hP : va_P (dC, dI) classes (wd_X4_forgetAll cI cC cZ cB cJ a_pa a_pa_cells a_pa_keptCells a_pa_isKept pa_undoable pa_free (upd pa_isKept x1.toNatClampNeg (vp_nar .boolean 0))) H := hP
    have hD : va_D A (wd_X4_forgetAll cI cC cZ cB cJ a_pa a_pa_cells a_pa_keptCells a_pa_isKept pa_undoable pa_free (upd pa_isKept x1.toNatClampNeg (vp_nar .boolean 0))) := hD
    obtain ⟨v_1, ev_1⟩ : ∃ y : Int32, y = x1 + 1 := ⟨_, rfl⟩
    refine lv_iinc (v := v_1) (lv' := [(1, .int v_1), (0, .ref a_pa)]) hx hb eX4_forgetAll_0.2.2.2.2.2.2.2.2.2.2.2.2.2.1 hl (k := 1) rfl (by rw [ev_1]; rfl) (by decide) rfl (fun ls hl => ?_)
    have hp := hp v_1 ev_1
    refine lv_goto (tgt := 7) hx hb eX4_forgetAll_0.2.2.2.2.2.2.2.2.2.2.2.2.2.2.1 (by decide) ?_
    exact hKn v_1 pa_undoable (upd pa_isKept x1.toNatClampNeg (vp_nar .boolean 0)) H locs ls hp hP hD hS (lv_sub hl [1, 0] rfl)
set_option maxHeartbeats 4000000 in
set_option maxRecDepth 100000 in
theorem kb_X4_forgetAll_7 (C0 : gc cX4_forgetAll none 2 RX4 (dC, dI) (tyl cI cC cZ cB cJ) A p s m args meth c) : ∀ (n : Nat), ∀ (x1 : Int32) (pa_undoable : Int32) (pa_isKept : Nat → Int32) (H : Heap) (locs : List Loc) (ls : Array Slot), (wb_X4_forgetAll_7 post n) x1 pa_undoable pa_isKept → va_P (dC, dI) classes (wd_X4_forgetAll cI cC cZ cB cJ a_pa a_pa_cells a_pa_keptCells a_pa_isKept pa_undoable pa_free pa_isKept) H → va_D A (wd_X4_forgetAll cI cC cZ cB cJ a_pa a_pa_cells a_pa_keptCells a_pa_isKept pa_undoable pa_free pa_isKept) → va_S A s.heap H locs → lv_has ls 2 [(0, .ref a_pa), (1, .int x1)] → W p l e rm_X4_forgetAll s m args below meth c H locs 0 0 (MQ below (q_X4_forgetAll dC dI cI cC cZ cB cJ A a_pa a_pa_cells a_pa_keptCells a_pa_isKept pa_free post) args s 0 0 A) (F0 m 7 ls []) := by
  intro n
  induction n with
  | zero =>
    intro x1 pa_undoable pa_isKept H locs ls hp
    exact False.elim hp
  | succ n ih =>
    intro x1 pa_undoable pa_isKept H locs ls hp
    exact ks_X4_forgetAll_7 C0 ih x1 pa_undoable pa_isKept H locs ls hp
end S_X4_forgetAll
def wp_X4_forgetAll (post : Int32 → (Nat → Int32) → Prop) (pa_undoable : Int32) (pa_isKept : Nat → Int32) : Prop := ∃ n : Nat, wb_X4_forgetAll_7 post n 0 0 pa_isKept
set_option maxHeartbeats 4000000 in
set_option maxRecDepth 100000 in
theorem c_X4_forgetAll (l : Launch) (dC : Nat → ClassId) (dI : Nat → Nat → Nat) (cI cC cZ cB cJ : ClassId) (a_pa : Nat) (a_pa_cells : Nat) (a_pa_keptCells : Nat) (a_pa_isKept : Nat) (sz : Nat) (pa_undoable : Int32) (pa_free : Int32) (pa_isKept : Nat → Int32) (post : Int32 → (Nat → Int32) → Prop) (hw : wp_X4_forgetAll post pa_undoable pa_isKept) : Met l yX4_forgetAll (gw yX4_forgetAll cX4_forgetAll 2 none) rm_X4_forgetAll (va_Pc [.ref a_pa] (gPre (dC, dI) (tyl cI cC cZ cB cJ) (wd_X4_forgetAll cI cC cZ cB cJ a_pa a_pa_cells a_pa_keptCells a_pa_isKept pa_undoable pa_free pa_isKept) sz)) (q_X4_forgetAll dC dI cI cC cZ cB cJ (va_A (wd_X4_forgetAll cI cC cZ cB cJ a_pa a_pa_cells a_pa_keptCells a_pa_isKept pa_undoable pa_free pa_isKept) sz) a_pa a_pa_cells a_pa_keptCells a_pa_isKept pa_free post) 0 0 (va_A (wd_X4_forgetAll cI cC cZ cB cJ a_pa a_pa_cells a_pa_keptCells a_pa_isKept pa_undoable pa_free pa_isKept) sz) := by
  refine g_enter (own := RX4) (dC, dI) (tyl cI cC cZ cB cJ) (wd_X4_forgetAll cI cC cZ cB cJ a_pa a_pa_cells a_pa_keptCells a_pa_isKept pa_undoable pa_free pa_isKept) sz [.ref a_pa] (fun A => q_X4_forgetAll dC dI cI cC cZ cB cJ A a_pa a_pa_cells a_pa_keptCells a_pa_isKept pa_free post) (by decide) rfl (Nat.le_of_ble_eq_true rfl) ?_
  intro p e s m args below meth c A H locs ls C0 hP hD hS hl
  have hl : lv_has ls 2 [(0, .ref a_pa)] := hl
  obtain ⟨hx, hb, hr, hml, hown, hts, hlocks, hA, hK, hN, tL, tM, hZL, hTL, hZM, hTM, hZX⟩ := id C0
  have hp := hw
  unfold wp_X4_forgetAll at hp
  refine lv_aload_n hx hb eX4_forgetAll_0.1 rfl (lv_at hl 0 rfl) ?_
  refine lv_iconst (v := 0) hx hb eX4_forgetAll_0.2.1 (by decide) ?_
  refine va_put (D := (dC, dI)) (ci := 4) (v := .int 0) (ty := .int) (C := RX4) (T := TX4) (N := 5) hx hb hts i_X4 tyX4 tyX4_ok nmX4 hown hK hP hD hS 0 rfl rfl 3 (Nat.le_of_ble_eq_true rfl) (hts _ q_23) (fun _ h9 => h9) rfl (tyX4_ok 3 (Nat.le_of_ble_eq_true rfl)) rfl rfl (Nat.le_of_ble_eq_true rfl) eX4_forgetAll_0.2.2.1 (fun H locs hP hD hS => ?_)
  have hP : va_P (dC, dI) classes (wd_X4_forgetAll cI cC cZ cB cJ a_pa a_pa_cells a_pa_keptCells a_pa_isKept 0 pa_free pa_isKept) H := hP
  have hD : va_D A (wd_X4_forgetAll cI cC cZ cB cJ a_pa a_pa_cells a_pa_keptCells a_pa_isKept 0 pa_free pa_isKept) := hD
  refine lv_iconst (v := 0) hx hb eX4_forgetAll_0.2.2.2.1 (by decide) ?_
  refine lv_istore_n (lv' := [(1, .int 0), (0, .ref a_pa)]) hx hb eX4_forgetAll_0.2.2.2.2.1 rfl hl (by decide) rfl (fun ls hl => ?_)
  obtain ⟨n9, hp⟩ := hp
  exact kb_X4_forgetAll_7 C0 n9 0 0 pa_isKept H locs ls hp hP hD hS (lv_sub hl [1, 0] rfl)
abbrev wd_X8_clear (cI cC cZ cB cJ : ClassId) (a_tx : Nat) (a_tx_signs : Nat) (tx_length : Int32) (tx_place : Int32) (tx_stop : Int32) : va_W := [(a_tx, .inr (8, [.ref a_tx_signs, .int tx_length, .int tx_place, .int tx_stop]))]
abbrev q_X8_clear (dC : Nat → ClassId) (dI : Nat → Nat → Nat) (cI cC cZ cB cJ : ClassId) (A : Nat → Prop) (a_tx : Nat) (a_tx_signs : Nat) (tx_place : Int32) (tx_stop : Int32) (post : Int32 → Prop) : Array Value → State → Outcome → State → Prop := va_Qv (fun (u : Int32) => post u) (fun u t => gB (dC, dI) (tyl cI cC cZ cB cJ) A (wd_X8_clear cI cC cZ cB cJ a_tx a_tx_signs u tx_place tx_stop) t) A
abbrev rm_X8_clear : Room := { frames := 0, cells := 0, slots := 0, locals := 0 }
def wp_X8_clear (post : Int32 → Prop) (tx_length : Int32) : Prop := post 0
set_option maxHeartbeats 4000000 in
set_option maxRecDepth 100000 in
theorem c_X8_clear (l : Launch) (dC : Nat → ClassId) (dI : Nat → Nat → Nat) (cI cC cZ cB cJ : ClassId) (a_tx : Nat) (a_tx_signs : Nat) (sz : Nat) (tx_length : Int32) (tx_place : Int32) (tx_stop : Int32) (post : Int32 → Prop) (hw : wp_X8_clear post tx_length) : Met l yX8_clear (gw yX8_clear cX8_clear 1 none) rm_X8_clear (va_Pc [.ref a_tx] (gPre (dC, dI) (tyl cI cC cZ cB cJ) (wd_X8_clear cI cC cZ cB cJ a_tx a_tx_signs tx_length tx_place tx_stop) sz)) (q_X8_clear dC dI cI cC cZ cB cJ (va_A (wd_X8_clear cI cC cZ cB cJ a_tx a_tx_signs tx_length tx_place tx_stop) sz) a_tx a_tx_signs tx_place tx_stop post) 0 0 (va_A (wd_X8_clear cI cC cZ cB cJ a_tx a_tx_signs tx_length tx_place tx_stop) sz) := by
  refine g_enter (own := RX8) (dC, dI) (tyl cI cC cZ cB cJ) (wd_X8_clear cI cC cZ cB cJ a_tx a_tx_signs tx_length tx_place tx_stop) sz [.ref a_tx] (fun A => q_X8_clear dC dI cI cC cZ cB cJ A a_tx a_tx_signs tx_place tx_stop post) (by decide) rfl (Nat.le_of_ble_eq_true rfl) ?_
  intro p e s m args below meth c A H locs ls C0 hP hD hS hl
  have hl : lv_has ls 1 [(0, .ref a_tx)] := hl
  obtain ⟨hx, hb, hr, hml, hown, hts, hlocks, hA, hK, hN, tL, tM, hZL, hTL, hZM, hTM, hZX⟩ := id C0
  have hp := hw
  unfold wp_X8_clear at hp
  refine lv_aload_n hx hb eX8_clear_0.1 rfl (lv_at hl 0 rfl) ?_
  refine lv_iconst (v := 0) hx hb eX8_clear_0.2.1 (by decide) ?_
  refine va_put (D := (dC, dI)) (ci := 8) (v := .int 0) (ty := .int) (C := RX8) (T := TX8) (N := 4) hx hb hts i_X8 tyX8 tyX8_ok nmX8 hown hK hP hD hS 0 rfl rfl 1 (Nat.le_of_ble_eq_true rfl) (hts _ q_1) (fun _ h9 => h9) rfl (tyX8_ok 1 (Nat.le_of_ble_eq_true rfl)) rfl rfl (Nat.le_of_ble_eq_true rfl) eX8_clear_0.2.2.1 (fun H locs hP hD hS => ?_)
  have hP : va_P (dC, dI) classes (wd_X8_clear cI cC cZ cB cJ a_tx a_tx_signs 0 tx_place tx_stop) H := hP
  have hD : va_D A (wd_X8_clear cI cC cZ cB cJ a_tx a_tx_signs 0 tx_place tx_stop) := hD
  exact W.vret hx hb hr (fun t ht hW => ⟨⟨0, rfl, hp, by rw [ht]; exact hP, va_K.moved hW.alike hK, hD⟩, hS.F ht⟩) hS.2.2 eX8_clear_0.2.2.2
abbrev wd_X8_wrong (cI cC cZ cB cJ : ClassId) (a_tx : Nat) (a_tx_signs : Nat) (tx_length : Int32) (tx_place : Int32) (tx_stop : Int32) : va_W := [(a_tx, .inr (8, [.ref a_tx_signs, .int tx_length, .int tx_place, .int tx_stop]))]
abbrev q_X8_wrong (dC : Nat → ClassId) (dI : Nat → Nat → Nat) (cI cC cZ cB cJ : ClassId) (A : Nat → Prop) (a_tx : Nat) (a_tx_signs : Nat) (tx_length : Int32) (tx_place : Int32) (tx_stop : Int32) (post : Int32 → Prop) : Array Value → State → Outcome → State → Prop := va_Qi (fun (r : Int32) (u : Unit) => post r) (fun u t => gB (dC, dI) (tyl cI cC cZ cB cJ) A (wd_X8_wrong cI cC cZ cB cJ a_tx a_tx_signs tx_length tx_place tx_stop) t) A
abbrev rm_X8_wrong : Room := { frames := 0, cells := 0, slots := 0, locals := 0 }
def wp_X8_wrong (post : Int32 → Prop) (tx_place : Int32) : Prop := post ((-1) - tx_place)
set_option maxHeartbeats 4000000 in
set_option maxRecDepth 100000 in
theorem c_X8_wrong (l : Launch) (dC : Nat → ClassId) (dI : Nat → Nat → Nat) (cI cC cZ cB cJ : ClassId) (a_tx : Nat) (a_tx_signs : Nat) (sz : Nat) (tx_length : Int32) (tx_place : Int32) (tx_stop : Int32) (post : Int32 → Prop) (hw : wp_X8_wrong post tx_place) : Met l yX8_wrong (gw yX8_wrong cX8_wrong 1 (some .int)) rm_X8_wrong (va_Pc [.ref a_tx] (gPre (dC, dI) (tyl cI cC cZ cB cJ) (wd_X8_wrong cI cC cZ cB cJ a_tx a_tx_signs tx_length tx_place tx_stop) sz)) (q_X8_wrong dC dI cI cC cZ cB cJ (va_A (wd_X8_wrong cI cC cZ cB cJ a_tx a_tx_signs tx_length tx_place tx_stop) sz) a_tx a_tx_signs tx_length tx_place tx_stop post) 0 0 (va_A (wd_X8_wrong cI cC cZ cB cJ a_tx a_tx_signs tx_length tx_place tx_stop) sz) := by
  refine g_enter (own := RX8) (dC, dI) (tyl cI cC cZ cB cJ) (wd_X8_wrong cI cC cZ cB cJ a_tx a_tx_signs tx_length tx_place tx_stop) sz [.ref a_tx] (fun A => q_X8_wrong dC dI cI cC cZ cB cJ A a_tx a_tx_signs tx_length tx_place tx_stop post) (by decide) rfl (Nat.le_of_ble_eq_true rfl) ?_
  intro p e s m args below meth c A H locs ls C0 hP hD hS hl
  have hl : lv_has ls 1 [(0, .ref a_tx)] := hl
  obtain ⟨hx, hb, hr, hml, hown, hts, hlocks, hA, hK, hN, tL, tM, hZL, hTL, hZM, hTM, hZX⟩ := id C0
  have hp := hw
  unfold wp_X8_wrong at hp
  refine lv_iconst (v := (-1)) hx hb eX8_wrong_0.1 (by decide) ?_
  refine lv_aload_n hx hb eX8_wrong_0.2.1 rfl (lv_at hl 0 rfl) ?_
  refine va_get (D := (dC, dI)) (ci := 8) (v := .int tx_place) (C := RX8) (T := TX8) (N := 4) hx hb hts i_X8 hown hK hP 0 rfl rfl 2 (Nat.le_of_ble_eq_true rfl) (hts _ q_13) (fun _ h9 => h9) rfl eX8_wrong_0.2.2.1 ?_
  refine lv_isub hx hb eX8_wrong_0.2.2.2.1 ?_
  exact W.iret (v := (-1) - tx_place) hx hb hr (fun t ht hW => ⟨⟨(-1) - tx_place, (), rfl, hp, by rw [ht]; exact hP, va_K.moved hW.alike hK, hD⟩, hS.F ht⟩) hS.2.2 eX8_wrong_0.2.2.2.2
abbrev wd_X8_here (cI cC cZ cB cJ : ClassId) (a_tx : Nat) (a_tx_signs : Nat) (tx_length : Int32) (tx_place : Int32) (tx_stop : Int32) (tx_signs : Nat → Int32) : va_W := [(a_tx, .inr (8, [.ref a_tx_signs, .int tx_length, .int tx_place, .int tx_stop])), (a_tx_signs, .inl (cC, 80, .inl tx_signs))]
abbrev q_X8_here (dC : Nat → ClassId) (dI : Nat → Nat → Nat) (cI cC cZ cB cJ : ClassId) (A : Nat → Prop) (a_tx : Nat) (a_tx_signs : Nat) (tx_length : Int32) (tx_place : Int32) (tx_stop : Int32) (tx_signs : Nat → Int32) (post : Int32 → Prop) : Array Value → State → Outcome → State → Prop := va_Qi (fun (r : Int32) (u : Unit) => post r) (fun u t => gB (dC, dI) (tyl cI cC cZ cB cJ) A (wd_X8_here cI cC cZ cB cJ a_tx a_tx_signs tx_length tx_place tx_stop tx_signs) t) A
abbrev rm_X8_here : Room := { frames := 0, cells := 0, slots := 0, locals := 0 }
def wp_X8_here (post : Int32 → Prop) (tx_place : Int32) (tx_stop : Int32) (tx_signs : Nat → Int32) : Prop := (tx_stop ≤ tx_place → post (-1)) ∧ (¬ tx_stop ≤ tx_place → vp_in tx_place 80 ∧ (∀ v_1 : Int32, v_1 = tx_signs tx_place.toNatClampNeg → post v_1))
set_option maxHeartbeats 4000000 in
set_option maxRecDepth 100000 in
theorem c_X8_here (l : Launch) (dC : Nat → ClassId) (dI : Nat → Nat → Nat) (cI cC cZ cB cJ : ClassId) (a_tx : Nat) (a_tx_signs : Nat) (sz : Nat) (tx_length : Int32) (tx_place : Int32) (tx_stop : Int32) (tx_signs : Nat → Int32) (post : Int32 → Prop) (hw : wp_X8_here post tx_place tx_stop tx_signs) : Met l yX8_here (gw yX8_here cX8_here 1 (some .int)) rm_X8_here (va_Pc [.ref a_tx] (gPre (dC, dI) (tyl cI cC cZ cB cJ) (wd_X8_here cI cC cZ cB cJ a_tx a_tx_signs tx_length tx_place tx_stop tx_signs) sz)) (q_X8_here dC dI cI cC cZ cB cJ (va_A (wd_X8_here cI cC cZ cB cJ a_tx a_tx_signs tx_length tx_place tx_stop tx_signs) sz) a_tx a_tx_signs tx_length tx_place tx_stop tx_signs post) 0 0 (va_A (wd_X8_here cI cC cZ cB cJ a_tx a_tx_signs tx_length tx_place tx_stop tx_signs) sz) := by
  refine g_enter (own := RX8) (dC, dI) (tyl cI cC cZ cB cJ) (wd_X8_here cI cC cZ cB cJ a_tx a_tx_signs tx_length tx_place tx_stop tx_signs) sz [.ref a_tx] (fun A => q_X8_here dC dI cI cC cZ cB cJ A a_tx a_tx_signs tx_length tx_place tx_stop tx_signs post) (by decide) rfl (Nat.le_of_ble_eq_true rfl) ?_
  intro p e s m args below meth c A H locs ls C0 hP hD hS hl
  have hl : lv_has ls 1 [(0, .ref a_tx)] := hl
  obtain ⟨hx, hb, hr, hml, hown, hts, hlocks, hA, hK, hN, tL, tM, hZL, hTL, hZM, hTM, hZX⟩ := id C0
  have hp := hw
  unfold wp_X8_here at hp
  refine lv_aload_n hx hb eX8_here_0.1 rfl (lv_at hl 0 rfl) ?_
  refine va_get (D := (dC, dI)) (ci := 8) (v := .int tx_place) (C := RX8) (T := TX8) (N := 4) hx hb hts i_X8 hown hK hP 0 rfl rfl 2 (Nat.le_of_ble_eq_true rfl) (hts _ q_13) (fun _ h9 => h9) rfl eX8_here_0.2.1 ?_
  refine lv_aload_n hx hb eX8_here_0.2.2.1 rfl (lv_at hl 0 rfl) ?_
  refine va_get (D := (dC, dI)) (ci := 8) (v := .int tx_stop) (C := RX8) (T := TX8) (N := 4) hx hb hts i_X8 hown hK hP 0 rfl rfl 3 (Nat.le_of_ble_eq_true rfl) (hts _ q_18) (fun _ h9 => h9) rfl eX8_here_0.2.2.2.1 ?_
  refine lv_icmp_ge (tgt := 23) hx hb eX8_here_0.2.2.2.2.1 (by decide) (fun hc => ?_) (fun hc => ?_)
  · have hp := hp.1 hc
    refine lv_iconst (v := (-1)) hx hb eX8_here_0.2.2.2.2.2.2.2.2.2.2.2.1 (by decide) ?_
    exact W.iret (v := (-1)) hx hb hr (fun t ht hW => ⟨⟨(-1), (), rfl, hp, by rw [ht]; exact hP, va_K.moved hW.alike hK, hD⟩, hS.F ht⟩) hS.2.2 eX8_here_0.2.2.2.2.2.2.2.2.2.2.2.2
  · have hp := hp.2 hc
    refine lv_aload_n hx hb eX8_here_0.2.2.2.2.2.1 rfl (lv_at hl 0 rfl) ?_
    refine va_get (D := (dC, dI)) (ci := 8) (v := .ref a_tx_signs) (C := RX8) (T := TX8) (N := 4) hx hb hts i_X8 hown hK hP 0 rfl rfl 0 (Nat.le_of_ble_eq_true rfl) (hts _ q_2) (fun _ h9 => h9) rfl eX8_here_0.2.2.2.2.2.2.1 ?_
    refine lv_aload_n hx hb eX8_here_0.2.2.2.2.2.2.2.1 rfl (lv_at hl 0 rfl) ?_
    refine va_get (D := (dC, dI)) (ci := 8) (v := .int tx_place) (C := RX8) (T := TX8) (N := 4) hx hb hts i_X8 hown hK hP 0 rfl rfl 2 (Nat.le_of_ble_eq_true rfl) (hts _ q_13) (fun _ h9 => h9) rfl eX8_here_0.2.2.2.2.2.2.2.2.1 ?_
    have hin := hp.1
    have hp := hp.2
    refine va_cald hx hb hK hP 1 1 rfl rfl hin eX8_here_0.2.2.2.2.2.2.2.2.2.1 ?_
    refine lv_topi (fun v_1 ev_1 => ?_)
    have hp := hp v_1 ev_1
    refine lv_goto (tgt := 24) hx hb eX8_here_0.2.2.2.2.2.2.2.2.2.2.1 (by decide) ?_
    exact W.iret (v := v_1) hx hb hr (fun t ht hW => ⟨⟨v_1, (), rfl, hp, by rw [ht]; exact hP, va_K.moved hW.alike hK, hD⟩, hS.F ht⟩) hS.2.2 eX8_here_0.2.2.2.2.2.2.2.2.2.2.2.2
abbrev wd_X8_skip (cI cC cZ cB cJ : ClassId) (a_tx : Nat) (a_tx_signs : Nat) (tx_length : Int32) (tx_place : Int32) (tx_stop : Int32) : va_W := [(a_tx, .inr (8, [.ref a_tx_signs, .int tx_length, .int tx_place, .int tx_stop]))]
abbrev q_X8_skip (dC : Nat → ClassId) (dI : Nat → Nat → Nat) (cI cC cZ cB cJ : ClassId) (A : Nat → Prop) (a_tx : Nat) (a_tx_signs : Nat) (tx_length : Int32) (tx_stop : Int32) (post : Int32 → Prop) : Array Value → State → Outcome → State → Prop := va_Qv (fun (u : Int32) => post u) (fun u t => gB (dC, dI) (tyl cI cC cZ cB cJ) A (wd_X8_skip cI cC cZ cB cJ a_tx a_tx_signs tx_length u tx_stop) t) A
abbrev rm_X8_skip : Room := { frames := 0, cells := 0, slots := 0, locals := 0 }
def wp_X8_skip (post : Int32 → Prop) (tx_place : Int32) (tx_stop : Int32) : Prop := (tx_stop ≤ tx_place → post tx_place) ∧ (¬ tx_stop ≤ tx_place → ∀ v_1 : Int32, v_1 = tx_place + 1 → post v_1)
set_option maxHeartbeats 4000000 in
set_option maxRecDepth 100000 in
theorem c_X8_skip (l : Launch) (dC : Nat → ClassId) (dI : Nat → Nat → Nat) (cI cC cZ cB cJ : ClassId) (a_tx : Nat) (a_tx_signs : Nat) (sz : Nat) (tx_length : Int32) (tx_place : Int32) (tx_stop : Int32) (post : Int32 → Prop) (hw : wp_X8_skip post tx_place tx_stop) : Met l yX8_skip (gw yX8_skip cX8_skip 1 none) rm_X8_skip (va_Pc [.ref a_tx] (gPre (dC, dI) (tyl cI cC cZ cB cJ) (wd_X8_skip cI cC cZ cB cJ a_tx a_tx_signs tx_length tx_place tx_stop) sz)) (q_X8_skip dC dI cI cC cZ cB cJ (va_A (wd_X8_skip cI cC cZ cB cJ a_tx a_tx_signs tx_length tx_place tx_stop) sz) a_tx a_tx_signs tx_length tx_stop post) 0 0 (va_A (wd_X8_skip cI cC cZ cB cJ a_tx a_tx_signs tx_length tx_place tx_stop) sz) := by
  refine g_enter (own := RX8) (dC, dI) (tyl cI cC cZ cB cJ) (wd_X8_skip cI cC cZ cB cJ a_tx a_tx_signs tx_length tx_place tx_stop) sz [.ref a_tx] (fun A => q_X8_skip dC dI cI cC cZ cB cJ A a_tx a_tx_signs tx_length tx_stop post) (by decide) rfl (Nat.le_of_ble_eq_true rfl) ?_
  intro p e s m args below meth c A H locs ls C0 hP hD hS hl
  have hl : lv_has ls 1 [(0, .ref a_tx)] := hl
  obtain ⟨hx, hb, hr, hml, hown, hts, hlocks, hA, hK, hN, tL, tM, hZL, hTL, hZM, hTM, hZX⟩ := id C0
  have hp := hw
  unfold wp_X8_skip at hp
  refine lv_aload_n hx hb eX8_skip_0.1 rfl (lv_at hl 0 rfl) ?_
  refine va_get (D := (dC, dI)) (ci := 8) (v := .int tx_place) (C := RX8) (T := TX8) (N := 4) hx hb hts i_X8 hown hK hP 0 rfl rfl 2 (Nat.le_of_ble_eq_true rfl) (hts _ q_13) (fun _ h9 => h9) rfl eX8_skip_0.2.1 ?_
  refine lv_aload_n hx hb eX8_skip_0.2.2.1 rfl (lv_at hl 0 rfl) ?_
  refine va_get (D := (dC, dI)) (ci := 8) (v := .int tx_stop) (C := RX8) (T := TX8) (N := 4) hx hb hts i_X8 hown hK hP 0 rfl rfl 3 (Nat.le_of_ble_eq_true rfl) (hts _ q_18) (fun _ h9 => h9) rfl eX8_skip_0.2.2.2.1 ?_
  refine lv_icmp_ge (tgt := 21) hx hb eX8_skip_0.2.2.2.2.1 (by decide) (fun hc => ?_) (fun hc => ?_)
  · have hp := hp.1 hc
    exact W.vret hx hb hr (fun t ht hW => ⟨⟨tx_place, rfl, hp, by rw [ht]; exact hP, va_K.moved hW.alike hK, hD⟩, hS.F ht⟩) hS.2.2 eX8_skip_0.2.2.2.2.2.2.2.2.2.2.2
  · have hp := hp.2 hc
    refine lv_aload_n hx hb eX8_skip_0.2.2.2.2.2.1 rfl (lv_at hl 0 rfl) ?_
    refine lv_dup hx hb eX8_skip_0.2.2.2.2.2.2.1 rfl ?_
    refine va_get (D := (dC, dI)) (ci := 8) (v := .int tx_place) (C := RX8) (T := TX8) (N := 4) hx hb hts i_X8 hown hK hP 0 rfl rfl 2 (Nat.le_of_ble_eq_true rfl) (hts _ q_13) (fun _ h9 => h9) rfl eX8_skip_0.2.2.2.2.2.2.2.1 ?_
    refine lv_iconst (v := 1) hx hb eX8_skip_0.2.2.2.2.2.2.2.2.1 (by decide) ?_
    refine lv_iadd hx hb eX8_skip_0.2.2.2.2.2.2.2.2.2.1 ?_
    refine lv_topi (fun v_1 ev_1 => ?_)
    have hp := hp v_1 ev_1
    refine va_put (D := (dC, dI)) (ci := 8) (v := .int v_1) (ty := .int) (C := RX8) (T := TX8) (N := 4) hx hb hts i_X8 tyX8 tyX8_ok nmX8 hown hK hP hD hS 0 rfl rfl 2 (Nat.le_of_ble_eq_true rfl) (hts _ q_13) (fun _ h9 => h9) rfl (tyX8_ok 2 (Nat.le_of_ble_eq_true rfl)) rfl rfl (Nat.le_of_ble_eq_true rfl) eX8_skip_0.2.2.2.2.2.2.2.2.2.2.1 (fun H locs hP hD hS => ?_)
    have hP : va_P (dC, dI) classes (wd_X8_skip cI cC cZ cB cJ a_tx a_tx_signs tx_length v_1 tx_stop) H := hP
    have hD : va_D A (wd_X8_skip cI cC cZ cB cJ a_tx a_tx_signs tx_length v_1 tx_stop) := hD
    exact W.vret hx hb hr (fun t ht hW => ⟨⟨v_1, rfl, hp, by rw [ht]; exact hP, va_K.moved hW.alike hK, hD⟩, hS.F ht⟩) hS.2.2 eX8_skip_0.2.2.2.2.2.2.2.2.2.2.2
abbrev wd_X8_digitHere (cI cC cZ cB cJ : ClassId) (a_tx : Nat) (a_tx_signs : Nat) (tx_length : Int32) (tx_place : Int32) (tx_stop : Int32) (tx_signs : Nat → Int32) : va_W := [(a_tx, .inr (8, [.ref a_tx_signs, .int tx_length, .int tx_place, .int tx_stop])), (a_tx_signs, .inl (cC, 80, .inl tx_signs))]
abbrev q_X8_digitHere (dC : Nat → ClassId) (dI : Nat → Nat → Nat) (cI cC cZ cB cJ : ClassId) (A : Nat → Prop) (a_tx : Nat) (a_tx_signs : Nat) (tx_length : Int32) (tx_place : Int32) (tx_stop : Int32) (tx_signs : Nat → Int32) (post : Int32 → Prop) : Array Value → State → Outcome → State → Prop := va_Qi (fun (r : Int32) (u : Unit) => post r) (fun u t => gB (dC, dI) (tyl cI cC cZ cB cJ) A (wd_X8_digitHere cI cC cZ cB cJ a_tx a_tx_signs tx_length tx_place tx_stop tx_signs) t) A
abbrev rm_X8_digitHere : Room := { frames := 0, cells := 0, slots := 0, locals := 0 }
section S_X8_digitHere
variable {p : Program} {l : Launch} {e : Env} {s : State} {m : MethodId} {args : Array Value} {below : List Frame} {meth : Method} {c : Code} {dC : Nat → ClassId} {dI : Nat → Nat → Nat} {cI cC cZ cB cJ : ClassId} {A : Nat → Prop} {a_tx : Nat} {a_tx_signs : Nat} {tx_length : Int32} {tx_place : Int32} {tx_stop : Int32} {tx_signs : Nat → Int32} {post : Int32 → Prop}
def ws_X8_digitHere_24 (post : Int32 → Prop) (tx_place : Int32) (tx_stop : Int32) (tx_signs : Nat → Int32) (k0 : Int32) : Prop := (k0 < 48 → post (-1)) ∧ (¬ k0 < 48 → (57 < k0 → post (-1)) ∧ (¬ 57 < k0 → ∀ v_1 : Int32, v_1 = k0 - 48 → post v_1))
set_option maxHeartbeats 4000000 in
set_option maxRecDepth 100000 in
theorem ks_X8_digitHere_24 (C0 : gc cX8_digitHere (some .int) 2 RX8 (dC, dI) (tyl cI cC cZ cB cJ) A p s m args meth c) : ∀ (k0 : Int32) (H : Heap) (locs : List Loc) (ls : Array Slot), (ws_X8_digitHere_24 post tx_place tx_stop tx_signs) k0 → va_P (dC, dI) classes (wd_X8_digitHere cI cC cZ cB cJ a_tx a_tx_signs tx_length tx_place tx_stop tx_signs) H → va_D A (wd_X8_digitHere cI cC cZ cB cJ a_tx a_tx_signs tx_length tx_place tx_stop tx_signs) → va_S A s.heap H locs → lv_has ls 2 [] → W p l e rm_X8_digitHere s m args below meth c H locs 0 0 (MQ below (q_X8_digitHere dC dI cI cC cZ cB cJ A a_tx a_tx_signs tx_length tx_place tx_stop tx_signs post) args s 0 0 A) (F0 m 24 ls [.int k0]) := by
  obtain ⟨hx, hb, hr, hml, hown, hts, hlocks, hA, hK, hN, tL, tM, hZL, hTL, hZM, hTM, hZX⟩ := id C0
  intro k0 H locs ls hp hP hD hS hl
  unfold ws_X8_digitHere_24 at hp
  refine lv_istore_n (lv' := [(1, .int k0)]) hx hb eX8_digitHere_0.2.2.2.2.2.2.2.2.2.2.2.2.1 rfl hl (by decide) rfl (fun ls hl => ?_)
  refine lv_iload_n hx hb eX8_digitHere_0.2.2.2.2.2.2.2.2.2.2.2.2.2.1 rfl (lv_at hl 0 rfl) ?_
  refine lv_bipush (v := 48) hx hb eX8_digitHere_0.2.2.2.2.2.2.2.2.2.2.2.2.2.2.1 (by decide) ?_
  refine lv_icmp_lt (tgt := 44) hx hb eX8_digitHere_0.2.2.2.2.2.2.2.2.2.2.2.2.2.2.2 (by decide) (fun hc => ?_) (fun hc => ?_)
  · have hp := hp.1 hc
    refine lv_iconst (v := (-1)) hx hb eX8_digitHere_31.2.2.2.2.2.2.2.1 (by decide) ?_
    exact W.iret (v := (-1)) hx hb hr (fun t ht hW => ⟨⟨(-1), (), rfl, hp, by rw [ht]; exact hP, va_K.moved hW.alike hK, hD⟩, hS.F ht⟩) hS.2.2 eX8_digitHere_31.2.2.2.2.2.2.2.2
  · have hp := hp.2 hc
    refine lv_iload_n hx hb eX8_digitHere_31.1 rfl (lv_at hl 0 rfl) ?_
    refine lv_bipush (v := 57) hx hb eX8_digitHere_31.2.1 (by decide) ?_
    refine lv_icmp_gt (tgt := 44) hx hb eX8_digitHere_31.2.2.1 (by decide) (fun hc => ?_) (fun hc => ?_)
    · have hp := hp.1 hc
      refine lv_iconst (v := (-1)) hx hb eX8_digitHere_31.2.2.2.2.2.2.2.1 (by decide) ?_
      exact W.iret (v := (-1)) hx hb hr (fun t ht hW => ⟨⟨(-1), (), rfl, hp, by rw [ht]; exact hP, va_K.moved hW.alike hK, hD⟩, hS.F ht⟩) hS.2.2 eX8_digitHere_31.2.2.2.2.2.2.2.2
    · have hp := hp.2 hc
      refine lv_iload_n hx hb eX8_digitHere_31.2.2.2.1 rfl (lv_at hl 0 rfl) ?_
      refine lv_bipush (v := 48) hx hb eX8_digitHere_31.2.2.2.2.1 (by decide) ?_
      refine lv_isub hx hb eX8_digitHere_31.2.2.2.2.2.1 ?_
      refine lv_topi (fun v_1 ev_1 => ?_)
      have hp := hp v_1 ev_1
      refine lv_goto (tgt := 45) hx hb eX8_digitHere_31.2.2.2.2.2.2.1 (by decide) ?_
      exact W.iret (v := v_1) hx hb hr (fun t ht hW => ⟨⟨v_1, (), rfl, hp, by rw [ht]; exact hP, va_K.moved hW.alike hK, hD⟩, hS.F ht⟩) hS.2.2 eX8_digitHere_31.2.2.2.2.2.2.2.2
end S_X8_digitHere
def wp_X8_digitHere (post : Int32 → Prop) (tx_place : Int32) (tx_stop : Int32) (tx_signs : Nat → Int32) : Prop := (tx_stop ≤ tx_place → ws_X8_digitHere_24 post tx_place tx_stop tx_signs (-1)) ∧ (¬ tx_stop ≤ tx_place → vp_in tx_place 80 ∧ (∀ v_2 : Int32, v_2 = tx_signs tx_place.toNatClampNeg → ws_X8_digitHere_24 post tx_place tx_stop tx_signs v_2))
set_option maxHeartbeats 4000000 in
set_option maxRecDepth 100000 in
theorem c_X8_digitHere (l : Launch) (dC : Nat → ClassId) (dI : Nat → Nat → Nat) (cI cC cZ cB cJ : ClassId) (a_tx : Nat) (a_tx_signs : Nat) (sz : Nat) (tx_length : Int32) (tx_place : Int32) (tx_stop : Int32) (tx_signs : Nat → Int32) (post : Int32 → Prop) (hw : wp_X8_digitHere post tx_place tx_stop tx_signs) : Met l yX8_digitHere (gw yX8_digitHere cX8_digitHere 2 (some .int)) rm_X8_digitHere (va_Pc [.ref a_tx] (gPre (dC, dI) (tyl cI cC cZ cB cJ) (wd_X8_digitHere cI cC cZ cB cJ a_tx a_tx_signs tx_length tx_place tx_stop tx_signs) sz)) (q_X8_digitHere dC dI cI cC cZ cB cJ (va_A (wd_X8_digitHere cI cC cZ cB cJ a_tx a_tx_signs tx_length tx_place tx_stop tx_signs) sz) a_tx a_tx_signs tx_length tx_place tx_stop tx_signs post) 0 0 (va_A (wd_X8_digitHere cI cC cZ cB cJ a_tx a_tx_signs tx_length tx_place tx_stop tx_signs) sz) := by
  refine g_enter (own := RX8) (dC, dI) (tyl cI cC cZ cB cJ) (wd_X8_digitHere cI cC cZ cB cJ a_tx a_tx_signs tx_length tx_place tx_stop tx_signs) sz [.ref a_tx] (fun A => q_X8_digitHere dC dI cI cC cZ cB cJ A a_tx a_tx_signs tx_length tx_place tx_stop tx_signs post) (by decide) rfl (Nat.le_of_ble_eq_true rfl) ?_
  intro p e s m args below meth c A H locs ls C0 hP hD hS hl
  have hl : lv_has ls 2 [(0, .ref a_tx)] := hl
  obtain ⟨hx, hb, hr, hml, hown, hts, hlocks, hA, hK, hN, tL, tM, hZL, hTL, hZM, hTM, hZX⟩ := id C0
  have hp := hw
  unfold wp_X8_digitHere at hp
  refine lv_aload_n hx hb eX8_digitHere_0.1 rfl (lv_at hl 0 rfl) ?_
  refine va_get (D := (dC, dI)) (ci := 8) (v := .int tx_place) (C := RX8) (T := TX8) (N := 4) hx hb hts i_X8 hown hK hP 0 rfl rfl 2 (Nat.le_of_ble_eq_true rfl) (hts _ q_13) (fun _ h9 => h9) rfl eX8_digitHere_0.2.1 ?_
  refine lv_aload_n hx hb eX8_digitHere_0.2.2.1 rfl (lv_at hl 0 rfl) ?_
  refine va_get (D := (dC, dI)) (ci := 8) (v := .int tx_stop) (C := RX8) (T := TX8) (N := 4) hx hb hts i_X8 hown hK hP 0 rfl rfl 3 (Nat.le_of_ble_eq_true rfl) (hts _ q_18) (fun _ h9 => h9) rfl eX8_digitHere_0.2.2.2.1 ?_
  refine lv_icmp_ge (tgt := 23) hx hb eX8_digitHere_0.2.2.2.2.1 (by decide) (fun hc => ?_) (fun hc => ?_)
  · have hp := hp.1 hc
    refine lv_iconst (v := (-1)) hx hb eX8_digitHere_0.2.2.2.2.2.2.2.2.2.2.2.1 (by decide) ?_
    exact ks_X8_digitHere_24 C0 (-1) H locs ls hp hP hD hS (lv_sub hl [] rfl)
  · have hp := hp.2 hc
    refine lv_aload_n hx hb eX8_digitHere_0.2.2.2.2.2.1 rfl (lv_at hl 0 rfl) ?_
    refine va_get (D := (dC, dI)) (ci := 8) (v := .ref a_tx_signs) (C := RX8) (T := TX8) (N := 4) hx hb hts i_X8 hown hK hP 0 rfl rfl 0 (Nat.le_of_ble_eq_true rfl) (hts _ q_2) (fun _ h9 => h9) rfl eX8_digitHere_0.2.2.2.2.2.2.1 ?_
    refine lv_aload_n hx hb eX8_digitHere_0.2.2.2.2.2.2.2.1 rfl (lv_at hl 0 rfl) ?_
    refine va_get (D := (dC, dI)) (ci := 8) (v := .int tx_place) (C := RX8) (T := TX8) (N := 4) hx hb hts i_X8 hown hK hP 0 rfl rfl 2 (Nat.le_of_ble_eq_true rfl) (hts _ q_13) (fun _ h9 => h9) rfl eX8_digitHere_0.2.2.2.2.2.2.2.2.1 ?_
    have hin := hp.1
    have hp := hp.2
    refine va_cald hx hb hK hP 1 1 rfl rfl hin eX8_digitHere_0.2.2.2.2.2.2.2.2.2.1 ?_
    refine lv_topi (fun v_2 ev_2 => ?_)
    have hp := hp v_2 ev_2
    refine lv_goto (tgt := 24) hx hb eX8_digitHere_0.2.2.2.2.2.2.2.2.2.2.1 (by decide) ?_
    exact ks_X8_digitHere_24 C0 v_2 H locs ls hp hP hD hS (lv_sub hl [] rfl)
abbrev wd_X8_readNumber (cI cC cZ cB cJ : ClassId) (a_tx : Nat) (a_tx_signs : Nat) (tx_length : Int32) (tx_place : Int32) (tx_stop : Int32) (tx_signs : Nat → Int32) : va_W := [(a_tx, .inr (8, [.ref a_tx_signs, .int tx_length, .int tx_place, .int tx_stop])), (a_tx_signs, .inl (cC, 80, .inl tx_signs))]
abbrev q_X8_readNumber (dC : Nat → ClassId) (dI : Nat → Nat → Nat) (cI cC cZ cB cJ : ClassId) (A : Nat → Prop) (a_tx : Nat) (a_tx_signs : Nat) (tx_length : Int32) (tx_stop : Int32) (tx_signs : Nat → Int32) (post : Int32 → Int32 → Prop) : Array Value → State → Outcome → State → Prop := va_Qi (fun (r : Int32) (u : Int32) => post r u) (fun u t => gB (dC, dI) (tyl cI cC cZ cB cJ) A (wd_X8_readNumber cI cC cZ cB cJ a_tx a_tx_signs tx_length u tx_stop tx_signs) t) A
abbrev rm_X8_readNumber : Room := { frames := 1, cells := 0, slots := 0, locals := 21 }
section S_X8_readNumber
variable {p : Program} {l : Launch} {e : Env} {s : State} {m : MethodId} {args : Array Value} {below : List Frame} {meth : Method} {c : Code} {dC : Nat → ClassId} {dI : Nat → Nat → Nat} {cI cC cZ cB cJ : ClassId} {A : Nat → Prop} {a_tx : Nat} {a_tx_signs : Nat} {tx_length : Int32} {tx_stop : Int32} {tx_signs : Nat → Int32} {post : Int32 → Int32 → Prop}
def ws_X8_readNumber_18 (post : Int32 → Int32 → Prop) (next : Int32 → Int32 → Int32 → Int32 → Prop) (tx_stop : Int32) (tx_signs : Nat → Int32) (x1 : Int32) (x2 : Int32) (x3 : Int32) (tx_place : Int32) : Prop := (x1 ≤ x3 → post x2 tx_place) ∧ (¬ x1 ≤ x3 → wp_X8_digitHere (fun r_3 => (¬ r_3 = (-1) → ∀ v_4 : Int32, v_4 = x2 * 10 → ∀ v_5 : Int32, v_5 = v_4 + r_3 → wp_X8_skip (fun tx_place_6 => ∀ v_7 : Int32, v_7 = x3 + 1 → next x1 v_5 v_7 tx_place_6) tx_place tx_stop) ∧ (r_3 = (-1) → post x2 tx_place)) tx_place tx_stop tx_signs)
noncomputable def wb_X8_readNumber_18 (post : Int32 → Int32 → Prop) (tx_stop : Int32) (tx_signs : Nat → Int32) : Nat → Int32 → Int32 → Int32 → Int32 → Prop := fun n => Nat.rec (motive := fun _ => Int32 → Int32 → Int32 → Int32 → Prop) (fun _ _ _ _ => False) (fun _ ih => ws_X8_readNumber_18 post ih tx_stop tx_signs) n
set_option maxHeartbeats 4000000 in
set_option maxRecDepth 100000 in
theorem ks_X8_readNumber_18 (C0 : gc cX8_readNumber (some .int) 5 RX8 (dC, dI) (tyl cI cC cZ cB cJ) A p s m args meth c) {next : Int32 → Int32 → Int32 → Int32 → Prop} (hKn : ∀ (x1 : Int32) (x2 : Int32) (x3 : Int32) (tx_place : Int32) (H : Heap) (locs : List Loc) (ls : Array Slot), next x1 x2 x3 tx_place → va_P (dC, dI) classes (wd_X8_readNumber cI cC cZ cB cJ a_tx a_tx_signs tx_length tx_place tx_stop tx_signs) H → va_D A (wd_X8_readNumber cI cC cZ cB cJ a_tx a_tx_signs tx_length tx_place tx_stop tx_signs) → va_S A s.heap H locs → lv_has ls 5 [(0, .ref a_tx), (1, .int x1), (2, .int x2), (3, .int x3)] → W p l e rm_X8_readNumber s m args below meth c H locs 0 0 (MQ below (q_X8_readNumber dC dI cI cC cZ cB cJ A a_tx a_tx_signs tx_length tx_stop tx_signs post) args s 0 0 A) (F0 m 18 ls [])) : ∀ (x1 : Int32) (x2 : Int32) (x3 : Int32) (tx_place : Int32) (H : Heap) (locs : List Loc) (ls : Array Slot), (ws_X8_readNumber_18 post next tx_stop tx_signs) x1 x2 x3 tx_place → va_P (dC, dI) classes (wd_X8_readNumber cI cC cZ cB cJ a_tx a_tx_signs tx_length tx_place tx_stop tx_signs) H → va_D A (wd_X8_readNumber cI cC cZ cB cJ a_tx a_tx_signs tx_length tx_place tx_stop tx_signs) → va_S A s.heap H locs → lv_has ls 5 [(0, .ref a_tx), (1, .int x1), (2, .int x2), (3, .int x3)] → W p l e rm_X8_readNumber s m args below meth c H locs 0 0 (MQ below (q_X8_readNumber dC dI cI cC cZ cB cJ A a_tx a_tx_signs tx_length tx_stop tx_signs post) args s 0 0 A) (F0 m 18 ls []) := by
  obtain ⟨hx, hb, hr, hml, hown, hts, hlocks, hA, hK, hN, tL, tM, hZL, hTL, hZM, hTM, hZX⟩ := id C0
  intro x1 x2 x3 tx_place H locs ls hp hP hD hS hl
  unfold ws_X8_readNumber_18 at hp
  refine lv_iload_n hx hb eX8_readNumber_0.2.2.2.2.2.2.2.2.2.2.2.2.1 rfl (lv_at hl 3 rfl) ?_
  refine lv_iload_n hx hb eX8_readNumber_0.2.2.2.2.2.2.2.2.2.2.2.2.2.1 rfl (lv_at hl 1 rfl) ?_
  refine lv_icmp_ge (tgt := 56) hx hb eX8_readNumber_0.2.2.2.2.2.2.2.2.2.2.2.2.2.2.1 (by decide) (fun hc => ?_) (fun hc => ?_)
  · have hp := hp.1 hc
    refine lv_iload_n hx hb eX8_readNumber_56.1 rfl (lv_at hl 2 rfl) ?_
    exact W.iret (v := x2) hx hb hr (fun t ht hW => ⟨⟨x2, tx_place, rfl, hp, by rw [ht]; exact hP, va_K.moved hW.alike hK, hD⟩, hS.F ht⟩) hS.2.2 eX8_readNumber_56.2
  · have hp := hp.2 hc
    refine lv_aload_n hx hb eX8_readNumber_0.2.2.2.2.2.2.2.2.2.2.2.2.2.2.2 rfl (lv_at hl 0 rfl) ?_
    refine g_calli (wc := (wd_X8_digitHere cI cC cZ cB cJ a_tx a_tx_signs tx_length tx_place tx_stop tx_signs)) hP hD hS hA [0, 1] [] rfl rfl rfl rfl (g_runV (As := []) (rest := []) C0 hP hD hS [0, 1] rfl rfl 0 8 rfl rfl (c_X8_digitHere l dC dI cI cC cZ cB cJ a_tx a_tx_signs H.size tx_length tx_place tx_stop tx_signs _ hp) q_25 q_28 q_26 q_27 q_5 h_X8_digitHere rfl rfl ⟨Nat.le_of_ble_eq_true rfl, Nat.le_of_ble_eq_true rfl⟩ rfl rfl hl.1 rfl (lv_room (Nat.le_of_ble_eq_true rfl)) eX8_readNumber_24.1 ⟨Nat.zero_le _, Nat.zero_le _⟩) (fun r_3 u H locs hp hP hD hS => ?_)
    have hPD := PDs (ws' := (wd_X8_readNumber cI cC cZ cB cJ a_tx a_tx_signs tx_length tx_place tx_stop tx_signs)) hP hD [0, 1] (by decide) rfl
    have hP := hPD.1
    have hD := hPD.2
    refine lv_istore (lv' := [(4, .int r_3), (0, .ref a_tx), (1, .int x1), (2, .int x2), (3, .int x3)]) hx hb eX8_readNumber_24.2.1 hl (by decide) rfl (fun ls hl => ?_)
    refine lv_iload hx hb eX8_readNumber_24.2.2.1 (lv_at hl 0 rfl) ?_
    refine lv_iconst (v := (-1)) hx hb eX8_readNumber_24.2.2.2.1 (by decide) ?_
    refine lv_icmp_ne (tgt := 38) hx hb eX8_readNumber_24.2.2.2.2.1 (by decide) (fun hc => ?_) (fun hc => ?_)
    · have hp := hp.1 hc
      refine lv_iload_n hx hb eX8_readNumber_24.2.2.2.2.2.2.1 rfl (lv_at hl 3 rfl) ?_
      refine lv_bipush (v := 10) hx hb eX8_readNumber_24.2.2.2.2.2.2.2.1 (by decide) ?_
      refine lv_imul hx hb eX8_readNumber_24.2.2.2.2.2.2.2.2.1 ?_
      refine lv_topi (fun v_4 ev_4 => ?_)
      have hp := hp v_4 ev_4
      refine lv_iload hx hb eX8_readNumber_24.2.2.2.2.2.2.2.2.2.1 (lv_at hl 0 rfl) ?_
      refine lv_iadd hx hb eX8_readNumber_24.2.2.2.2.2.2.2.2.2.2.1 ?_
      refine lv_topi (fun v_5 ev_5 => ?_)
      have hp := hp v_5 ev_5
      refine lv_istore_n (lv' := [(2, .int v_5), (4, .int r_3), (0, .ref a_tx), (1, .int x1), (3, .int x3)]) hx hb eX8_readNumber_24.2.2.2.2.2.2.2.2.2.2.2.1 rfl hl (by decide) rfl (fun ls hl => ?_)
      refine lv_aload_n hx hb eX8_readNumber_24.2.2.2.2.2.2.2.2.2.2.2.2.1 rfl (lv_at hl 2 rfl) ?_
      refine g_callv (wc := (wd_X8_skip cI cC cZ cB cJ a_tx a_tx_signs tx_length tx_place tx_stop)) hP hD hS hA [0] [1] rfl rfl rfl rfl (g_runV (As := []) (rest := []) C0 hP hD hS [0] rfl rfl 0 8 rfl rfl (c_X8_skip l dC dI cI cC cZ cB cJ a_tx a_tx_signs H.size tx_length tx_place tx_stop _ hp) q_29 q_32 q_30 q_31 q_5 h_X8_skip rfl rfl ⟨Nat.le_of_ble_eq_true rfl, Nat.le_of_ble_eq_true rfl⟩ rfl rfl hl.1 rfl (lv_room (Nat.le_of_ble_eq_true rfl)) eX8_readNumber_24.2.2.2.2.2.2.2.2.2.2.2.2.2.1 ⟨Nat.zero_le _, Nat.zero_le _⟩) (fun u H locs hp hP hD hS => ?_)
      obtain ⟨tx_place_6, rfl⟩ : ∃ z, z = u := ⟨_, rfl⟩
      have hPD := PDs (ws' := (wd_X8_readNumber cI cC cZ cB cJ a_tx a_tx_signs tx_length tx_place_6 tx_stop tx_signs)) hP hD [1, 0] (by decide) rfl
      have hP := hPD.1
      have hD := hPD.2
      obtain ⟨v_7, ev_7⟩ : ∃ y : Int32, y = x3 + 1 := ⟨_, rfl⟩
      refine lv_iinc (v := v_7) (lv' := [(3, .int v_7), (2, .int v_5), (4, .int r_3), (0, .ref a_tx), (1, .int x1)]) hx hb eX8_readNumber_24.2.2.2.2.2.2.2.2.2.2.2.2.2.2.1 hl (k := 4) rfl (by rw [ev_7]; rfl) (by decide) rfl (fun ls hl => ?_)
      have hp := hp v_7 ev_7
      refine lv_goto (tgt := 18) hx hb eX8_readNumber_24.2.2.2.2.2.2.2.2.2.2.2.2.2.2.2 (by decide) ?_
      exact hKn x1 v_5 v_7 tx_place_6 H locs ls hp hP hD hS (lv_sub hl [3, 4, 1, 0] rfl)
    · have hp := hp.2 hc
      refine lv_goto (tgt := 56) hx hb eX8_readNumber_24.2.2.2.2.2.1 (by decide) ?_
      refine lv_iload_n hx hb eX8_readNumber_56.1 rfl (lv_at hl 3 rfl) ?_
      exact W.iret (v := x2) hx hb hr (fun t ht hW => ⟨⟨x2, tx_place, rfl, hp, by rw [ht]; exact hP, va_K.moved hW.alike hK, hD⟩, hS.F ht⟩) hS.2.2 eX8_readNumber_56.2
set_option maxHeartbeats 4000000 in
set_option maxRecDepth 100000 in
theorem kb_X8_readNumber_18 (C0 : gc cX8_readNumber (some .int) 5 RX8 (dC, dI) (tyl cI cC cZ cB cJ) A p s m args meth c) : ∀ (n : Nat), ∀ (x1 : Int32) (x2 : Int32) (x3 : Int32) (tx_place : Int32) (H : Heap) (locs : List Loc) (ls : Array Slot), (wb_X8_readNumber_18 post tx_stop tx_signs n) x1 x2 x3 tx_place → va_P (dC, dI) classes (wd_X8_readNumber cI cC cZ cB cJ a_tx a_tx_signs tx_length tx_place tx_stop tx_signs) H → va_D A (wd_X8_readNumber cI cC cZ cB cJ a_tx a_tx_signs tx_length tx_place tx_stop tx_signs) → va_S A s.heap H locs → lv_has ls 5 [(0, .ref a_tx), (1, .int x1), (2, .int x2), (3, .int x3)] → W p l e rm_X8_readNumber s m args below meth c H locs 0 0 (MQ below (q_X8_readNumber dC dI cI cC cZ cB cJ A a_tx a_tx_signs tx_length tx_stop tx_signs post) args s 0 0 A) (F0 m 18 ls []) := by
  intro n
  induction n with
  | zero =>
    intro x1 x2 x3 tx_place H locs ls hp
    exact False.elim hp
  | succ n ih =>
    intro x1 x2 x3 tx_place H locs ls hp
    exact ks_X8_readNumber_18 C0 ih x1 x2 x3 tx_place H locs ls hp
end S_X8_readNumber
def wp_X8_readNumber (post : Int32 → Int32 → Prop) (p0 : Int32) (tx_place : Int32) (tx_stop : Int32) (tx_signs : Nat → Int32) : Prop := wp_X8_digitHere (fun r_1 => (¬ r_1 = (-1) → wp_X8_skip (fun tx_place_2 => ∃ n : Nat, wb_X8_readNumber_18 post tx_stop tx_signs n p0 r_1 1 tx_place_2) tx_place tx_stop) ∧ (r_1 = (-1) → post (-1) tx_place)) tx_place tx_stop tx_signs
set_option maxHeartbeats 4000000 in
set_option maxRecDepth 100000 in
theorem c_X8_readNumber (l : Launch) (dC : Nat → ClassId) (dI : Nat → Nat → Nat) (cI cC cZ cB cJ : ClassId) (a_tx : Nat) (a_tx_signs : Nat) (sz : Nat) (p0 : Int32) (tx_length : Int32) (tx_place : Int32) (tx_stop : Int32) (tx_signs : Nat → Int32) (post : Int32 → Int32 → Prop) (hw : wp_X8_readNumber post p0 tx_place tx_stop tx_signs) : Met l yX8_readNumber (gw yX8_readNumber cX8_readNumber 5 (some .int)) rm_X8_readNumber (va_Pc [.ref a_tx, .int p0] (gPre (dC, dI) (tyl cI cC cZ cB cJ) (wd_X8_readNumber cI cC cZ cB cJ a_tx a_tx_signs tx_length tx_place tx_stop tx_signs) sz)) (q_X8_readNumber dC dI cI cC cZ cB cJ (va_A (wd_X8_readNumber cI cC cZ cB cJ a_tx a_tx_signs tx_length tx_place tx_stop tx_signs) sz) a_tx a_tx_signs tx_length tx_stop tx_signs post) 0 0 (va_A (wd_X8_readNumber cI cC cZ cB cJ a_tx a_tx_signs tx_length tx_place tx_stop tx_signs) sz) := by
  refine g_enter (own := RX8) (dC, dI) (tyl cI cC cZ cB cJ) (wd_X8_readNumber cI cC cZ cB cJ a_tx a_tx_signs tx_length tx_place tx_stop tx_signs) sz [.ref a_tx, .int p0] (fun A => q_X8_readNumber dC dI cI cC cZ cB cJ A a_tx a_tx_signs tx_length tx_stop tx_signs post) (by decide) rfl (Nat.le_of_ble_eq_true rfl) ?_
  intro p e s m args below meth c A H locs ls C0 hP hD hS hl
  have hl : lv_has ls 5 [(0, .ref a_tx), (1, .int p0)] := hl
  obtain ⟨hx, hb, hr, hml, hown, hts, hlocks, hA, hK, hN, tL, tM, hZL, hTL, hZM, hTM, hZX⟩ := id C0
  have hp := hw
  unfold wp_X8_readNumber at hp
  refine lv_aload_n hx hb eX8_readNumber_0.1 rfl (lv_at hl 0 rfl) ?_
  refine g_calli (wc := (wd_X8_digitHere cI cC cZ cB cJ a_tx a_tx_signs tx_length tx_place tx_stop tx_signs)) hP hD hS hA [0, 1] [] rfl rfl rfl rfl (g_runV (As := []) (rest := []) C0 hP hD hS [0, 1] rfl rfl 0 8 rfl rfl (c_X8_digitHere l dC dI cI cC cZ cB cJ a_tx a_tx_signs H.size tx_length tx_place tx_stop tx_signs _ hp) q_25 q_28 q_26 q_27 q_5 h_X8_digitHere rfl rfl ⟨Nat.le_of_ble_eq_true rfl, Nat.le_of_ble_eq_true rfl⟩ rfl rfl hl.1 rfl (lv_room (Nat.le_of_ble_eq_true rfl)) eX8_readNumber_0.2.1 ⟨Nat.zero_le _, Nat.zero_le _⟩) (fun r_1 u H locs hp hP hD hS => ?_)
  have hPD := PDs (ws' := (wd_X8_readNumber cI cC cZ cB cJ a_tx a_tx_signs tx_length tx_place tx_stop tx_signs)) hP hD [0, 1] (by decide) rfl
  have hP := hPD.1
  have hD := hPD.2
  refine lv_istore_n (lv' := [(2, .int r_1), (0, .ref a_tx), (1, .int p0)]) hx hb eX8_readNumber_0.2.2.1 rfl hl (by decide) rfl (fun ls hl => ?_)
  refine lv_iload_n hx hb eX8_readNumber_0.2.2.2.1 rfl (lv_at hl 0 rfl) ?_
  refine lv_iconst (v := (-1)) hx hb eX8_readNumber_0.2.2.2.2.1 (by decide) ?_
  refine lv_icmp_ne (tgt := 12) hx hb eX8_readNumber_0.2.2.2.2.2.1 (by decide) (fun hc => ?_) (fun hc => ?_)
  · have hp := hp.1 hc
    refine lv_aload_n hx hb eX8_readNumber_0.2.2.2.2.2.2.2.2.1 rfl (lv_at hl 1 rfl) ?_
    refine g_callv (wc := (wd_X8_skip cI cC cZ cB cJ a_tx a_tx_signs tx_length tx_place tx_stop)) hP hD hS hA [0] [1] rfl rfl rfl rfl (g_runV (As := []) (rest := []) C0 hP hD hS [0] rfl rfl 0 8 rfl rfl (c_X8_skip l dC dI cI cC cZ cB cJ a_tx a_tx_signs H.size tx_length tx_place tx_stop _ hp) q_29 q_32 q_30 q_31 q_5 h_X8_skip rfl rfl ⟨Nat.le_of_ble_eq_true rfl, Nat.le_of_ble_eq_true rfl⟩ rfl rfl hl.1 rfl (lv_room (Nat.le_of_ble_eq_true rfl)) eX8_readNumber_0.2.2.2.2.2.2.2.2.2.1 ⟨Nat.zero_le _, Nat.zero_le _⟩) (fun u H locs hp hP hD hS => ?_)
    obtain ⟨tx_place_2, rfl⟩ : ∃ z, z = u := ⟨_, rfl⟩
    have hPD := PDs (ws' := (wd_X8_readNumber cI cC cZ cB cJ a_tx a_tx_signs tx_length tx_place_2 tx_stop tx_signs)) hP hD [1, 0] (by decide) rfl
    have hP := hPD.1
    have hD := hPD.2
    refine lv_iconst (v := 1) hx hb eX8_readNumber_0.2.2.2.2.2.2.2.2.2.2.1 (by decide) ?_
    refine lv_istore_n (lv' := [(3, .int 1), (2, .int r_1), (0, .ref a_tx), (1, .int p0)]) hx hb eX8_readNumber_0.2.2.2.2.2.2.2.2.2.2.2.1 rfl hl (by decide) rfl (fun ls hl => ?_)
    obtain ⟨n9, hp⟩ := hp
    exact kb_X8_readNumber_18 C0 n9 p0 r_1 1 tx_place_2 H locs ls hp hP hD hS (lv_sub hl [2, 3, 1, 0] rfl)
  · have hp := hp.2 hc
    refine lv_iconst (v := (-1)) hx hb eX8_readNumber_0.2.2.2.2.2.2.1 (by decide) ?_
    exact W.iret (v := (-1)) hx hb hr (fun t ht hW => ⟨⟨(-1), tx_place, rfl, hp, by rw [ht]; exact hP, va_K.moved hW.alike hK, hD⟩, hS.F ht⟩) hS.2.2 eX8_readNumber_0.2.2.2.2.2.2.2.1
abbrev wd_X8_take (cI cC cZ cB cJ : ClassId) (a_tx : Nat) (a_tx_signs : Nat) (tx_length : Int32) (tx_place : Int32) (tx_stop : Int32) (tx_signs : Nat → Int32) : va_W := [(a_tx, .inr (8, [.ref a_tx_signs, .int tx_length, .int tx_place, .int tx_stop])), (a_tx_signs, .inl (cC, 80, .inl tx_signs))]
abbrev q_X8_take (dC : Nat → ClassId) (dI : Nat → Nat → Nat) (cI cC cZ cB cJ : ClassId) (A : Nat → Prop) (a_tx : Nat) (a_tx_signs : Nat) (tx_length : Int32) (tx_stop : Int32) (tx_signs : Nat → Int32) (post : Int32 → Int32 → Prop) : Array Value → State → Outcome → State → Prop := va_Qi (fun (r : Int32) (u : Int32) => post r u) (fun u t => gB (dC, dI) (tyl cI cC cZ cB cJ) A (wd_X8_take cI cC cZ cB cJ a_tx a_tx_signs tx_length u tx_stop tx_signs) t) A
abbrev rm_X8_take : Room := { frames := 1, cells := 0, slots := 0, locals := 20 }
def wp_X8_take (post : Int32 → Int32 → Prop) (p0 : Int32) (tx_place : Int32) (tx_stop : Int32) (tx_signs : Nat → Int32) : Prop := wp_X8_here (fun r_1 => (r_1 = p0 → ∀ v_2 : Int32, v_2 = tx_place + 1 → post 1 v_2) ∧ (¬ r_1 = p0 → post 0 tx_place)) tx_place tx_stop tx_signs
set_option maxHeartbeats 4000000 in
set_option maxRecDepth 100000 in
theorem c_X8_take (l : Launch) (dC : Nat → ClassId) (dI : Nat → Nat → Nat) (cI cC cZ cB cJ : ClassId) (a_tx : Nat) (a_tx_signs : Nat) (sz : Nat) (p0 : Int32) (tx_length : Int32) (tx_place : Int32) (tx_stop : Int32) (tx_signs : Nat → Int32) (post : Int32 → Int32 → Prop) (hw : wp_X8_take post p0 tx_place tx_stop tx_signs) : Met l yX8_take (gw yX8_take cX8_take 2 (some .boolean)) rm_X8_take (va_Pc [.ref a_tx, .int p0] (gPre (dC, dI) (tyl cI cC cZ cB cJ) (wd_X8_take cI cC cZ cB cJ a_tx a_tx_signs tx_length tx_place tx_stop tx_signs) sz)) (q_X8_take dC dI cI cC cZ cB cJ (va_A (wd_X8_take cI cC cZ cB cJ a_tx a_tx_signs tx_length tx_place tx_stop tx_signs) sz) a_tx a_tx_signs tx_length tx_stop tx_signs post) 0 0 (va_A (wd_X8_take cI cC cZ cB cJ a_tx a_tx_signs tx_length tx_place tx_stop tx_signs) sz) := by
  refine g_enter (own := RX8) (dC, dI) (tyl cI cC cZ cB cJ) (wd_X8_take cI cC cZ cB cJ a_tx a_tx_signs tx_length tx_place tx_stop tx_signs) sz [.ref a_tx, .int p0] (fun A => q_X8_take dC dI cI cC cZ cB cJ A a_tx a_tx_signs tx_length tx_stop tx_signs post) (by decide) rfl (Nat.le_of_ble_eq_true rfl) ?_
  intro p e s m args below meth c A H locs ls C0 hP hD hS hl
  have hl : lv_has ls 2 [(0, .ref a_tx), (1, .int p0)] := hl
  obtain ⟨hx, hb, hr, hml, hown, hts, hlocks, hA, hK, hN, tL, tM, hZL, hTL, hZM, hTM, hZX⟩ := id C0
  have hp := hw
  unfold wp_X8_take at hp
  refine lv_aload_n hx hb eX8_take_0.1 rfl (lv_at hl 0 rfl) ?_
  refine g_calli (wc := (wd_X8_here cI cC cZ cB cJ a_tx a_tx_signs tx_length tx_place tx_stop tx_signs)) hP hD hS hA [0, 1] [] rfl rfl rfl rfl (g_runV (As := []) (rest := []) C0 hP hD hS [0, 1] rfl rfl 0 8 rfl rfl (c_X8_here l dC dI cI cC cZ cB cJ a_tx a_tx_signs H.size tx_length tx_place tx_stop tx_signs _ hp) q_33 q_36 q_34 q_35 q_5 h_X8_here rfl rfl ⟨Nat.le_of_ble_eq_true rfl, Nat.le_of_ble_eq_true rfl⟩ rfl rfl hl.1 rfl (lv_room (Nat.le_of_ble_eq_true rfl)) eX8_take_0.2.1 ⟨Nat.zero_le _, Nat.zero_le _⟩) (fun r_1 u H locs hp hP hD hS => ?_)
  have hPD := PDs (ws' := (wd_X8_take cI cC cZ cB cJ a_tx a_tx_signs tx_length tx_place tx_stop tx_signs)) hP hD [0, 1] (by decide) rfl
  have hP := hPD.1
  have hD := hPD.2
  refine lv_iload_n hx hb eX8_take_0.2.2.1 rfl (lv_at hl 1 rfl) ?_
  refine lv_icmp_eq (tgt := 10) hx hb eX8_take_0.2.2.2.1 (by decide) (fun hc => ?_) (fun hc => ?_)
  · have hp := hp.1 hc
    refine lv_aload_n hx hb eX8_take_0.2.2.2.2.2.2.1 rfl (lv_at hl 0 rfl) ?_
    refine lv_dup hx hb eX8_take_0.2.2.2.2.2.2.2.1 rfl ?_
    refine va_get (D := (dC, dI)) (ci := 8) (v := .int tx_place) (C := RX8) (T := TX8) (N := 4) hx hb hts i_X8 hown hK hP 0 rfl rfl 2 (Nat.le_of_ble_eq_true rfl) (hts _ q_13) (fun _ h9 => h9) rfl eX8_take_0.2.2.2.2.2.2.2.2.1 ?_
    refine lv_iconst (v := 1) hx hb eX8_take_0.2.2.2.2.2.2.2.2.2.1 (by decide) ?_
    refine lv_iadd hx hb eX8_take_0.2.2.2.2.2.2.2.2.2.2.1 ?_
    refine lv_topi (fun v_2 ev_2 => ?_)
    have hp := hp v_2 ev_2
    refine va_put (D := (dC, dI)) (ci := 8) (v := .int v_2) (ty := .int) (C := RX8) (T := TX8) (N := 4) hx hb hts i_X8 tyX8 tyX8_ok nmX8 hown hK hP hD hS 0 rfl rfl 2 (Nat.le_of_ble_eq_true rfl) (hts _ q_13) (fun _ h9 => h9) rfl (tyX8_ok 2 (Nat.le_of_ble_eq_true rfl)) rfl rfl (Nat.le_of_ble_eq_true rfl) eX8_take_0.2.2.2.2.2.2.2.2.2.2.2.1 (fun H locs hP hD hS => ?_)
    have hP : va_P (dC, dI) classes (wd_X8_take cI cC cZ cB cJ a_tx a_tx_signs tx_length v_2 tx_stop tx_signs) H := hP
    have hD : va_D A (wd_X8_take cI cC cZ cB cJ a_tx a_tx_signs tx_length v_2 tx_stop tx_signs) := hD
    refine lv_iconst (v := 1) hx hb eX8_take_0.2.2.2.2.2.2.2.2.2.2.2.2.1 (by decide) ?_
    exact W.zret (v := 1) hx hb hr rfl (fun t ht hW => ⟨⟨1, v_2, rfl, hp, by rw [ht]; exact hP, va_K.moved hW.alike hK, hD⟩, hS.F ht⟩) hS.2.2 eX8_take_0.2.2.2.2.2.2.2.2.2.2.2.2.2
  · have hp := hp.2 hc
    refine lv_iconst (v := 0) hx hb eX8_take_0.2.2.2.2.1 (by decide) ?_
    exact W.zret (v := 0) hx hb hr rfl (fun t ht hW => ⟨⟨0, tx_place, rfl, hp, by rw [ht]; exact hP, va_K.moved hW.alike hK, hD⟩, hS.F ht⟩) hS.2.2 eX8_take_0.2.2.2.2.2.1
abbrev wd_X3_readPair (cI cC cZ cB cJ : ClassId) (a_tx : Nat) (a_tx_signs : Nat) (a_tr_x : Nat) (a_tr_height : Nat) (tx_length : Int32) (tx_place : Int32) (tx_stop : Int32) (tx_signs : Nat → Int32) (tr_x : Nat → Int32) (tr_height : Nat → Int32) : va_W := [(a_tx, .inr (8, [.ref a_tx_signs, .int tx_length, .int tx_place, .int tx_stop])), (a_tx_signs, .inl (cC, 80, .inl tx_signs)), (a_tr_x, .inl (cI, 16, .inl tr_x)), (a_tr_height, .inl (cI, 16, .inl tr_height))]
abbrev q_X3_readPair (dC : Nat → ClassId) (dI : Nat → Nat → Nat) (cI cC cZ cB cJ : ClassId) (A : Nat → Prop) (a_tx : Nat) (a_tx_signs : Nat) (a_tr_x : Nat) (a_tr_height : Nat) (tx_length : Int32) (tx_stop : Int32) (tx_signs : Nat → Int32) (post : Int32 → Int32 → (Nat → Int32) → (Nat → Int32) → Prop) : Array Value → State → Outcome → State → Prop := va_Qi (fun (r : Int32) (u : Int32 × (Nat → Int32) × (Nat → Int32)) => post r u.1 u.2.1 u.2.2) (fun u t => gB (dC, dI) (tyl cI cC cZ cB cJ) A (wd_X3_readPair cI cC cZ cB cJ a_tx a_tx_signs a_tr_x a_tr_height tx_length u.1 tx_stop tx_signs u.2.1 u.2.2) t) A
abbrev rm_X3_readPair : Room := { frames := 2, cells := 0, slots := 0, locals := 45 }
def wp_X3_readPair (post : Int32 → Int32 → (Nat → Int32) → (Nat → Int32) → Prop) (p3 : Int32) (tx_place : Int32) (tx_stop : Int32) (tx_signs : Nat → Int32) (tr_x : Nat → Int32) (tr_height : Nat → Int32) : Prop := wp_X8_readNumber (fun r_1 tx_place_2 => (r_1 = (-1) → post 0 tx_place_2 tr_x tr_height) ∧ (¬ r_1 = (-1) → wp_X8_take (fun r_3 tx_place_4 => (¬ r_3 = 0 → wp_X8_readNumber (fun r_5 tx_place_6 => (r_5 = (-1) → post 0 tx_place_6 tr_x tr_height) ∧ (¬ r_5 = (-1) → (p3 < 0 → post 0 tx_place_6 tr_x tr_height) ∧ (¬ p3 < 0 → (16 ≤ p3 → post 0 tx_place_6 tr_x tr_height) ∧ (¬ 16 ≤ p3 → (p3 < 16 → vp_in p3 16 ∧ (vp_in p3 16 ∧ (post 1 tx_place_6 (upd tr_x p3.toNatClampNeg r_1) (upd tr_height p3.toNatClampNeg r_5)))) ∧ (¬ p3 < 16 → post 0 tx_place_6 tr_x tr_height))))) 2 tx_place_4 tx_stop tx_signs) ∧ (r_3 = 0 → post 0 tx_place_4 tr_x tr_height)) 44 tx_place_2 tx_stop tx_signs)) 2 tx_place tx_stop tx_signs
set_option maxHeartbeats 4000000 in
set_option maxRecDepth 100000 in
theorem c_X3_readPair (l : Launch) (dC : Nat → ClassId) (dI : Nat → Nat → Nat) (cI cC cZ cB cJ : ClassId) (a_tx : Nat) (a_tx_signs : Nat) (a_tr_x : Nat) (a_tr_height : Nat) (sz : Nat) (p3 : Int32) (tx_length : Int32) (tx_place : Int32) (tx_stop : Int32) (tx_signs : Nat → Int32) (tr_x : Nat → Int32) (tr_height : Nat → Int32) (post : Int32 → Int32 → (Nat → Int32) → (Nat → Int32) → Prop) (hw : wp_X3_readPair post p3 tx_place tx_stop tx_signs tr_x tr_height) : Met l yX3_readPair (gw yX3_readPair cX3_readPair 6 (some .boolean)) rm_X3_readPair (va_Pc [.ref a_tx, .ref a_tr_x, .ref a_tr_height, .int p3] (gPre (dC, dI) (tyl cI cC cZ cB cJ) (wd_X3_readPair cI cC cZ cB cJ a_tx a_tx_signs a_tr_x a_tr_height tx_length tx_place tx_stop tx_signs tr_x tr_height) sz)) (q_X3_readPair dC dI cI cC cZ cB cJ (va_A (wd_X3_readPair cI cC cZ cB cJ a_tx a_tx_signs a_tr_x a_tr_height tx_length tx_place tx_stop tx_signs tr_x tr_height) sz) a_tx a_tx_signs a_tr_x a_tr_height tx_length tx_stop tx_signs post) 0 0 (va_A (wd_X3_readPair cI cC cZ cB cJ a_tx a_tx_signs a_tr_x a_tr_height tx_length tx_place tx_stop tx_signs tr_x tr_height) sz) := by
  refine g_enter (own := RX3) (dC, dI) (tyl cI cC cZ cB cJ) (wd_X3_readPair cI cC cZ cB cJ a_tx a_tx_signs a_tr_x a_tr_height tx_length tx_place tx_stop tx_signs tr_x tr_height) sz [.ref a_tx, .ref a_tr_x, .ref a_tr_height, .int p3] (fun A => q_X3_readPair dC dI cI cC cZ cB cJ A a_tx a_tx_signs a_tr_x a_tr_height tx_length tx_stop tx_signs post) (by decide) rfl (Nat.le_of_ble_eq_true rfl) ?_
  intro p e s m args below meth c A H locs ls C0 hP hD hS hl
  have hl : lv_has ls 6 [(0, .ref a_tx), (1, .ref a_tr_x), (2, .ref a_tr_height), (3, .int p3)] := hl
  obtain ⟨hx, hb, hr, hml, hown, hts, hlocks, hA, hK, hN, tL, tM, hZL, hTL, hZM, hTM, hZX⟩ := id C0
  have hp := hw
  unfold wp_X3_readPair at hp
  refine lv_aload_n hx hb eX3_readPair_0.1 rfl (lv_at hl 0 rfl) ?_
  refine lv_iconst (v := 2) hx hb eX3_readPair_0.2.1 (by decide) ?_
  refine g_calli (wc := (wd_X8_readNumber cI cC cZ cB cJ a_tx a_tx_signs tx_length tx_place tx_stop tx_signs)) hP hD hS hA [0, 1] [2, 3] rfl rfl rfl rfl (g_runV (As := [.int 2]) (rest := []) C0 hP hD hS [0, 1] rfl rfl 0 8 rfl rfl (c_X8_readNumber l dC dI cI cC cZ cB cJ a_tx a_tx_signs H.size 2 tx_length tx_place tx_stop tx_signs _ hp) q_37 q_40 q_38 q_39 q_5 h_X8_readNumber rfl rfl ⟨Nat.le_of_ble_eq_true rfl, Nat.le_of_ble_eq_true rfl⟩ rfl rfl hl.1 rfl (lv_room (Nat.le_of_ble_eq_true rfl)) eX3_readPair_0.2.2.1 ⟨Nat.zero_le _, Nat.zero_le _⟩) (fun r_1 u H locs hp hP hD hS => ?_)
  obtain ⟨tx_place_2, rfl⟩ : ∃ z, z = u := ⟨_, rfl⟩
  have hPD := PDs (ws' := (wd_X3_readPair cI cC cZ cB cJ a_tx a_tx_signs a_tr_x a_tr_height tx_length tx_place_2 tx_stop tx_signs tr_x tr_height)) hP hD [2, 3, 0, 1] (by decide) rfl
  have hP := hPD.1
  have hD := hPD.2
  refine lv_istore (lv' := [(4, .int r_1), (0, .ref a_tx), (1, .ref a_tr_x), (2, .ref a_tr_height), (3, .int p3)]) hx hb eX3_readPair_0.2.2.2.1 hl (by decide) rfl (fun ls hl => ?_)
  refine lv_iload hx hb eX3_readPair_0.2.2.2.2.1 (lv_at hl 0 rfl) ?_
  refine lv_iconst (v := (-1)) hx hb eX3_readPair_0.2.2.2.2.2.1 (by decide) ?_
  refine lv_icmp_eq (tgt := 22) hx hb eX3_readPair_0.2.2.2.2.2.2.1 (by decide) (fun hc => ?_) (fun hc => ?_)
  · have hp := hp.1 hc
    refine lv_iconst (v := 0) hx hb eX3_readPair_0.2.2.2.2.2.2.2.2.2.2.2.1 (by decide) ?_
    exact W.zret (v := 0) hx hb hr rfl (fun t ht hW => ⟨⟨0, (tx_place_2, tr_x, tr_height), rfl, hp, by rw [ht]; exact hP, va_K.moved hW.alike hK, hD⟩, hS.F ht⟩) hS.2.2 eX3_readPair_0.2.2.2.2.2.2.2.2.2.2.2.2.1
  · have hp := hp.2 hc
    refine lv_aload_n hx hb eX3_readPair_0.2.2.2.2.2.2.2.1 rfl (lv_at hl 1 rfl) ?_
    refine lv_bipush (v := 44) hx hb eX3_readPair_0.2.2.2.2.2.2.2.2.1 (by decide) ?_
    refine g_calli (wc := (wd_X8_take cI cC cZ cB cJ a_tx a_tx_signs tx_length tx_place_2 tx_stop tx_signs)) hP hD hS hA [0, 1] [2, 3] rfl rfl rfl rfl (g_runV (As := [.int 44]) (rest := []) C0 hP hD hS [0, 1] rfl rfl 0 8 rfl rfl (c_X8_take l dC dI cI cC cZ cB cJ a_tx a_tx_signs H.size 44 tx_length tx_place_2 tx_stop tx_signs _ hp) q_41 q_44 q_42 q_43 q_5 h_X8_take rfl rfl ⟨Nat.le_of_ble_eq_true rfl, Nat.le_of_ble_eq_true rfl⟩ rfl rfl hl.1 rfl (lv_room (Nat.le_of_ble_eq_true rfl)) eX3_readPair_0.2.2.2.2.2.2.2.2.2.1 ⟨Nat.zero_le _, Nat.zero_le _⟩) (fun r_3 u H locs hp hP hD hS => ?_)
    obtain ⟨tx_place_4, rfl⟩ : ∃ z, z = u := ⟨_, rfl⟩
    have hPD := PDs (ws' := (wd_X3_readPair cI cC cZ cB cJ a_tx a_tx_signs a_tr_x a_tr_height tx_length tx_place_4 tx_stop tx_signs tr_x tr_height)) hP hD [2, 3, 0, 1] (by decide) rfl
    have hP := hPD.1
    have hD := hPD.2
    refine lv_if_ne (tgt := 24) hx hb eX3_readPair_0.2.2.2.2.2.2.2.2.2.2.1 (by decide) (fun hc => ?_) (fun hc => ?_)
    · have hp := hp.1 hc
      refine lv_aload_n hx hb eX3_readPair_0.2.2.2.2.2.2.2.2.2.2.2.2.2.1 rfl (lv_at hl 1 rfl) ?_
      refine lv_iconst (v := 2) hx hb eX3_readPair_0.2.2.2.2.2.2.2.2.2.2.2.2.2.2.1 (by decide) ?_
      refine g_calli (wc := (wd_X8_readNumber cI cC cZ cB cJ a_tx a_tx_signs tx_length tx_place_4 tx_stop tx_signs)) hP hD hS hA [0, 1] [2, 3] rfl rfl rfl rfl (g_runV (As := [.int 2]) (rest := []) C0 hP hD hS [0, 1] rfl rfl 0 8 rfl rfl (c_X8_readNumber l dC dI cI cC cZ cB cJ a_tx a_tx_signs H.size 2 tx_length tx_place_4 tx_stop tx_signs _ hp) q_37 q_40 q_38 q_39 q_5 h_X8_readNumber rfl rfl ⟨Nat.le_of_ble_eq_true rfl, Nat.le_of_ble_eq_true rfl⟩ rfl rfl hl.1 rfl (lv_room (Nat.le_of_ble_eq_true rfl)) eX3_readPair_0.2.2.2.2.2.2.2.2.2.2.2.2.2.2.2 ⟨Nat.zero_le _, Nat.zero_le _⟩) (fun r_5 u H locs hp hP hD hS => ?_)
      obtain ⟨tx_place_6, rfl⟩ : ∃ z, z = u := ⟨_, rfl⟩
      have hPD := PDs (ws' := (wd_X3_readPair cI cC cZ cB cJ a_tx a_tx_signs a_tr_x a_tr_height tx_length tx_place_6 tx_stop tx_signs tr_x tr_height)) hP hD [2, 3, 0, 1] (by decide) rfl
      have hP := hPD.1
      have hD := hPD.2
      refine lv_istore (lv' := [(5, .int r_5), (4, .int r_1), (0, .ref a_tx), (1, .ref a_tr_x), (2, .ref a_tr_height), (3, .int p3)]) hx hb eX3_readPair_29.1 hl (by decide) rfl (fun ls hl => ?_)
      refine lv_iload hx hb eX3_readPair_29.2.1 (lv_at hl 0 rfl) ?_
      refine lv_iconst (v := (-1)) hx hb eX3_readPair_29.2.2.1 (by decide) ?_
      refine lv_icmp_eq (tgt := 53) hx hb eX3_readPair_29.2.2.2.1 (by decide) (fun hc => ?_) (fun hc => ?_)
      · have hp := hp.1 hc
        refine lv_iconst (v := 0) hx hb eX3_readPair_29.2.2.2.2.2.2.2.2.2.2.2.2.2.2.1 (by decide) ?_
        exact W.zret (v := 0) hx hb hr rfl (fun t ht hW => ⟨⟨0, (tx_place_6, tr_x, tr_height), rfl, hp, by rw [ht]; exact hP, va_K.moved hW.alike hK, hD⟩, hS.F ht⟩) hS.2.2 eX3_readPair_29.2.2.2.2.2.2.2.2.2.2.2.2.2.2.2
      · have hp := hp.2 hc
        refine lv_iload_n hx hb eX3_readPair_29.2.2.2.2.1 rfl (lv_at hl 5 rfl) ?_
        refine lv_if_lt (tgt := 53) hx hb eX3_readPair_29.2.2.2.2.2.1 (by decide) (fun hc => ?_) (fun hc => ?_)
        · have hp := hp.1 hc
          refine lv_iconst (v := 0) hx hb eX3_readPair_29.2.2.2.2.2.2.2.2.2.2.2.2.2.2.1 (by decide) ?_
          exact W.zret (v := 0) hx hb hr rfl (fun t ht hW => ⟨⟨0, (tx_place_6, tr_x, tr_height), rfl, hp, by rw [ht]; exact hP, va_K.moved hW.alike hK, hD⟩, hS.F ht⟩) hS.2.2 eX3_readPair_29.2.2.2.2.2.2.2.2.2.2.2.2.2.2.2
        · have hp := hp.2 hc
          refine lv_iload_n hx hb eX3_readPair_29.2.2.2.2.2.2.1 rfl (lv_at hl 5 rfl) ?_
          refine lv_aload_n hx hb eX3_readPair_29.2.2.2.2.2.2.2.1 rfl (lv_at hl 3 rfl) ?_
          refine va_alen (v := 16) hx hb hK hP 2 0 rfl rfl rfl eX3_readPair_29.2.2.2.2.2.2.2.2.1 ?_
          refine lv_icmp_ge (tgt := 53) hx hb eX3_readPair_29.2.2.2.2.2.2.2.2.2.1 (by decide) (fun hc => ?_) (fun hc => ?_)
          · have hp := hp.1 hc
            refine lv_iconst (v := 0) hx hb eX3_readPair_29.2.2.2.2.2.2.2.2.2.2.2.2.2.2.1 (by decide) ?_
            exact W.zret (v := 0) hx hb hr rfl (fun t ht hW => ⟨⟨0, (tx_place_6, tr_x, tr_height), rfl, hp, by rw [ht]; exact hP, va_K.moved hW.alike hK, hD⟩, hS.F ht⟩) hS.2.2 eX3_readPair_29.2.2.2.2.2.2.2.2.2.2.2.2.2.2.2
          · have hp := hp.2 hc
            refine lv_iload_n hx hb eX3_readPair_29.2.2.2.2.2.2.2.2.2.2.1 rfl (lv_at hl 5 rfl) ?_
            refine lv_aload_n hx hb eX3_readPair_29.2.2.2.2.2.2.2.2.2.2.2.1 rfl (lv_at hl 4 rfl) ?_
            refine va_alen (v := 16) hx hb hK hP 3 0 rfl rfl rfl eX3_readPair_29.2.2.2.2.2.2.2.2.2.2.2.2.1 ?_
            refine lv_icmp_lt (tgt := 55) hx hb eX3_readPair_29.2.2.2.2.2.2.2.2.2.2.2.2.2.1 (by decide) (fun hc => ?_) (fun hc => ?_)
            · have hp := hp.1 hc
              refine lv_aload_n hx hb eX3_readPair_55.1 rfl (lv_at hl 3 rfl) ?_
              refine lv_iload_n hx hb eX3_readPair_55.2.1 rfl (lv_at hl 5 rfl) ?_
              refine lv_iload hx hb eX3_readPair_55.2.2.1 (lv_at hl 1 rfl) ?_
              have hin := hp.1
              have hp := hp.2
              refine va_iast hx hb hK hP hD hS 2 0 rfl rfl hin eX3_readPair_55.2.2.2.1 (fun H locs hP hD hS => ?_)
              have hP : va_P (dC, dI) classes (wd_X3_readPair cI cC cZ cB cJ a_tx a_tx_signs a_tr_x a_tr_height tx_length tx_place_6 tx_stop tx_signs (upd tr_x p3.toNatClampNeg r_1) tr_height) H := hP
              have hD : va_D A (wd_X3_readPair cI cC cZ cB cJ a_tx a_tx_signs a_tr_x a_tr_height tx_length tx_place_6 tx_stop tx_signs (upd tr_x p3.toNatClampNeg r_1) tr_height) := hD
              refine lv_aload_n hx hb eX3_readPair_55.2.2.2.2.1 rfl (lv_at hl 4 rfl) ?_
              refine lv_iload_n hx hb eX3_readPair_55.2.2.2.2.2.1 rfl (lv_at hl 5 rfl) ?_
              refine lv_iload hx hb eX3_readPair_55.2.2.2.2.2.2.1 (lv_at hl 0 rfl) ?_
              have hin := hp.1
              have hp := hp.2
              refine va_iast hx hb hK hP hD hS 3 0 rfl rfl hin eX3_readPair_55.2.2.2.2.2.2.2.1 (fun H locs hP hD hS => ?_)
              have hP : va_P (dC, dI) classes (wd_X3_readPair cI cC cZ cB cJ a_tx a_tx_signs a_tr_x a_tr_height tx_length tx_place_6 tx_stop tx_signs (upd tr_x p3.toNatClampNeg r_1) (upd tr_height p3.toNatClampNeg r_5)) H := hP
              have hD : va_D A (wd_X3_readPair cI cC cZ cB cJ a_tx a_tx_signs a_tr_x a_tr_height tx_length tx_place_6 tx_stop tx_signs (upd tr_x p3.toNatClampNeg r_1) (upd tr_height p3.toNatClampNeg r_5)) := hD
              refine lv_iconst (v := 1) hx hb eX3_readPair_55.2.2.2.2.2.2.2.2.1 (by decide) ?_
              exact W.zret (v := 1) hx hb hr rfl (fun t ht hW => ⟨⟨1, (tx_place_6, (upd tr_x p3.toNatClampNeg r_1), (upd tr_height p3.toNatClampNeg r_5)), rfl, hp, by rw [ht]; exact hP, va_K.moved hW.alike hK, hD⟩, hS.F ht⟩) hS.2.2 eX3_readPair_55.2.2.2.2.2.2.2.2.2
            · have hp := hp.2 hc
              refine lv_iconst (v := 0) hx hb eX3_readPair_29.2.2.2.2.2.2.2.2.2.2.2.2.2.2.1 (by decide) ?_
              exact W.zret (v := 0) hx hb hr rfl (fun t ht hW => ⟨⟨0, (tx_place_6, tr_x, tr_height), rfl, hp, by rw [ht]; exact hP, va_K.moved hW.alike hK, hD⟩, hS.F ht⟩) hS.2.2 eX3_readPair_29.2.2.2.2.2.2.2.2.2.2.2.2.2.2.2
    · have hp := hp.2 hc
      refine lv_iconst (v := 0) hx hb eX3_readPair_0.2.2.2.2.2.2.2.2.2.2.2.1 (by decide) ?_
      exact W.zret (v := 0) hx hb hr rfl (fun t ht hW => ⟨⟨0, (tx_place_4, tr_x, tr_height), rfl, hp, by rw [ht]; exact hP, va_K.moved hW.alike hK, hD⟩, hS.F ht⟩) hS.2.2 eX3_readPair_0.2.2.2.2.2.2.2.2.2.2.2.2.1
abbrev wd_X3_readFruit (cI cC cZ cB cJ : ClassId) (a_tx : Nat) (a_tx_signs : Nat) (a_tr : Nat) (a_tr_x : Nat) (a_tr_height : Nat) (a_tr_worth : Nat) (a_tr_ripe : Nat) (a_tr_foot : Nat) (a_tr_fork : Nat) (a_tr_settings : Nat) (tx_length : Int32) (tx_place : Int32) (tx_stop : Int32) (tx_signs : Nat → Int32) (tr_fruits : Int32) (tr_standings : Int32) (tr_comingFruits : Int32) (tr_comingStandings : Int32) (tr_x : Nat → Int32) (tr_height : Nat → Int32) (tr_worth : Nat → Int32) (tr_ripe : Nat → Int32) : va_W := [(a_tx, .inr (8, [.ref a_tx_signs, .int tx_length, .int tx_place, .int tx_stop])), (a_tx_signs, .inl (cC, 80, .inl tx_signs)), (a_tr, .inr (3, [.ref a_tr_x, .ref a_tr_height, .ref a_tr_worth, .ref a_tr_ripe, .ref a_tr_foot, .ref a_tr_fork, .ref a_tr_settings, .int tr_fruits, .int tr_standings, .int tr_comingFruits, .int tr_comingStandings])), (a_tr_x, .inl (cI, 16, .inl tr_x)), (a_tr_height, .inl (cI, 16, .inl tr_height)), (a_tr_worth, .inl (cI, 16, .inl tr_worth)), (a_tr_ripe, .inl (cI, 16, .inl tr_ripe))]
abbrev q_X3_readFruit (dC : Nat → ClassId) (dI : Nat → Nat → Nat) (cI cC cZ cB cJ : ClassId) (A : Nat → Prop) (a_tx : Nat) (a_tx_signs : Nat) (a_tr : Nat) (a_tr_x : Nat) (a_tr_height : Nat) (a_tr_worth : Nat) (a_tr_ripe : Nat) (a_tr_foot : Nat) (a_tr_fork : Nat) (a_tr_settings : Nat) (tx_length : Int32) (tx_stop : Int32) (tx_signs : Nat → Int32) (tr_fruits : Int32) (tr_standings : Int32) (tr_comingStandings : Int32) (post : Int32 → Int32 → Int32 → (Nat → Int32) → (Nat → Int32) → (Nat → Int32) → (Nat → Int32) → Prop) : Array Value → State → Outcome → State → Prop := va_Qi (fun (r : Int32) (u : Int32 × Int32 × (Nat → Int32) × (Nat → Int32) × (Nat → Int32) × (Nat → Int32)) => post r u.1 u.2.1 u.2.2.1 u.2.2.2.1 u.2.2.2.2.1 u.2.2.2.2.2) (fun u t => gB (dC, dI) (tyl cI cC cZ cB cJ) A (wd_X3_readFruit cI cC cZ cB cJ a_tx a_tx_signs a_tr a_tr_x a_tr_height a_tr_worth a_tr_ripe a_tr_foot a_tr_fork a_tr_settings tx_length u.1 tx_stop tx_signs tr_fruits tr_standings u.2.1 tr_comingStandings u.2.2.1 u.2.2.2.1 u.2.2.2.2.1 u.2.2.2.2.2) t) A
abbrev rm_X3_readFruit : Room := { frames := 3, cells := 0, slots := 0, locals := 70 }
section S_X3_readFruit
variable {p : Program} {l : Launch} {e : Env} {s : State} {m : MethodId} {args : Array Value} {below : List Frame} {meth : Method} {c : Code} {dC : Nat → ClassId} {dI : Nat → Nat → Nat} {cI cC cZ cB cJ : ClassId} {A : Nat → Prop} {a_tx : Nat} {a_tx_signs : Nat} {a_tr : Nat} {a_tr_x : Nat} {a_tr_height : Nat} {a_tr_worth : Nat} {a_tr_ripe : Nat} {a_tr_foot : Nat} {a_tr_fork : Nat} {a_tr_settings : Nat} {tx_length : Int32} {tx_stop : Int32} {tx_signs : Nat → Int32} {tr_fruits : Int32} {tr_standings : Int32} {tr_comingStandings : Int32} {post : Int32 → Int32 → Int32 → (Nat → Int32) → (Nat → Int32) → (Nat → Int32) → (Nat → Int32) → Prop}
def ws_X3_readFruit_82 (post : Int32 → Int32 → Int32 → (Nat → Int32) → (Nat → Int32) → (Nat → Int32) → (Nat → Int32) → Prop) (tx_stop : Int32) (tx_signs : Nat → Int32) (x2 : Int32) (k1 : Int32) (k2 : Int32) (tx_place : Int32) (tr_comingFruits : Int32) (tr_x : Nat → Int32) (tr_height : Nat → Int32) (tr_worth : Nat → Int32) (tr_ripe : Nat → Int32) : Prop := vp_in k1 16 ∧ (vp_in x2 16 ∧ (∀ v_10 : Int32, v_10 = (upd tr_ripe k1.toNatClampNeg k2) x2.toNatClampNeg → (¬ v_10 = (-1) → ∀ v_11 : Int32, v_11 = tr_comingFruits + 1 → post 1 tx_place v_11 tr_x tr_height tr_worth (upd tr_ripe k1.toNatClampNeg k2)) ∧ (v_10 = (-1) → post 0 tx_place tr_comingFruits tr_x tr_height tr_worth (upd tr_ripe k1.toNatClampNeg k2))))
set_option maxHeartbeats 4000000 in
set_option maxRecDepth 100000 in
theorem ks_X3_readFruit_82 (C0 : gc cX3_readFruit (some .boolean) 3 RX3 (dC, dI) (tyl cI cC cZ cB cJ) A p s m args meth c) : ∀ (x2 : Int32) (k1 : Int32) (k2 : Int32) (tx_place : Int32) (tr_comingFruits : Int32) (tr_x : Nat → Int32) (tr_height : Nat → Int32) (tr_worth : Nat → Int32) (tr_ripe : Nat → Int32) (H : Heap) (locs : List Loc) (ls : Array Slot), (ws_X3_readFruit_82 post tx_stop tx_signs) x2 k1 k2 tx_place tr_comingFruits tr_x tr_height tr_worth tr_ripe → va_P (dC, dI) classes (wd_X3_readFruit cI cC cZ cB cJ a_tx a_tx_signs a_tr a_tr_x a_tr_height a_tr_worth a_tr_ripe a_tr_foot a_tr_fork a_tr_settings tx_length tx_place tx_stop tx_signs tr_fruits tr_standings tr_comingFruits tr_comingStandings tr_x tr_height tr_worth tr_ripe) H → va_D A (wd_X3_readFruit cI cC cZ cB cJ a_tx a_tx_signs a_tr a_tr_x a_tr_height a_tr_worth a_tr_ripe a_tr_foot a_tr_fork a_tr_settings tx_length tx_place tx_stop tx_signs tr_fruits tr_standings tr_comingFruits tr_comingStandings tr_x tr_height tr_worth tr_ripe) → va_S A s.heap H locs → lv_has ls 3 [(0, .ref a_tr), (2, .int x2)] → W p l e rm_X3_readFruit s m args below meth c H locs 0 0 (MQ below (q_X3_readFruit dC dI cI cC cZ cB cJ A a_tx a_tx_signs a_tr a_tr_x a_tr_height a_tr_worth a_tr_ripe a_tr_foot a_tr_fork a_tr_settings tx_length tx_stop tx_signs tr_fruits tr_standings tr_comingStandings post) args s 0 0 A) (F0 m 82 ls [.int k2, .int k1, .ref a_tr_ripe]) := by
  obtain ⟨hx, hb, hr, hml, hown, hts, hlocks, hA, hK, hN, tL, tM, hZL, hTL, hZM, hTM, hZX⟩ := id C0
  intro x2 k1 k2 tx_place tr_comingFruits tr_x tr_height tr_worth tr_ripe H locs ls hp hP hD hS hl
  unfold ws_X3_readFruit_82 at hp
  have hin := hp.1
  have hp := hp.2
  refine va_iast hx hb hK hP hD hS 6 0 rfl rfl hin eX3_readFruit_64.2.2.2.2.2.2.2.2.2.1 (fun H locs hP hD hS => ?_)
  have hP : va_P (dC, dI) classes (wd_X3_readFruit cI cC cZ cB cJ a_tx a_tx_signs a_tr a_tr_x a_tr_height a_tr_worth a_tr_ripe a_tr_foot a_tr_fork a_tr_settings tx_length tx_place tx_stop tx_signs tr_fruits tr_standings tr_comingFruits tr_comingStandings tr_x tr_height tr_worth (upd tr_ripe k1.toNatClampNeg k2)) H := hP
  have hD : va_D A (wd_X3_readFruit cI cC cZ cB cJ a_tx a_tx_signs a_tr a_tr_x a_tr_height a_tr_worth a_tr_ripe a_tr_foot a_tr_fork a_tr_settings tx_length tx_place tx_stop tx_signs tr_fruits tr_standings tr_comingFruits tr_comingStandings tr_x tr_height tr_worth (upd tr_ripe k1.toNatClampNeg k2)) := hD
  refine lv_aload_n hx hb eX3_readFruit_64.2.2.2.2.2.2.2.2.2.2.1 rfl (lv_at hl 0 rfl) ?_
  refine va_get (D := (dC, dI)) (ci := 3) (v := .ref a_tr_ripe) (C := RX3) (T := TX3) (N := 11) hx hb hts i_X3 hown hK hP 2 rfl rfl 3 (Nat.le_of_ble_eq_true rfl) (hts _ q_52) (fun _ h9 => h9) rfl eX3_readFruit_64.2.2.2.2.2.2.2.2.2.2.2.1 ?_
  refine lv_iload_n hx hb eX3_readFruit_64.2.2.2.2.2.2.2.2.2.2.2.2.1 rfl (lv_at hl 1 rfl) ?_
  have hin := hp.1
  have hp := hp.2
  refine va_iald hx hb hK hP 6 0 rfl rfl hin eX3_readFruit_64.2.2.2.2.2.2.2.2.2.2.2.2.2.1 ?_
  refine lv_topi (fun v_10 ev_10 => ?_)
  have hp := hp v_10 ev_10
  refine lv_iconst (v := (-1)) hx hb eX3_readFruit_64.2.2.2.2.2.2.2.2.2.2.2.2.2.2.1 (by decide) ?_
  refine lv_icmp_ne (tgt := 95) hx hb eX3_readFruit_64.2.2.2.2.2.2.2.2.2.2.2.2.2.2.2 (by decide) (fun hc => ?_) (fun hc => ?_)
  · have hp := hp.1 hc
    refine lv_aload_n hx hb eX3_readFruit_93.2.2.1 rfl (lv_at hl 0 rfl) ?_
    refine lv_dup hx hb eX3_readFruit_93.2.2.2.1 rfl ?_
    refine va_get (D := (dC, dI)) (ci := 3) (v := .int tr_comingFruits) (C := RX3) (T := TX3) (N := 11) hx hb hts i_X3 hown hK hP 2 rfl rfl 9 (Nat.le_of_ble_eq_true rfl) (hts _ q_19) (fun _ h9 => h9) rfl eX3_readFruit_93.2.2.2.2.1 ?_
    refine lv_iconst (v := 1) hx hb eX3_readFruit_93.2.2.2.2.2.1 (by decide) ?_
    refine lv_iadd hx hb eX3_readFruit_93.2.2.2.2.2.2.1 ?_
    refine lv_topi (fun v_11 ev_11 => ?_)
    have hp := hp v_11 ev_11
    refine va_put (D := (dC, dI)) (ci := 3) (v := .int v_11) (ty := .int) (C := RX3) (T := TX3) (N := 11) hx hb hts i_X3 tyX3 tyX3_ok nmX3 hown hK hP hD hS 2 rfl rfl 9 (Nat.le_of_ble_eq_true rfl) (hts _ q_19) (fun _ h9 => h9) rfl (tyX3_ok 9 (Nat.le_of_ble_eq_true rfl)) rfl rfl (Nat.le_of_ble_eq_true rfl) eX3_readFruit_93.2.2.2.2.2.2.2.1 (fun H locs hP hD hS => ?_)
    have hP : va_P (dC, dI) classes (wd_X3_readFruit cI cC cZ cB cJ a_tx a_tx_signs a_tr a_tr_x a_tr_height a_tr_worth a_tr_ripe a_tr_foot a_tr_fork a_tr_settings tx_length tx_place tx_stop tx_signs tr_fruits tr_standings v_11 tr_comingStandings tr_x tr_height tr_worth (upd tr_ripe k1.toNatClampNeg k2)) H := hP
    have hD : va_D A (wd_X3_readFruit cI cC cZ cB cJ a_tx a_tx_signs a_tr a_tr_x a_tr_height a_tr_worth a_tr_ripe a_tr_foot a_tr_fork a_tr_settings tx_length tx_place tx_stop tx_signs tr_fruits tr_standings v_11 tr_comingStandings tr_x tr_height tr_worth (upd tr_ripe k1.toNatClampNeg k2)) := hD
    refine lv_iconst (v := 1) hx hb eX3_readFruit_93.2.2.2.2.2.2.2.2.1 (by decide) ?_
    exact W.zret (v := 1) hx hb hr rfl (fun t ht hW => ⟨⟨1, (tx_place, v_11, tr_x, tr_height, tr_worth, (upd tr_ripe k1.toNatClampNeg k2)), rfl, hp, by rw [ht]; exact hP, va_K.moved hW.alike hK, hD⟩, hS.F ht⟩) hS.2.2 eX3_readFruit_93.2.2.2.2.2.2.2.2.2
  · have hp := hp.2 hc
    refine lv_iconst (v := 0) hx hb eX3_readFruit_93.1 (by decide) ?_
    exact W.zret (v := 0) hx hb hr rfl (fun t ht hW => ⟨⟨0, (tx_place, tr_comingFruits, tr_x, tr_height, tr_worth, (upd tr_ripe k1.toNatClampNeg k2)), rfl, hp, by rw [ht]; exact hP, va_K.moved hW.alike hK, hD⟩, hS.F ht⟩) hS.2.2 eX3_readFruit_93.2.1
def ws_X3_readFruit_46 (post : Int32 → Int32 → Int32 → (Nat → Int32) → (Nat → Int32) → (Nat → Int32) → (Nat → Int32) → Prop) (tx_stop : Int32) (tx_signs : Nat → Int32) (x2 : Int32) (k1 : Int32) (k2 : Int32) (tx_place : Int32) (tr_comingFruits : Int32) (tr_x : Nat → Int32) (tr_height : Nat → Int32) (tr_worth : Nat → Int32) (tr_ripe : Nat → Int32) : Prop := vp_in k1 16 ∧ (vp_in x2 16 ∧ (∀ v_7 : Int32, v_7 = (upd tr_worth k1.toNatClampNeg k2) x2.toNatClampNeg → (¬ v_7 = (-1) → wp_X8_take (fun r_8 tx_place_9 => (r_8 = 0 → ws_X3_readFruit_82 post tx_stop tx_signs x2 x2 0 tx_place_9 tr_comingFruits tr_x tr_height (upd tr_worth k1.toNatClampNeg k2) tr_ripe) ∧ (¬ r_8 = 0 → wp_X8_readNumber (fun r_12 tx_place_13 => ws_X3_readFruit_82 post tx_stop tx_signs x2 x2 r_12 tx_place_13 tr_comingFruits tr_x tr_height (upd tr_worth k1.toNatClampNeg k2) tr_ripe) 1 tx_place_9 tx_stop tx_signs)) 64 tx_place tx_stop tx_signs) ∧ (v_7 = (-1) → post 0 tx_place tr_comingFruits tr_x tr_height (upd tr_worth k1.toNatClampNeg k2) tr_ripe)))
set_option maxHeartbeats 4000000 in
set_option maxRecDepth 100000 in
theorem ks_X3_readFruit_46 (C0 : gc cX3_readFruit (some .boolean) 3 RX3 (dC, dI) (tyl cI cC cZ cB cJ) A p s m args meth c) : ∀ (x2 : Int32) (k1 : Int32) (k2 : Int32) (tx_place : Int32) (tr_comingFruits : Int32) (tr_x : Nat → Int32) (tr_height : Nat → Int32) (tr_worth : Nat → Int32) (tr_ripe : Nat → Int32) (H : Heap) (locs : List Loc) (ls : Array Slot), (ws_X3_readFruit_46 post tx_stop tx_signs) x2 k1 k2 tx_place tr_comingFruits tr_x tr_height tr_worth tr_ripe → va_P (dC, dI) classes (wd_X3_readFruit cI cC cZ cB cJ a_tx a_tx_signs a_tr a_tr_x a_tr_height a_tr_worth a_tr_ripe a_tr_foot a_tr_fork a_tr_settings tx_length tx_place tx_stop tx_signs tr_fruits tr_standings tr_comingFruits tr_comingStandings tr_x tr_height tr_worth tr_ripe) H → va_D A (wd_X3_readFruit cI cC cZ cB cJ a_tx a_tx_signs a_tr a_tr_x a_tr_height a_tr_worth a_tr_ripe a_tr_foot a_tr_fork a_tr_settings tx_length tx_place tx_stop tx_signs tr_fruits tr_standings tr_comingFruits tr_comingStandings tr_x tr_height tr_worth tr_ripe) → va_S A s.heap H locs → lv_has ls 3 [(0, .ref a_tr), (1, .ref a_tx), (2, .int x2)] → W p l e rm_X3_readFruit s m args below meth c H locs 0 0 (MQ below (q_X3_readFruit dC dI cI cC cZ cB cJ A a_tx a_tx_signs a_tr a_tr_x a_tr_height a_tr_worth a_tr_ripe a_tr_foot a_tr_fork a_tr_settings tx_length tx_stop tx_signs tr_fruits tr_standings tr_comingStandings post) args s 0 0 A) (F0 m 46 ls [.int k2, .int k1, .ref a_tr_worth]) := by
  obtain ⟨hx, hb, hr, hml, hown, hts, hlocks, hA, hK, hN, tL, tM, hZL, hTL, hZM, hTM, hZX⟩ := id C0
  intro x2 k1 k2 tx_place tr_comingFruits tr_x tr_height tr_worth tr_ripe H locs ls hp hP hD hS hl
  unfold ws_X3_readFruit_46 at hp
  have hin := hp.1
  have hp := hp.2
  refine va_iast hx hb hK hP hD hS 5 0 rfl rfl hin eX3_readFruit_38.2.2.2.2.1 (fun H locs hP hD hS => ?_)
  have hP : va_P (dC, dI) classes (wd_X3_readFruit cI cC cZ cB cJ a_tx a_tx_signs a_tr a_tr_x a_tr_height a_tr_worth a_tr_ripe a_tr_foot a_tr_fork a_tr_settings tx_length tx_place tx_stop tx_signs tr_fruits tr_standings tr_comingFruits tr_comingStandings tr_x tr_height (upd tr_worth k1.toNatClampNeg k2) tr_ripe) H := hP
  have hD : va_D A (wd_X3_readFruit cI cC cZ cB cJ a_tx a_tx_signs a_tr a_tr_x a_tr_height a_tr_worth a_tr_ripe a_tr_foot a_tr_fork a_tr_settings tx_length tx_place tx_stop tx_signs tr_fruits tr_standings tr_comingFruits tr_comingStandings tr_x tr_height (upd tr_worth k1.toNatClampNeg k2) tr_ripe) := hD
  refine lv_aload_n hx hb eX3_readFruit_38.2.2.2.2.2.1 rfl (lv_at hl 0 rfl) ?_
  refine va_get (D := (dC, dI)) (ci := 3) (v := .ref a_tr_worth) (C := RX3) (T := TX3) (N := 11) hx hb hts i_X3 hown hK hP 2 rfl rfl 2 (Nat.le_of_ble_eq_true rfl) (hts _ q_51) (fun _ h9 => h9) rfl eX3_readFruit_38.2.2.2.2.2.2.1 ?_
  refine lv_iload_n hx hb eX3_readFruit_38.2.2.2.2.2.2.2.1 rfl (lv_at hl 2 rfl) ?_
  have hin := hp.1
  have hp := hp.2
  refine va_iald hx hb hK hP 5 0 rfl rfl hin eX3_readFruit_38.2.2.2.2.2.2.2.2.1 ?_
  refine lv_topi (fun v_7 ev_7 => ?_)
  have hp := hp v_7 ev_7
  refine lv_iconst (v := (-1)) hx hb eX3_readFruit_38.2.2.2.2.2.2.2.2.2.1 (by decide) ?_
  refine lv_icmp_ne (tgt := 59) hx hb eX3_readFruit_38.2.2.2.2.2.2.2.2.2.2.1 (by decide) (fun hc => ?_) (fun hc => ?_)
  · have hp := hp.1 hc
    refine lv_aload_n hx hb eX3_readFruit_38.2.2.2.2.2.2.2.2.2.2.2.2.2.1 rfl (lv_at hl 0 rfl) ?_
    refine va_get (D := (dC, dI)) (ci := 3) (v := .ref a_tr_ripe) (C := RX3) (T := TX3) (N := 11) hx hb hts i_X3 hown hK hP 2 rfl rfl 3 (Nat.le_of_ble_eq_true rfl) (hts _ q_52) (fun _ h9 => h9) rfl eX3_readFruit_38.2.2.2.2.2.2.2.2.2.2.2.2.2.2.1 ?_
    refine lv_iload_n hx hb eX3_readFruit_38.2.2.2.2.2.2.2.2.2.2.2.2.2.2.2 rfl (lv_at hl 2 rfl) ?_
    refine lv_aload_n hx hb eX3_readFruit_64.1 rfl (lv_at hl 1 rfl) ?_
    refine lv_bipush (v := 64) hx hb eX3_readFruit_64.2.1 (by decide) ?_
    refine g_calli (wc := (wd_X8_take cI cC cZ cB cJ a_tx a_tx_signs tx_length tx_place tx_stop tx_signs)) hP hD hS hA [0, 1] [2, 3, 4, 5, 6] rfl rfl rfl rfl (g_runV (As := [.int 64]) (rest := [.int x2, .ref a_tr_ripe]) C0 hP hD hS [0, 1] rfl rfl 0 8 rfl rfl (c_X8_take l dC dI cI cC cZ cB cJ a_tx a_tx_signs H.size 64 tx_length tx_place tx_stop tx_signs _ hp) q_41 q_44 q_42 q_43 q_5 h_X8_take rfl rfl ⟨Nat.le_of_ble_eq_true rfl, Nat.le_of_ble_eq_true rfl⟩ rfl rfl hl.1 rfl (lv_room (Nat.le_of_ble_eq_true rfl)) eX3_readFruit_64.2.2.1 ⟨Nat.zero_le _, Nat.zero_le _⟩) (fun r_8 u H locs hp hP hD hS => ?_)
    obtain ⟨tx_place_9, rfl⟩ : ∃ z, z = u := ⟨_, rfl⟩
    have hPD := PDs (ws' := (wd_X3_readFruit cI cC cZ cB cJ a_tx a_tx_signs a_tr a_tr_x a_tr_height a_tr_worth a_tr_ripe a_tr_foot a_tr_fork a_tr_settings tx_length tx_place_9 tx_stop tx_signs tr_fruits tr_standings tr_comingFruits tr_comingStandings tr_x tr_height (upd tr_worth k1.toNatClampNeg k2) tr_ripe)) hP hD [5, 6, 0, 1, 2, 3, 4] (by decide) rfl
    have hP := hPD.1
    have hD := hPD.2
    refine lv_if_eq (tgt := 81) hx hb eX3_readFruit_64.2.2.2.1 (by decide) (fun hc => ?_) (fun hc => ?_)
    · have hp := hp.1 hc
      refine lv_iconst (v := 0) hx hb eX3_readFruit_64.2.2.2.2.2.2.2.2.1 (by decide) ?_
      exact ks_X3_readFruit_82 C0 x2 x2 0 tx_place_9 tr_comingFruits tr_x tr_height (upd tr_worth k1.toNatClampNeg k2) tr_ripe H locs ls hp hP hD hS (lv_sub hl [0, 2] rfl)
    · have hp := hp.2 hc
      refine lv_aload_n hx hb eX3_readFruit_64.2.2.2.2.1 rfl (lv_at hl 1 rfl) ?_
      refine lv_iconst (v := 1) hx hb eX3_readFruit_64.2.2.2.2.2.1 (by decide) ?_
      refine g_calli (wc := (wd_X8_readNumber cI cC cZ cB cJ a_tx a_tx_signs tx_length tx_place_9 tx_stop tx_signs)) hP hD hS hA [0, 1] [2, 3, 4, 5, 6] rfl rfl rfl rfl (g_runV (As := [.int 1]) (rest := [.int x2, .ref a_tr_ripe]) C0 hP hD hS [0, 1] rfl rfl 0 8 rfl rfl (c_X8_readNumber l dC dI cI cC cZ cB cJ a_tx a_tx_signs H.size 1 tx_length tx_place_9 tx_stop tx_signs _ hp) q_37 q_40 q_38 q_39 q_5 h_X8_readNumber rfl rfl ⟨Nat.le_of_ble_eq_true rfl, Nat.le_of_ble_eq_true rfl⟩ rfl rfl hl.1 rfl (lv_room (Nat.le_of_ble_eq_true rfl)) eX3_readFruit_64.2.2.2.2.2.2.1 ⟨Nat.zero_le _, Nat.zero_le _⟩) (fun r_12 u H locs hp hP hD hS => ?_)
      obtain ⟨tx_place_13, rfl⟩ : ∃ z, z = u := ⟨_, rfl⟩
      have hPD := PDs (ws' := (wd_X3_readFruit cI cC cZ cB cJ a_tx a_tx_signs a_tr a_tr_x a_tr_height a_tr_worth a_tr_ripe a_tr_foot a_tr_fork a_tr_settings tx_length tx_place_13 tx_stop tx_signs tr_fruits tr_standings tr_comingFruits tr_comingStandings tr_x tr_height (upd tr_worth k1.toNatClampNeg k2) tr_ripe)) hP hD [5, 6, 0, 1, 2, 3, 4] (by decide) rfl
      have hP := hPD.1
      have hD := hPD.2
      refine lv_goto (tgt := 82) hx hb eX3_readFruit_64.2.2.2.2.2.2.2.1 (by decide) ?_
      exact ks_X3_readFruit_82 C0 x2 x2 r_12 tx_place_13 tr_comingFruits tr_x tr_height (upd tr_worth k1.toNatClampNeg k2) tr_ripe H locs ls hp hP hD hS (lv_sub hl [0, 2] rfl)
  · have hp := hp.2 hc
    refine lv_iconst (v := 0) hx hb eX3_readFruit_38.2.2.2.2.2.2.2.2.2.2.2.1 (by decide) ?_
    exact W.zret (v := 0) hx hb hr rfl (fun t ht hW => ⟨⟨0, (tx_place, tr_comingFruits, tr_x, tr_height, (upd tr_worth k1.toNatClampNeg k2), tr_ripe), rfl, hp, by rw [ht]; exact hP, va_K.moved hW.alike hK, hD⟩, hS.F ht⟩) hS.2.2 eX3_readFruit_38.2.2.2.2.2.2.2.2.2.2.2.2.1
end S_X3_readFruit
def wp_X3_readFruit (post : Int32 → Int32 → Int32 → (Nat → Int32) → (Nat → Int32) → (Nat → Int32) → (Nat → Int32) → Prop) (tx_place : Int32) (tx_stop : Int32) (tx_signs : Nat → Int32) (tr_comingFruits : Int32) (tr_x : Nat → Int32) (tr_height : Nat → Int32) (tr_worth : Nat → Int32) (tr_ripe : Nat → Int32) : Prop := wp_X3_readPair (fun r_1 tx_place_2 tr_x_3 tr_height_4 => (¬ r_1 = 0 → wp_X8_take (fun r_5 tx_place_6 => (r_5 = 0 → ws_X3_readFruit_46 post tx_stop tx_signs tr_comingFruits tr_comingFruits 1 tx_place_6 tr_comingFruits tr_x_3 tr_height_4 tr_worth tr_ripe) ∧ (¬ r_5 = 0 → wp_X8_readNumber (fun r_14 tx_place_15 => ws_X3_readFruit_46 post tx_stop tx_signs tr_comingFruits tr_comingFruits r_14 tx_place_15 tr_comingFruits tr_x_3 tr_height_4 tr_worth tr_ripe) 1 tx_place_6 tx_stop tx_signs)) 42 tx_place_2 tx_stop tx_signs) ∧ (r_1 = 0 → post 0 tx_place_2 tr_comingFruits tr_x_3 tr_height_4 tr_worth tr_ripe)) tr_comingFruits tx_place tx_stop tx_signs tr_x tr_height
set_option maxHeartbeats 4000000 in
set_option maxRecDepth 100000 in
theorem c_X3_readFruit (l : Launch) (dC : Nat → ClassId) (dI : Nat → Nat → Nat) (cI cC cZ cB cJ : ClassId) (a_tx : Nat) (a_tx_signs : Nat) (a_tr : Nat) (a_tr_x : Nat) (a_tr_height : Nat) (a_tr_worth : Nat) (a_tr_ripe : Nat) (a_tr_foot : Nat) (a_tr_fork : Nat) (a_tr_settings : Nat) (sz : Nat) (tx_length : Int32) (tx_place : Int32) (tx_stop : Int32) (tx_signs : Nat → Int32) (tr_fruits : Int32) (tr_standings : Int32) (tr_comingFruits : Int32) (tr_comingStandings : Int32) (tr_x : Nat → Int32) (tr_height : Nat → Int32) (tr_worth : Nat → Int32) (tr_ripe : Nat → Int32) (post : Int32 → Int32 → Int32 → (Nat → Int32) → (Nat → Int32) → (Nat → Int32) → (Nat → Int32) → Prop) (hw : wp_X3_readFruit post tx_place tx_stop tx_signs tr_comingFruits tr_x tr_height tr_worth tr_ripe) : Met l yX3_readFruit (gw yX3_readFruit cX3_readFruit 3 (some .boolean)) rm_X3_readFruit (va_Pc [.ref a_tr, .ref a_tx] (gPre (dC, dI) (tyl cI cC cZ cB cJ) (wd_X3_readFruit cI cC cZ cB cJ a_tx a_tx_signs a_tr a_tr_x a_tr_height a_tr_worth a_tr_ripe a_tr_foot a_tr_fork a_tr_settings tx_length tx_place tx_stop tx_signs tr_fruits tr_standings tr_comingFruits tr_comingStandings tr_x tr_height tr_worth tr_ripe) sz)) (q_X3_readFruit dC dI cI cC cZ cB cJ (va_A (wd_X3_readFruit cI cC cZ cB cJ a_tx a_tx_signs a_tr a_tr_x a_tr_height a_tr_worth a_tr_ripe a_tr_foot a_tr_fork a_tr_settings tx_length tx_place tx_stop tx_signs tr_fruits tr_standings tr_comingFruits tr_comingStandings tr_x tr_height tr_worth tr_ripe) sz) a_tx a_tx_signs a_tr a_tr_x a_tr_height a_tr_worth a_tr_ripe a_tr_foot a_tr_fork a_tr_settings tx_length tx_stop tx_signs tr_fruits tr_standings tr_comingStandings post) 0 0 (va_A (wd_X3_readFruit cI cC cZ cB cJ a_tx a_tx_signs a_tr a_tr_x a_tr_height a_tr_worth a_tr_ripe a_tr_foot a_tr_fork a_tr_settings tx_length tx_place tx_stop tx_signs tr_fruits tr_standings tr_comingFruits tr_comingStandings tr_x tr_height tr_worth tr_ripe) sz) := by
  refine g_enter (own := RX3) (dC, dI) (tyl cI cC cZ cB cJ) (wd_X3_readFruit cI cC cZ cB cJ a_tx a_tx_signs a_tr a_tr_x a_tr_height a_tr_worth a_tr_ripe a_tr_foot a_tr_fork a_tr_settings tx_length tx_place tx_stop tx_signs tr_fruits tr_standings tr_comingFruits tr_comingStandings tr_x tr_height tr_worth tr_ripe) sz [.ref a_tr, .ref a_tx] (fun A => q_X3_readFruit dC dI cI cC cZ cB cJ A a_tx a_tx_signs a_tr a_tr_x a_tr_height a_tr_worth a_tr_ripe a_tr_foot a_tr_fork a_tr_settings tx_length tx_stop tx_signs tr_fruits tr_standings tr_comingStandings post) (by decide) rfl (Nat.le_of_ble_eq_true rfl) ?_
  intro p e s m args below meth c A H locs ls C0 hP hD hS hl
  have hl : lv_has ls 3 [(0, .ref a_tr), (1, .ref a_tx)] := hl
  obtain ⟨hx, hb, hr, hml, hown, hts, hlocks, hA, hK, hN, tL, tM, hZL, hTL, hZM, hTM, hZX⟩ := id C0
  have hp := hw
  unfold wp_X3_readFruit at hp
  refine lv_aload_n hx hb eX3_readFruit_0.1 rfl (lv_at hl 0 rfl) ?_
  refine va_get (D := (dC, dI)) (ci := 3) (v := .int tr_comingFruits) (C := RX3) (T := TX3) (N := 11) hx hb hts i_X3 hown hK hP 2 rfl rfl 9 (Nat.le_of_ble_eq_true rfl) (hts _ q_19) (fun _ h9 => h9) rfl eX3_readFruit_0.2.1 ?_
  refine lv_istore_n (lv' := [(2, .int tr_comingFruits), (0, .ref a_tr), (1, .ref a_tx)]) hx hb eX3_readFruit_0.2.2.1 rfl hl (by decide) rfl (fun ls hl => ?_)
  refine lv_aload_n hx hb eX3_readFruit_0.2.2.2.1 rfl (lv_at hl 2 rfl) ?_
  refine lv_aload_n hx hb eX3_readFruit_0.2.2.2.2 rfl (lv_at hl 1 rfl) ?_
  refine va_get (D := (dC, dI)) (ci := 3) (v := .ref a_tr_x) (C := RX3) (T := TX3) (N := 11) hx hb hts i_X3 hown hK hP 2 rfl rfl 0 (Nat.le_of_ble_eq_true rfl) (hts _ q_45) (fun _ h9 => h9) rfl eX3_readFruit_7.1 ?_
  refine lv_aload_n hx hb eX3_readFruit_7.2.1 rfl (lv_at hl 1 rfl) ?_
  refine va_get (D := (dC, dI)) (ci := 3) (v := .ref a_tr_height) (C := RX3) (T := TX3) (N := 11) hx hb hts i_X3 hown hK hP 2 rfl rfl 1 (Nat.le_of_ble_eq_true rfl) (hts _ q_46) (fun _ h9 => h9) rfl eX3_readFruit_7.2.2.1 ?_
  refine lv_iload_n hx hb eX3_readFruit_7.2.2.2.1 rfl (lv_at hl 0 rfl) ?_
  refine g_calli (wc := (wd_X3_readPair cI cC cZ cB cJ a_tx a_tx_signs a_tr_x a_tr_height tx_length tx_place tx_stop tx_signs tr_x tr_height)) hP hD hS hA [0, 1, 3, 4] [2, 5, 6] rfl rfl rfl rfl (g_runS (As := [.ref a_tx, .ref a_tr_x, .ref a_tr_height, .int tr_comingFruits]) (rest := []) C0 hP hD hS [0, 1, 3, 4] rfl rfl (c_X3_readPair l dC dI cI cC cZ cB cJ a_tx a_tx_signs a_tr_x a_tr_height H.size tr_comingFruits tx_length tx_place tx_stop tx_signs tr_x tr_height _ hp) q_47 q_50 q_49 q_48 h_X3_readPair rfl rfl ⟨Nat.le_of_ble_eq_true rfl, Nat.le_of_ble_eq_true rfl⟩ rfl rfl hl.1 rfl (lv_room (Nat.le_of_ble_eq_true rfl)) eX3_readFruit_7.2.2.2.2.1 ⟨Nat.zero_le _, Nat.zero_le _⟩) (fun r_1 u H locs hp hP hD hS => ?_)
  obtain ⟨tx_place_2, tr_x_3, tr_height_4⟩ := u
  have hPD := PDs (ws' := (wd_X3_readFruit cI cC cZ cB cJ a_tx a_tx_signs a_tr a_tr_x a_tr_height a_tr_worth a_tr_ripe a_tr_foot a_tr_fork a_tr_settings tx_length tx_place_2 tx_stop tx_signs tr_fruits tr_standings tr_comingFruits tr_comingStandings tr_x_3 tr_height_4 tr_worth tr_ripe)) hP hD [3, 4, 0, 5, 6, 1, 2] (by decide) rfl
  have hP := hPD.1
  have hD := hPD.2
  refine lv_if_ne (tgt := 23) hx hb eX3_readFruit_7.2.2.2.2.2.1 (by decide) (fun hc => ?_) (fun hc => ?_)
  · have hp := hp.1 hc
    refine lv_aload_n hx hb eX3_readFruit_7.2.2.2.2.2.2.2.2.1 rfl (lv_at hl 1 rfl) ?_
    refine va_get (D := (dC, dI)) (ci := 3) (v := .ref a_tr_worth) (C := RX3) (T := TX3) (N := 11) hx hb hts i_X3 hown hK hP 2 rfl rfl 2 (Nat.le_of_ble_eq_true rfl) (hts _ q_51) (fun _ h9 => h9) rfl eX3_readFruit_7.2.2.2.2.2.2.2.2.2.1 ?_
    refine lv_iload_n hx hb eX3_readFruit_7.2.2.2.2.2.2.2.2.2.2.1 rfl (lv_at hl 0 rfl) ?_
    refine lv_aload_n hx hb eX3_readFruit_7.2.2.2.2.2.2.2.2.2.2.2.1 rfl (lv_at hl 2 rfl) ?_
    refine lv_bipush (v := 42) hx hb eX3_readFruit_7.2.2.2.2.2.2.2.2.2.2.2.2.1 (by decide) ?_
    refine g_calli (wc := (wd_X8_take cI cC cZ cB cJ a_tx a_tx_signs tx_length tx_place_2 tx_stop tx_signs)) hP hD hS hA [0, 1] [2, 3, 4, 5, 6] rfl rfl rfl rfl (g_runV (As := [.int 42]) (rest := [.int tr_comingFruits, .ref a_tr_worth]) C0 hP hD hS [0, 1] rfl rfl 0 8 rfl rfl (c_X8_take l dC dI cI cC cZ cB cJ a_tx a_tx_signs H.size 42 tx_length tx_place_2 tx_stop tx_signs _ hp) q_41 q_44 q_42 q_43 q_5 h_X8_take rfl rfl ⟨Nat.le_of_ble_eq_true rfl, Nat.le_of_ble_eq_true rfl⟩ rfl rfl hl.1 rfl (lv_room (Nat.le_of_ble_eq_true rfl)) eX3_readFruit_7.2.2.2.2.2.2.2.2.2.2.2.2.2.1 ⟨Nat.zero_le _, Nat.zero_le _⟩) (fun r_5 u H locs hp hP hD hS => ?_)
    obtain ⟨tx_place_6, rfl⟩ : ∃ z, z = u := ⟨_, rfl⟩
    have hPD := PDs (ws' := (wd_X3_readFruit cI cC cZ cB cJ a_tx a_tx_signs a_tr a_tr_x a_tr_height a_tr_worth a_tr_ripe a_tr_foot a_tr_fork a_tr_settings tx_length tx_place_6 tx_stop tx_signs tr_fruits tr_standings tr_comingFruits tr_comingStandings tr_x_3 tr_height_4 tr_worth tr_ripe)) hP hD [5, 6, 0, 1, 2, 3, 4] (by decide) rfl
    have hP := hPD.1
    have hD := hPD.2
    refine lv_if_eq (tgt := 45) hx hb eX3_readFruit_7.2.2.2.2.2.2.2.2.2.2.2.2.2.2.1 (by decide) (fun hc => ?_) (fun hc => ?_)
    · have hp := hp.1 hc
      refine lv_iconst (v := 1) hx hb eX3_readFruit_38.2.2.2.1 (by decide) ?_
      exact ks_X3_readFruit_46 C0 tr_comingFruits tr_comingFruits 1 tx_place_6 tr_comingFruits tr_x_3 tr_height_4 tr_worth tr_ripe H locs ls hp hP hD hS (lv_sub hl [1, 2, 0] rfl)
    · have hp := hp.2 hc
      refine lv_aload_n hx hb eX3_readFruit_7.2.2.2.2.2.2.2.2.2.2.2.2.2.2.2 rfl (lv_at hl 2 rfl) ?_
      refine lv_iconst (v := 1) hx hb eX3_readFruit_38.1 (by decide) ?_
      refine g_calli (wc := (wd_X8_readNumber cI cC cZ cB cJ a_tx a_tx_signs tx_length tx_place_6 tx_stop tx_signs)) hP hD hS hA [0, 1] [2, 3, 4, 5, 6] rfl rfl rfl rfl (g_runV (As := [.int 1]) (rest := [.int tr_comingFruits, .ref a_tr_worth]) C0 hP hD hS [0, 1] rfl rfl 0 8 rfl rfl (c_X8_readNumber l dC dI cI cC cZ cB cJ a_tx a_tx_signs H.size 1 tx_length tx_place_6 tx_stop tx_signs _ hp) q_37 q_40 q_38 q_39 q_5 h_X8_readNumber rfl rfl ⟨Nat.le_of_ble_eq_true rfl, Nat.le_of_ble_eq_true rfl⟩ rfl rfl hl.1 rfl (lv_room (Nat.le_of_ble_eq_true rfl)) eX3_readFruit_38.2.1 ⟨Nat.zero_le _, Nat.zero_le _⟩) (fun r_14 u H locs hp hP hD hS => ?_)
      obtain ⟨tx_place_15, rfl⟩ : ∃ z, z = u := ⟨_, rfl⟩
      have hPD := PDs (ws' := (wd_X3_readFruit cI cC cZ cB cJ a_tx a_tx_signs a_tr a_tr_x a_tr_height a_tr_worth a_tr_ripe a_tr_foot a_tr_fork a_tr_settings tx_length tx_place_15 tx_stop tx_signs tr_fruits tr_standings tr_comingFruits tr_comingStandings tr_x_3 tr_height_4 tr_worth tr_ripe)) hP hD [5, 6, 0, 1, 2, 3, 4] (by decide) rfl
      have hP := hPD.1
      have hD := hPD.2
      refine lv_goto (tgt := 46) hx hb eX3_readFruit_38.2.2.1 (by decide) ?_
      exact ks_X3_readFruit_46 C0 tr_comingFruits tr_comingFruits r_14 tx_place_15 tr_comingFruits tr_x_3 tr_height_4 tr_worth tr_ripe H locs ls hp hP hD hS (lv_sub hl [1, 2, 0] rfl)
  · have hp := hp.2 hc
    refine lv_iconst (v := 0) hx hb eX3_readFruit_7.2.2.2.2.2.2.1 (by decide) ?_
    exact W.zret (v := 0) hx hb hr rfl (fun t ht hW => ⟨⟨0, (tx_place_2, tr_comingFruits, tr_x_3, tr_height_4, tr_worth, tr_ripe), rfl, hp, by rw [ht]; exact hP, va_K.moved hW.alike hK, hD⟩, hS.F ht⟩) hS.2.2 eX3_readFruit_7.2.2.2.2.2.2.2.1
