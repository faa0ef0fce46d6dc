abbrev wd_X8_add (cI cC cZ cB cJ : ClassId) (xI uY : Nat) (qL qJ rX : Int32) (qM : Nat -> Int32) : va_W := [(xI, .inr (8, [.ref uY, .int qL, .int qJ, .int rX])), (uY, .inl (cC, 80, .inl qM))]
abbrev q_X8_add (dC : Nat -> ClassId) (dI : Nat -> Nat -> Nat) (cI cC cZ cB cJ : ClassId) (A : Nat -> Prop) (xI uY : Nat) (qJ rX : Int32) (post : Int32 -> Int32 -> (Nat -> Int32) -> Prop) : Array Value -> State -> Outcome -> State -> Prop := va_Qi (fun (r : Int32) (u : Int32 × (Nat -> Int32)) => post r u.1 u.2) (fun u t => gB (dC, dI) (tyl cI cC cZ cB cJ) A (wd_X8_add cI cC cZ cB cJ xI uY u.1 qJ rX u.2) t) A
abbrev rm_X8_add : Room := { frames := 0, cells := 0, slots := 0, locals := 0 }
section S_X8_add
variable {p : Program} {l : Launch} {e : Env} {s : State} {m : MethodId} {args : Array Value} {below : List Frame} {meth : Method} {c : Code} {dC : Nat -> ClassId} {dI : Nat -> Nat -> Nat} {cI cC cZ cB cJ : ClassId} {A : Nat -> Prop} {xI uY : Nat} {qJ rX : Int32} {post : Int32 -> Int32 -> (Nat -> Int32) -> Prop}
def ws_X8_add_14 (post : Int32 -> Int32 -> (Nat -> Int32) -> Prop) (next : Int32 -> Int32 -> Int32 -> (Nat -> Int32) -> Prop) (x1 x2 qL : Int32) (qM : Nat -> Int32) : Prop := (x2 < 0 -> post qL qL qM) /\ (¬ x2 < 0 -> ∀ v_1 : Int32, v_1 = (x1.toUInt32 >>> (x2.toUInt32 &&& Int32.toUInt32 31)).toInt32 -> ∀ v_2 : Int32, v_2 = ((v_1 &&& 255).toUInt32 % 65536).toInt32 -> vp_in qL 80 /\ (∀ v_3 : Int32, v_3 = qL + 1 -> ∀ v_4 : Int32, v_4 = x2 + (-8) -> next x1 v_4 v_3 (upd qM qL.toNatClampNeg (vp_nar .char v_2))))
noncomputable def wb_X8_add_14 (post : Int32 -> Int32 -> (Nat -> Int32) -> Prop) : Nat -> Int32 -> Int32 -> Int32 -> (Nat -> Int32) -> Prop := fun n => Nat.rec (motive := fun _ => Int32 -> Int32 -> Int32 -> (Nat -> Int32) -> Prop) (fun _ _ _ _ => False) (fun _ ih => ws_X8_add_14 post ih) n
set_option maxHeartbeats 4000000 in
set_option maxRecDepth 100000 in
theorem ks_X8_add_14 (C0 : gc aUH (some .int) 3 RX8 (dC, dI) (tyl cI cC cZ cB cJ) A p s m args meth c) {next : Int32 -> Int32 -> Int32 -> (Nat -> Int32) -> Prop} (hKn : ∀ (x1 : Int32) (x2 : Int32) (qL : Int32) (qM : Nat -> Int32) (H : Heap) (locs : List Loc) (ls : Array Slot), next x1 x2 qL qM -> va_P (dC, dI) classes (wd_X8_add cI cC cZ cB cJ xI uY qL qJ rX qM) H -> va_D A (wd_X8_add cI cC cZ cB cJ xI uY qL qJ rX qM) -> va_S A s.heap H locs -> lv_has ls 3 [(0, .ref xI), (1, .int x1), (2, .int x2)] -> W p l e rm_X8_add s m args below meth c H locs 0 0 (MQ below (q_X8_add dC dI cI cC cZ cB cJ A xI uY qJ rX post) args s 0 0 A) (F0 m 14 ls [])) : ∀ (x1 x2 qL : Int32) (qM : Nat -> Int32) (H : Heap) (locs : List Loc) (ls : Array Slot), (ws_X8_add_14 post next) x1 x2 qL qM -> va_P (dC, dI) classes (wd_X8_add cI cC cZ cB cJ xI uY qL qJ rX qM) H -> va_D A (wd_X8_add cI cC cZ cB cJ xI uY qL qJ rX qM) -> va_S A s.heap H locs -> lv_has ls 3 [(0, .ref xI), (1, .int x1), (2, .int x2)] -> W p l e rm_X8_add s m args below meth c H locs 0 0 (MQ below (q_X8_add dC dI cI cC cZ cB cJ A xI uY qJ rX post) args s 0 0 A) (F0 m 14 ls []) := by
  obtain ⟨hx, hb, hr, hml, hown, hts, hlocks, hA, hK, hN, tL, tM, hZL, hTL, hZM, hTM, hZX⟩ := id C0
  intro x1 x2 qL qM H locs ls hp hP hD hS hl
  unfold ws_X8_add_14 at hp
  refine lv_iload_n hx hb eX8_add_0.2.2.2.2.2.2.2.2.1 rfl (lv_at hl 2 rfl) ?_
  refine lv_if_lt (tgt := 51) hx hb eX8_add_0.2.2.2.2.2.2.2.2.2.1 (by decide) (fun hc => ?_) (fun hc => ?_)
  · have hp := hp.1 hc
    refine lv_aload_n hx hb eX8_add_28.2.2.2.2.2.2.2.2.2.2.2.2.2.1 rfl (lv_at hl 0 rfl) ?_
    refine va_get (D := (dC, dI)) (ci := 8) (v := .int qL) (C := RX8) (T := TX8) (N := 4) hx hb hts i_X8 hown hK hP 0 rfl rfl 1 (lbz rfl) (hts _ q_1) (fun _ h9 => h9) rfl eX8_add_28.2.2.2.2.2.2.2.2.2.2.2.2.2.2.1 ?_
    exact W.iret (v := qL) hx hb hr (fun t ht hW => ⟨⟨qL, (qL, qM), rfl, hp, by rw [ht]; exact hP, va_K.moved hW.alike hK, hD⟩, hS.F ht⟩) hS.2.2 eX8_add_28.2.2.2.2.2.2.2.2.2.2.2.2.2.2.2
  · have hp := hp.2 hc
    refine lv_aload_n hx hb eX8_add_0.2.2.2.2.2.2.2.2.2.2.1 rfl (lv_at hl 0 rfl) ?_
    refine va_get (D := (dC, dI)) (ci := 8) (v := .ref uY) (C := RX8) (T := TX8) (N := 4) hx hb hts i_X8 hown hK hP 0 rfl rfl 0 (lbz rfl) (hts _ q_2) (fun _ h9 => h9) rfl eX8_add_0.2.2.2.2.2.2.2.2.2.2.2.1 ?_
    refine lv_aload_n hx hb eX8_add_0.2.2.2.2.2.2.2.2.2.2.2.2.1 rfl (lv_at hl 0 rfl) ?_
    refine va_get (D := (dC, dI)) (ci := 8) (v := .int qL) (C := RX8) (T := TX8) (N := 4) hx hb hts i_X8 hown hK hP 0 rfl rfl 1 (lbz rfl) (hts _ q_1) (fun _ h9 => h9) rfl eX8_add_0.2.2.2.2.2.2.2.2.2.2.2.2.2.1 ?_
    refine lv_iload_n hx hb eX8_add_0.2.2.2.2.2.2.2.2.2.2.2.2.2.2.1 rfl (lv_at hl 1 rfl) ?_
    refine lv_iload_n hx hb eX8_add_0.2.2.2.2.2.2.2.2.2.2.2.2.2.2.2 rfl (lv_at hl 2 rfl) ?_
    refine lv_iushr hx hb eX8_add_28.1 rfl ?_
    refine lv_topi (fun v_1 aFJ => ?_)
    have hp := hp v_1 aFJ
    refine lv_sipush (v := 255) hx hb eX8_add_28.2.1 sp_255 ?_
    refine lv_iand hx hb eX8_add_28.2.2.1 ?_
    refine lv_i2c hx hb eX8_add_28.2.2.2.1 rfl ?_
    refine lv_topi (fun v_2 aGO => ?_)
    have hp := hp v_2 aGO
    have hin := hp.1
    have hp := hp.2
    refine va_cast hx hb hK hP hD hS 1 1 rfl rfl hin eX8_add_28.2.2.2.2.1 (fun H locs hP hD hS => ?_)
    have hPD := PDw (ws' := (wd_X8_add cI cC cZ cB cJ xI uY qL qJ rX (upd qM qL.toNatClampNeg (vp_nar .char v_2)))) hP hD rfl
    have hP := hPD.1
    have hD := hPD.2
    refine lv_aload_n hx hb eX8_add_28.2.2.2.2.2.1 rfl (lv_at hl 0 rfl) ?_
    refine lv_dup hx hb eX8_add_28.2.2.2.2.2.2.1 rfl ?_
    refine va_get (D := (dC, dI)) (ci := 8) (v := .int qL) (C := RX8) (T := TX8) (N := 4) hx hb hts i_X8 hown hK hP 0 rfl rfl 1 (lbz rfl) (hts _ q_1) (fun _ h9 => h9) rfl eX8_add_28.2.2.2.2.2.2.2.1 ?_
    refine lv_iconst (v := 1) hx hb eX8_add_28.2.2.2.2.2.2.2.2.1 aDx ?_
    refine lv_iadd hx hb eX8_add_28.2.2.2.2.2.2.2.2.2.1 ?_
    refine lv_topi (fun v_3 aGW => ?_)
    have hp := hp v_3 aGW
    refine va_put (D := (dC, dI)) (ci := 8) (v := .int v_3) (ty := .int) (C := RX8) (T := TX8) (N := 4) hx hb hts i_X8 tyX8 tyX8_ok nmX8 hown hK hP hD hS 0 rfl rfl 1 (lbz rfl) (hts _ q_1) (fun _ h9 => h9) rfl (tyX8_ok 1 (lbz rfl)) rfl rfl (lbz rfl) eX8_add_28.2.2.2.2.2.2.2.2.2.2.1 (fun H locs hP hD hS => ?_)
    have hPD := PDw (ws' := (wd_X8_add cI cC cZ cB cJ xI uY v_3 qJ rX (upd qM qL.toNatClampNeg (vp_nar .char v_2)))) hP hD rfl
    have hP := hPD.1
    have hD := hPD.2
    obtain ⟨v_4, aHM⟩ : ∃ y : Int32, y = x2 + (-8) := ⟨_, rfl⟩
    refine lv_iinc (v := v_4) (lv' := [(2, .int v_4), (0, .ref xI), (1, .int x1)]) hx hb eX8_add_28.2.2.2.2.2.2.2.2.2.2.2.1 hl (k := 2) rfl (by rw [aHM]; rfl) (by decide) rfl (fun ls hl => ?_)
    have hp := hp v_4 aHM
    refine lv_goto (tgt := 14) hx hb eX8_add_28.2.2.2.2.2.2.2.2.2.2.2.2.1 (by decide) ?_
    exact hKn x1 v_4 v_3 (upd qM qL.toNatClampNeg (vp_nar .char v_2)) H locs ls hp hP hD hS (lv_sub hl [1, 2, 0] rfl)
set_option maxHeartbeats 4000000 in
set_option maxRecDepth 100000 in
theorem kb_X8_add_14 (C0 : gc aUH (some .int) 3 RX8 (dC, dI) (tyl cI cC cZ cB cJ) A p s m args meth c) : ∀ (n : Nat), ∀ (x1 x2 qL : Int32) (qM : Nat -> Int32) (H : Heap) (locs : List Loc) (ls : Array Slot), (wb_X8_add_14 post n) x1 x2 qL qM -> va_P (dC, dI) classes (wd_X8_add cI cC cZ cB cJ xI uY qL qJ rX qM) H -> va_D A (wd_X8_add cI cC cZ cB cJ xI uY qL qJ rX qM) -> va_S A s.heap H locs -> lv_has ls 3 [(0, .ref xI), (1, .int x1), (2, .int x2)] -> W p l e rm_X8_add s m args below meth c H locs 0 0 (MQ below (q_X8_add dC dI cI cC cZ cB cJ A xI uY qJ rX post) args s 0 0 A) (F0 m 14 ls []) := by
  intro n
  induction n with
  | zero =>
    intro x1 x2 qL qM H locs ls hp
    exact False.elim hp
  | succ n ih =>
    intro x1 x2 qL qM H locs ls hp
    exact ks_X8_add_14 C0 ih x1 x2 qL qM H locs ls hp
end S_X8_add
def wp_X8_add (post : Int32 -> Int32 -> (Nat -> Int32) -> Prop) (p0 qL : Int32) (qM : Nat -> Int32) : Prop := (qL <= 76 -> ∃ n : Nat, wb_X8_add_14 post n p0 24 qL qM) /\ (¬ qL <= 76 -> post (-1) qL qM)
set_option maxHeartbeats 4000000 in
set_option maxRecDepth 100000 in
theorem c_X8_add (l : Launch) (dC : Nat -> ClassId) (dI : Nat -> Nat -> Nat) (cI cC cZ cB cJ : ClassId) (xI uY sz : Nat) (p0 qL qJ rX : Int32) (qM : Nat -> Int32) (post : Int32 -> Int32 -> (Nat -> Int32) -> Prop) (hw : wp_X8_add post p0 qL qM) : Met l yX8_add (gw yX8_add aUH 3 (some .int)) rm_X8_add (va_Pc [.ref xI, .int p0] (gPre (dC, dI) (tyl cI cC cZ cB cJ) (wd_X8_add cI cC cZ cB cJ xI uY qL qJ rX qM) sz)) (q_X8_add dC dI cI cC cZ cB cJ (va_A (wd_X8_add cI cC cZ cB cJ xI uY qL qJ rX qM) sz) xI uY qJ rX post) 0 0 (va_A (wd_X8_add cI cC cZ cB cJ xI uY qL qJ rX qM) sz) := by
  refine aBJ (own := RX8) (dC, dI) (tyl cI cC cZ cB cJ) (wd_X8_add cI cC cZ cB cJ xI uY qL qJ rX qM) sz [.ref xI, .int p0] (fun A => q_X8_add dC dI cI cC cZ cB cJ A xI uY qJ rX post) pn_RX8 rfl (lbz rfl) ?_
  intro p e s m args below meth c A H locs ls C0 hP hD hS hl
  have hl : lv_has ls 3 [(0, .ref xI), (1, .int p0)] := hl
  obtain ⟨hx, hb, hr, hml, hown, hts, hlocks, hA, hK, hN, tL, tM, hZL, hTL, hZM, hTM, hZX⟩ := id C0
  have hp := hw
  unfold wp_X8_add at hp
  refine lv_aload_n hx hb eX8_add_0.1 rfl (lv_at hl 0 rfl) ?_
  refine va_get (D := (dC, dI)) (ci := 8) (v := .int qL) (C := RX8) (T := TX8) (N := 4) hx hb hts i_X8 hown hK hP 0 rfl rfl 1 (lbz rfl) (hts _ q_1) (fun _ h9 => h9) rfl eX8_add_0.2.1 ?_
  refine lv_bipush (v := 76) hx hb eX8_add_0.2.2.1 bp_76 ?_
  refine lv_icmp_le (tgt := 11) hx hb eX8_add_0.2.2.2.1 (by decide) (fun hc => ?_) (fun hc => ?_)
  · have hp := hp.1 hc
    refine lv_bipush (v := 24) hx hb eX8_add_0.2.2.2.2.2.2.1 bp_24 ?_
    refine lv_istore_n (lv' := [(2, .int 24), (0, .ref xI), (1, .int p0)]) hx hb eX8_add_0.2.2.2.2.2.2.2.1 rfl hl (by decide) rfl (fun ls hl => ?_)
    obtain ⟨n9, hp⟩ := hp
    exact kb_X8_add_14 C0 n9 p0 24 qL qM H locs ls hp hP hD hS (lv_sub hl [1, 2, 0] rfl)
  · have hp := hp.2 hc
    refine lv_iconst (v := (-1)) hx hb eX8_add_0.2.2.2.2.1 aEJ ?_
    exact W.iret (v := (-1)) hx hb hr (fun t ht hW => ⟨⟨(-1), (qL, qM), rfl, hp, by rw [ht]; exact hP, va_K.moved hW.alike hK, hD⟩, hS.F ht⟩) hS.2.2 eX8_add_0.2.2.2.2.2.1
abbrev wd_X9_sign (cI cC cZ cB cJ : ClassId) (a_x xI xH xB vI wY xX yA xY uD uY : Nat) (qL qJ rX : Int32) (qM : Nat -> Int32) : va_W := [(a_x, .inr (9, [.ref xI, .ref xH, .ref xB, .ref vI, .ref wY, .ref xX, .ref yA, .ref xY, .ref uD])), (xI, .inr (8, [.ref uY, .int qL, .int qJ, .int rX])), (uY, .inl (cC, 80, .inl qM))]
abbrev q_X9_sign (dC : Nat -> ClassId) (dI : Nat -> Nat -> Nat) (cI cC cZ cB cJ : ClassId) (A : Nat -> Prop) (a_x xI xH xB vI wY xX yA xY uD uY : Nat) (qJ rX : Int32) (post : Int32 -> Int32 -> (Nat -> Int32) -> Prop) : Array Value -> State -> Outcome -> State -> Prop := va_Qi (fun (r : Int32) (u : Int32 × (Nat -> Int32)) => post r u.1 u.2) (fun u t => gB (dC, dI) (tyl cI cC cZ cB cJ) A (wd_X9_sign cI cC cZ cB cJ a_x xI xH xB vI wY xX yA xY uD uY u.1 qJ rX u.2) t) A
abbrev rm_X9_sign : Room := { frames := 1, cells := 0, slots := 0, locals := 22 }
def wp_X9_sign (post : Int32 -> Int32 -> (Nat -> Int32) -> Prop) (p0 qL : Int32) (qM : Nat -> Int32) : Prop := wp_X8_add (fun r_1 tx_length_2 tx_signs_3 => post r_1 tx_length_2 tx_signs_3) p0 qL qM
set_option maxHeartbeats 4000000 in
set_option maxRecDepth 100000 in
theorem c_X9_sign (l : Launch) (dC : Nat -> ClassId) (dI : Nat -> Nat -> Nat) (cI cC cZ cB cJ : ClassId) (a_x xI xH xB vI wY xX yA xY uD uY sz : Nat) (p0 qL qJ rX : Int32) (qM : Nat -> Int32) (post : Int32 -> Int32 -> (Nat -> Int32) -> Prop) (hw : wp_X9_sign post p0 qL qM) : Met l yX9_sign (gw yX9_sign cX9_sign 2 (some .int)) rm_X9_sign (va_Pc [.ref a_x, .int p0] (gPre (dC, dI) (tyl cI cC cZ cB cJ) (wd_X9_sign cI cC cZ cB cJ a_x xI xH xB vI wY xX yA xY uD uY qL qJ rX qM) sz)) (q_X9_sign dC dI cI cC cZ cB cJ (va_A (wd_X9_sign cI cC cZ cB cJ a_x xI xH xB vI wY xX yA xY uD uY qL qJ rX qM) sz) a_x xI xH xB vI wY xX yA xY uD uY qJ rX post) 0 0 (va_A (wd_X9_sign cI cC cZ cB cJ a_x xI xH xB vI wY xX yA xY uD uY qL qJ rX qM) sz) := by
  refine aBJ (own := RX9) (dC, dI) (tyl cI cC cZ cB cJ) (wd_X9_sign cI cC cZ cB cJ a_x xI xH xB vI wY xX yA xY uD uY qL qJ rX qM) sz [.ref a_x, .int p0] (fun A => q_X9_sign dC dI cI cC cZ cB cJ A a_x xI xH xB vI wY xX yA xY uD uY qJ rX post) pn_RX9 rfl (lbz rfl) ?_
  intro p e s m args below meth c A H locs ls C0 hP hD hS hl
  have hl : lv_has ls 2 [(0, .ref a_x), (1, .int p0)] := hl
  obtain ⟨hx, hb, hr, hml, hown, hts, hlocks, hA, hK, hN, tL, tM, hZL, hTL, hZM, hTM, hZX⟩ := id C0
  have hp := hw
  unfold wp_X9_sign at hp
  refine lv_aload_n hx hb eX9_sign_0.1 rfl (lv_at hl 0 rfl) ?_
  refine va_get (D := (dC, dI)) (ci := 9) (v := .ref xI) (C := RX9) (T := TX9) (N := 9) hx hb hts aC3 hown hK hP 0 rfl rfl 0 (lbz rfl) (hts _ q_3) (fun _ h9 => h9) rfl eX9_sign_0.2.1 ?_
  refine lv_iload_n hx hb eX9_sign_0.2.2.1 rfl (lv_at hl 1 rfl) ?_
  have hm := mgk (wc := (wd_X8_add cI cC cZ cB cJ xI uY qL qJ rX qM)) hP mk_0 3 rfl rfl rfl
  refine yW hP hD hS hA (yS mk_0) (aAi mk_0) hm.1 hm.2 (aAk _) (zW _) (zF (As := [.int p0]) (rest := []) C0 hP hD hS (yS mk_0) hm.1 (aAl _) 1 8 rfl rfl (c_X8_add l dC dI cI cC cZ cB cJ xI uY H.size p0 qL qJ rX qM _ hp) q_4 q_8 q_6 q_7 q_5 h_X8_add rfl rfl ⟨lbz rfl, lbz rfl⟩ rfl rfl hl.1 rfl (lv_room (lbz rfl)) eX9_sign_0.2.2.2.1 ⟨Nat.zero_le _, Nat.zero_le _⟩) (fun r_1 u H locs hp hP hD hS => ?_)
  obtain ⟨tx_length_2, tx_signs_3⟩ := u
  have hPD := PDm (ws' := (wd_X9_sign cI cC cZ cB cJ a_x xI xH xB vI wY xX yA xY uD uY tx_length_2 qJ rX tx_signs_3)) hP hD 3 rfl rfl rfl
  have hP := hPD.1
  have hD := hPD.2
  exact W.iret (v := r_1) hx hb hr (fun t ht hW => ⟨⟨r_1, (tx_length_2, tx_signs_3), rfl, hp, by rw [ht]; exact hP, va_K.moved hW.alike hK, hD⟩, hS.F ht⟩) hS.2.2 eX9_sign_0.2.2.2.2
abbrev wd_X8_cut (cI cC cZ cB cJ : ClassId) (xI uY : Nat) (qL qJ rX : Int32) : va_W := [(xI, .inr (8, [.ref uY, .int qL, .int qJ, .int rX]))]
abbrev q_X8_cut (dC : Nat -> ClassId) (dI : Nat -> Nat -> Nat) (cI cC cZ cB cJ : ClassId) (A : Nat -> Prop) (xI uY : Nat) (qJ rX : Int32) (post : Int32 -> Int32 -> Prop) : Array Value -> State -> Outcome -> State -> Prop := va_Qi (fun (r u : Int32) => post r u) (fun u t => gB (dC, dI) (tyl cI cC cZ cB cJ) A (wd_X8_cut cI cC cZ cB cJ xI uY u qJ rX) t) A
abbrev rm_X8_cut : Room := { frames := 0, cells := 0, slots := 0, locals := 0 }
def wp_X8_cut (post : Int32 -> Int32 -> Prop) (p0 qL : Int32) : Prop := (p0 < 0 -> post 0 qL) /\ (¬ p0 < 0 -> (p0 <= qL -> post 1 p0) /\ (¬ p0 <= qL -> post 0 qL))
set_option maxHeartbeats 4000000 in
set_option maxRecDepth 100000 in
theorem c_X8_cut (l : Launch) (dC : Nat -> ClassId) (dI : Nat -> Nat -> Nat) (cI cC cZ cB cJ : ClassId) (xI uY sz : Nat) (p0 qL qJ rX : Int32) (post : Int32 -> Int32 -> Prop) (hw : wp_X8_cut post p0 qL) : Met l yX8_cut (gw yX8_cut cX8_cut 2 (some .boolean)) rm_X8_cut (va_Pc [.ref xI, .int p0] (gPre (dC, dI) (tyl cI cC cZ cB cJ) (wd_X8_cut cI cC cZ cB cJ xI uY qL qJ rX) sz)) (q_X8_cut dC dI cI cC cZ cB cJ (va_A (wd_X8_cut cI cC cZ cB cJ xI uY qL qJ rX) sz) xI uY qJ rX post) 0 0 (va_A (wd_X8_cut cI cC cZ cB cJ xI uY qL qJ rX) sz) := by
  refine aBJ (own := RX8) (dC, dI) (tyl cI cC cZ cB cJ) (wd_X8_cut cI cC cZ cB cJ xI uY qL qJ rX) sz [.ref xI, .int p0] (fun A => q_X8_cut dC dI cI cC cZ cB cJ A xI uY qJ rX post) pn_RX8 rfl (lbz rfl) ?_
  intro p e s m args below meth c A H locs ls C0 hP hD hS hl
  have hl : lv_has ls 2 [(0, .ref xI), (1, .int p0)] := hl
  obtain ⟨hx, hb, hr, hml, hown, hts, hlocks, hA, hK, hN, tL, tM, hZL, hTL, hZM, hTM, hZX⟩ := id C0
  have hp := hw
  unfold wp_X8_cut at hp
  refine lv_iload_n hx hb eX8_cut_0.1 rfl (lv_at hl 1 rfl) ?_
  refine lv_if_lt (tgt := 12) hx hb eX8_cut_0.2.1 (by decide) (fun hc => ?_) (fun hc => ?_)
  · have hp := hp.1 hc
    refine lv_iconst (v := 0) hx hb eX8_cut_0.2.2.2.2.2.2.1 aCi ?_
    exact W.zret (v := 0) hx hb hr rfl (fun t ht hW => ⟨⟨0, qL, rfl, hp, by rw [ht]; exact hP, va_K.moved hW.alike hK, hD⟩, hS.F ht⟩) hS.2.2 eX8_cut_0.2.2.2.2.2.2.2.1
  · have hp := hp.2 hc
    refine lv_iload_n hx hb eX8_cut_0.2.2.1 rfl (lv_at hl 1 rfl) ?_
    refine lv_aload_n hx hb eX8_cut_0.2.2.2.1 rfl (lv_at hl 0 rfl) ?_
    refine va_get (D := (dC, dI)) (ci := 8) (v := .int qL) (C := RX8) (T := TX8) (N := 4) hx hb hts i_X8 hown hK hP 0 rfl rfl 1 (lbz rfl) (hts _ q_1) (fun _ h9 => h9) rfl eX8_cut_0.2.2.2.2.1 ?_
    refine lv_icmp_le (tgt := 14) hx hb eX8_cut_0.2.2.2.2.2.1 (by decide) (fun hc => ?_) (fun hc => ?_)
    · have hp := hp.1 hc
      refine lv_aload_n hx hb eX8_cut_0.2.2.2.2.2.2.2.2.1 rfl (lv_at hl 0 rfl) ?_
      refine lv_iload_n hx hb eX8_cut_0.2.2.2.2.2.2.2.2.2.1 rfl (lv_at hl 1 rfl) ?_
      refine va_put (D := (dC, dI)) (ci := 8) (v := .int p0) (ty := .int) (C := RX8) (T := TX8) (N := 4) hx hb hts i_X8 tyX8 tyX8_ok nmX8 hown hK hP hD hS 0 rfl rfl 1 (lbz rfl) (hts _ q_1) (fun _ h9 => h9) rfl (tyX8_ok 1 (lbz rfl)) rfl rfl (lbz rfl) eX8_cut_0.2.2.2.2.2.2.2.2.2.2.1 (fun H locs hP hD hS => ?_)
      have hPD := PDw (ws' := (wd_X8_cut cI cC cZ cB cJ xI uY p0 qJ rX)) hP hD rfl
      have hP := hPD.1
      have hD := hPD.2
      refine lv_iconst (v := 1) hx hb eX8_cut_0.2.2.2.2.2.2.2.2.2.2.2.1 aDx ?_
      exact W.zret (v := 1) hx hb hr rfl (fun t ht hW => ⟨⟨1, p0, rfl, hp, by rw [ht]; exact hP, va_K.moved hW.alike hK, hD⟩, hS.F ht⟩) hS.2.2 eX8_cut_0.2.2.2.2.2.2.2.2.2.2.2.2
    · have hp := hp.2 hc
      refine lv_iconst (v := 0) hx hb eX8_cut_0.2.2.2.2.2.2.1 aCi ?_
      exact W.zret (v := 0) hx hb hr rfl (fun t ht hW => ⟨⟨0, qL, rfl, hp, by rw [ht]; exact hP, va_K.moved hW.alike hK, hD⟩, hS.F ht⟩) hS.2.2 eX8_cut_0.2.2.2.2.2.2.2.1
abbrev wd_X9_end (cI cC cZ cB cJ : ClassId) (a_x xI xH xB vI wY xX yA xY uD uY : Nat) (qL qJ rX : Int32) : va_W := [(a_x, .inr (9, [.ref xI, .ref xH, .ref xB, .ref vI, .ref wY, .ref xX, .ref yA, .ref xY, .ref uD])), (xI, .inr (8, [.ref uY, .int qL, .int qJ, .int rX]))]
abbrev q_X9_end (dC : Nat -> ClassId) (dI : Nat -> Nat -> Nat) (cI cC cZ cB cJ : ClassId) (A : Nat -> Prop) (a_x xI xH xB vI wY xX yA xY uD uY : Nat) (qJ rX : Int32) (post : Int32 -> Int32 -> Prop) : Array Value -> State -> Outcome -> State -> Prop := va_Qi (fun (r u : Int32) => post r u) (fun u t => gB (dC, dI) (tyl cI cC cZ cB cJ) A (wd_X9_end cI cC cZ cB cJ a_x xI xH xB vI wY xX yA xY uD uY u qJ rX) t) A
abbrev rm_X9_end : Room := { frames := 1, cells := 0, slots := 0, locals := 21 }
def wp_X9_end (post : Int32 -> Int32 -> Prop) (p0 qL : Int32) : Prop := wp_X8_cut (fun r_1 tx_length_2 => narrow .boolean (.int r_1) = .int r_1 /\ post r_1 tx_length_2) p0 qL
set_option maxHeartbeats 4000000 in
set_option maxRecDepth 100000 in
theorem c_X9_end (l : Launch) (dC : Nat -> ClassId) (dI : Nat -> Nat -> Nat) (cI cC cZ cB cJ : ClassId) (a_x xI xH xB vI wY xX yA xY uD uY sz : Nat) (p0 qL qJ rX : Int32) (post : Int32 -> Int32 -> Prop) (hw : wp_X9_end post p0 qL) : Met l yX9_end (gw yX9_end cX9_end 2 (some .boolean)) rm_X9_end (va_Pc [.ref a_x, .int p0] (gPre (dC, dI) (tyl cI cC cZ cB cJ) (wd_X9_end cI cC cZ cB cJ a_x xI xH xB vI wY xX yA xY uD uY qL qJ rX) sz)) (q_X9_end dC dI cI cC cZ cB cJ (va_A (wd_X9_end cI cC cZ cB cJ a_x xI xH xB vI wY xX yA xY uD uY qL qJ rX) sz) a_x xI xH xB vI wY xX yA xY uD uY qJ rX post) 0 0 (va_A (wd_X9_end cI cC cZ cB cJ a_x xI xH xB vI wY xX yA xY uD uY qL qJ rX) sz) := by
  refine aBJ (own := RX9) (dC, dI) (tyl cI cC cZ cB cJ) (wd_X9_end cI cC cZ cB cJ a_x xI xH xB vI wY xX yA xY uD uY qL qJ rX) sz [.ref a_x, .int p0] (fun A => q_X9_end dC dI cI cC cZ cB cJ A a_x xI xH xB vI wY xX yA xY uD uY qJ rX post) pn_RX9 rfl (lbz rfl) ?_
  intro p e s m args below meth c A H locs ls C0 hP hD hS hl
  have hl : lv_has ls 2 [(0, .ref a_x), (1, .int p0)] := hl
  obtain ⟨hx, hb, hr, hml, hown, hts, hlocks, hA, hK, hN, tL, tM, hZL, hTL, hZM, hTM, hZX⟩ := id C0
  have hp := hw
  unfold wp_X9_end at hp
  refine lv_aload_n hx hb eX9_end_0.1 rfl (lv_at hl 0 rfl) ?_
  refine va_get (D := (dC, dI)) (ci := 9) (v := .ref xI) (C := RX9) (T := TX9) (N := 9) hx hb hts aC3 hown hK hP 0 rfl rfl 0 (lbz rfl) (hts _ q_3) (fun _ h9 => h9) rfl eX9_end_0.2.1 ?_
  refine lv_iload_n hx hb eX9_end_0.2.2.1 rfl (lv_at hl 1 rfl) ?_
  refine yW (wc := (wd_X8_cut cI cC cZ cB cJ xI uY qL qJ rX)) hP hD hS hA [1] [0] rfl rfl rfl rfl (zF (As := [.int p0]) (rest := []) C0 hP hD hS [1] rfl rfl 1 8 rfl rfl (c_X8_cut l dC dI cI cC cZ cB cJ xI uY H.size p0 qL qJ rX _ hp) q_9 q_12 q_10 q_11 q_5 h_X8_cut rfl rfl ⟨lbz rfl, lbz rfl⟩ rfl rfl hl.1 rfl (lv_room (lbz rfl)) eX9_end_0.2.2.2.1 ⟨Nat.zero_le _, Nat.zero_le _⟩) (fun r_1 u H locs hp hP hD hS => ?_)
  obtain ⟨tx_length_2, rfl⟩ : ∃ z, z = u := ⟨_, rfl⟩
  have hPD := PDs (ws' := (wd_X9_end cI cC cZ cB cJ a_x xI xH xB vI wY xX yA xY uD uY tx_length_2 qJ rX)) hP hD [0, 1] (by decide) rfl
  have hP := hPD.1
  have hD := hPD.2
  have hnz := hp.1
  have hp := hp.2
  exact W.zret (v := r_1) hx hb hr hnz (fun t ht hW => ⟨⟨r_1, tx_length_2, rfl, hp, by rw [ht]; exact hP, va_K.moved hW.alike hK, hD⟩, hS.F ht⟩) hS.2.2 eX9_end_0.2.2.2.2
abbrev wd_X8_open (cI cC cZ cB cJ : ClassId) (xI uY : Nat) (qL qJ rX : Int32) : va_W := [(xI, .inr (8, [.ref uY, .int qL, .int qJ, .int rX]))]
abbrev q_X8_open (dC : Nat -> ClassId) (dI : Nat -> Nat -> Nat) (cI cC cZ cB cJ : ClassId) (A : Nat -> Prop) (xI uY : Nat) (qL : Int32) (post : Int32 -> Int32 -> Prop) : Array Value -> State -> Outcome -> State -> Prop := va_Qv (fun (u : Int32 × Int32) => post u.1 u.2) (fun u t => gB (dC, dI) (tyl cI cC cZ cB cJ) A (wd_X8_open cI cC cZ cB cJ xI uY qL u.1 u.2) t) A
abbrev rm_X8_open : Room := { frames := 1, cells := 0, slots := 0, locals := 21 }
def wp_X8_open (post : Int32 -> Int32 -> Prop) (p0 qL qJ rX : Int32) : Prop := ∀ v_1 : Int32, v_1 = (if p0 < qL then p0 else qL) -> post 0 v_1
set_option maxHeartbeats 4000000 in
set_option maxRecDepth 100000 in
theorem c_X8_open (l : Launch) (dC : Nat -> ClassId) (dI : Nat -> Nat -> Nat) (cI cC cZ cB cJ : ClassId) (xI uY sz : Nat) (p0 qL qJ rX : Int32) (post : Int32 -> Int32 -> Prop) (hw : wp_X8_open post p0 qL qJ rX) : Met l yX8_open (gw yX8_open cX8_open 2 none) rm_X8_open (va_Pc [.ref xI, .int p0] (gPre (dC, dI) (tyl cI cC cZ cB cJ) (wd_X8_open cI cC cZ cB cJ xI uY qL qJ rX) sz)) (q_X8_open dC dI cI cC cZ cB cJ (va_A (wd_X8_open cI cC cZ cB cJ xI uY qL qJ rX) sz) xI uY qL post) 0 0 (va_A (wd_X8_open cI cC cZ cB cJ xI uY qL qJ rX) sz) := by
  refine aBJ (own := RX8) (dC, dI) (tyl cI cC cZ cB cJ) (wd_X8_open cI cC cZ cB cJ xI uY qL qJ rX) sz [.ref xI, .int p0] (fun A => q_X8_open dC dI cI cC cZ cB cJ A xI uY qL post) pn_RX8 rfl (lbz rfl) ?_
  intro p e s m args below meth c A H locs ls C0 hP hD hS hl
  have hl : lv_has ls 2 [(0, .ref xI), (1, .int p0)] := hl
  obtain ⟨hx, hb, hr, hml, hown, hts, hlocks, hA, hK, hN, tL, tM, hZL, hTL, hZM, hTM, hZX⟩ := id C0
  have hp := hw
  unfold wp_X8_open at hp
  refine lv_aload_n hx hb eX8_open_0.1 rfl (lv_at hl 0 rfl) ?_
  refine lv_iconst (v := 0) hx hb eX8_open_0.2.1 aCi ?_
  refine va_put (D := (dC, dI)) (ci := 8) (v := .int 0) (ty := .int) (C := RX8) (T := TX8) (N := 4) hx hb hts i_X8 tyX8 tyX8_ok nmX8 hown hK hP hD hS 0 rfl rfl 2 (lbz rfl) (hts _ q_13) (fun _ h9 => h9) rfl (tyX8_ok 2 (lbz rfl)) rfl rfl (lbz rfl) eX8_open_0.2.2.1 (fun H locs hP hD hS => ?_)
  have hPD := PDw (ws' := (wd_X8_open cI cC cZ cB cJ xI uY qL 0 rX)) hP hD rfl
  have hP := hPD.1
  have hD := hPD.2
  refine lv_aload_n hx hb eX8_open_0.2.2.2.1 rfl (lv_at hl 0 rfl) ?_
  refine lv_aload_n hx hb eX8_open_0.2.2.2.2.1 rfl (lv_at hl 0 rfl) ?_
  refine va_get (D := (dC, dI)) (ci := 8) (v := .int qL) (C := RX8) (T := TX8) (N := 4) hx hb hts i_X8 hown hK hP 0 rfl rfl 1 (lbz rfl) (hts _ q_1) (fun _ h9 => h9) rfl eX8_open_0.2.2.2.2.2.1 ?_
  refine lv_iload_n hx hb eX8_open_0.2.2.2.2.2.2.1 rfl (lv_at hl 1 rfl) ?_
  refine va_mmin hx hb (by rw [hml]; exact hl.1.symm) hown (hts _ q_14) (hts _ q_15) (hts _ q_16) (hts _ q_17) (lbz rfl) (lbz rfl) (Nat.zero_le _) (Nat.zero_le _) eX8_open_0.2.2.2.2.2.2.2.1 ?_
  refine lv_topi (fun v_1 aFJ => ?_)
  have hp := hp v_1 aFJ
  refine va_put (D := (dC, dI)) (ci := 8) (v := .int v_1) (ty := .int) (C := RX8) (T := TX8) (N := 4) hx hb hts i_X8 tyX8 tyX8_ok nmX8 hown hK hP hD hS 0 rfl rfl 3 (lbz rfl) (hts _ q_18) (fun _ h9 => h9) rfl (tyX8_ok 3 (lbz rfl)) rfl rfl (lbz rfl) eX8_open_0.2.2.2.2.2.2.2.2.1 (fun H locs hP hD hS => ?_)
  have hPD := PDw (ws' := (wd_X8_open cI cC cZ cB cJ xI uY qL 0 v_1)) hP hD rfl
  have hP := hPD.1
  have hD := hPD.2
  exact W.vret hx hb hr (fun t ht hW => ⟨⟨(0, v_1), rfl, hp, by rw [ht]; exact hP, va_K.moved hW.alike hK, hD⟩, hS.F ht⟩) hS.2.2 eX8_open_0.2.2.2.2.2.2.2.2.2
abbrev wd_X8_isThrough (cI cC cZ cB cJ : ClassId) (xI uY : Nat) (qL qJ rX : Int32) : va_W := [(xI, .inr (8, [.ref uY, .int qL, .int qJ, .int rX]))]
abbrev q_X8_isThrough (dC : Nat -> ClassId) (dI : Nat -> Nat -> Nat) (cI cC cZ cB cJ : ClassId) (A : Nat -> Prop) (xI uY : Nat) (qL qJ rX : Int32) (post : Int32 -> Prop) : Array Value -> State -> Outcome -> State -> Prop := va_Qi (fun (r : Int32) (u : Unit) => post r) (fun u t => gB (dC, dI) (tyl cI cC cZ cB cJ) A (wd_X8_isThrough cI cC cZ cB cJ xI uY qL qJ rX) t) A
abbrev rm_X8_isThrough : Room := { frames := 0, cells := 0, slots := 0, locals := 0 }
def bCL (post : Int32 -> Prop) (qL qJ : Int32) : Prop := (¬ qJ = qL -> post 0) /\ (qJ = qL -> post 1)
set_option maxHeartbeats 4000000 in
set_option maxRecDepth 100000 in
theorem c_X8_isThrough (l : Launch) (dC : Nat -> ClassId) (dI : Nat -> Nat -> Nat) (cI cC cZ cB cJ : ClassId) (xI uY sz : Nat) (qL qJ rX : Int32) (post : Int32 -> Prop) (hw : bCL post qL qJ) : Met l bCQ (gw bCQ cX8_isThrough 1 (some .boolean)) rm_X8_isThrough (va_Pc [.ref xI] (gPre (dC, dI) (tyl cI cC cZ cB cJ) (wd_X8_isThrough cI cC cZ cB cJ xI uY qL qJ rX) sz)) (q_X8_isThrough dC dI cI cC cZ cB cJ (va_A (wd_X8_isThrough cI cC cZ cB cJ xI uY qL qJ rX) sz) xI uY qL qJ rX post) 0 0 (va_A (wd_X8_isThrough cI cC cZ cB cJ xI uY qL qJ rX) sz) := by
  refine aBJ (own := RX8) (dC, dI) (tyl cI cC cZ cB cJ) (wd_X8_isThrough cI cC cZ cB cJ xI uY qL qJ rX) sz [.ref xI] (fun A => q_X8_isThrough dC dI cI cC cZ cB cJ A xI uY qL qJ rX post) pn_RX8 rfl (lbz rfl) ?_
  intro p e s m args below meth c A H locs ls C0 hP hD hS hl
  have hl : lv_has ls 1 [(0, .ref xI)] := hl
  obtain ⟨hx, hb, hr, hml, hown, hts, hlocks, hA, hK, hN, tL, tM, hZL, hTL, hZM, hTM, hZX⟩ := id C0
  have hp := hw
  unfold bCL at hp
  refine lv_aload_n hx hb bCB.1 rfl (lv_at hl 0 rfl) ?_
  refine va_get (D := (dC, dI)) (ci := 8) (v := .int qJ) (C := RX8) (T := TX8) (N := 4) hx hb hts i_X8 hown hK hP 0 rfl rfl 2 (lbz rfl) (hts _ q_13) (fun _ h9 => h9) rfl bCB.2.1 ?_
  refine lv_aload_n hx hb bCB.2.2.1 rfl (lv_at hl 0 rfl) ?_
  refine va_get (D := (dC, dI)) (ci := 8) (v := .int qL) (C := RX8) (T := TX8) (N := 4) hx hb hts i_X8 hown hK hP 0 rfl rfl 1 (lbz rfl) (hts _ q_1) (fun _ h9 => h9) rfl bCB.2.2.2.1 ?_
  refine lv_icmp_ne (tgt := 15) hx hb bCB.2.2.2.2.1 (by decide) (fun hc => ?_) (fun hc => ?_)
  · have hp := hp.1 hc
    refine lv_iconst (v := 0) hx hb bCB.2.2.2.2.2.2.2.1 aCi ?_
    exact W.zret (v := 0) hx hb hr rfl (fun t ht hW => ⟨⟨0, (), rfl, hp, by rw [ht]; exact hP, va_K.moved hW.alike hK, hD⟩, hS.F ht⟩) hS.2.2 bCB.2.2.2.2.2.2.2.2
  · have hp := hp.2 hc
    refine lv_iconst (v := 1) hx hb bCB.2.2.2.2.2.1 aDx ?_
    refine lv_goto (tgt := 16) hx hb bCB.2.2.2.2.2.2.1 (by decide) ?_
    exact W.zret (v := 1) hx hb hr rfl (fun t ht hW => ⟨⟨1, (), rfl, hp, by rw [ht]; exact hP, va_K.moved hW.alike hK, hD⟩, hS.F ht⟩) hS.2.2 bCB.2.2.2.2.2.2.2.2
abbrev bCG (cI cC cZ cB cJ : ClassId) (vI tJ jJ mY pG pD pE eO : Nat) (dN bD bJ aI : Int32) : va_W := [(vI, .inr (3, [.ref tJ, .ref jJ, .ref mY, .ref pG, .ref pD, .ref pE, .ref eO, .int dN, .int bD, .int bJ, .int aI]))]
abbrev q_X3_takeLines (dC : Nat -> ClassId) (dI : Nat -> Nat -> Nat) (cI cC cZ cB cJ : ClassId) (A : Nat -> Prop) (vI tJ jJ mY pG pD pE eO : Nat) (bJ aI : Int32) (post : Int32 -> Int32 -> Prop) : Array Value -> State -> Outcome -> State -> Prop := va_Qv (fun (u : Int32 × Int32) => post u.1 u.2) (fun u t => gB (dC, dI) (tyl cI cC cZ cB cJ) A (bCG cI cC cZ cB cJ vI tJ jJ mY pG pD pE eO u.1 u.2 bJ aI) t) A
abbrev rm_X3_takeLines : Room := { frames := 0, cells := 0, slots := 0, locals := 0 }
def wp_X3_takeLines (post : Int32 -> Int32 -> Prop) (dN bD bJ aI : Int32) : Prop := post bJ aI
set_option maxHeartbeats 4000000 in
set_option maxRecDepth 100000 in
theorem c_X3_takeLines (l : Launch) (dC : Nat -> ClassId) (dI : Nat -> Nat -> Nat) (cI cC cZ cB cJ : ClassId) (vI tJ jJ mY pG pD pE eO sz : Nat) (dN bD bJ aI : Int32) (post : Int32 -> Int32 -> Prop) (hw : wp_X3_takeLines post dN bD bJ aI) : Met l yX3_takeLines (gw yX3_takeLines cX3_takeLines 1 none) rm_X3_takeLines (va_Pc [.ref vI] (gPre (dC, dI) (tyl cI cC cZ cB cJ) (bCG cI cC cZ cB cJ vI tJ jJ mY pG pD pE eO dN bD bJ aI) sz)) (q_X3_takeLines dC dI cI cC cZ cB cJ (va_A (bCG cI cC cZ cB cJ vI tJ jJ mY pG pD pE eO dN bD bJ aI) sz) vI tJ jJ mY pG pD pE eO bJ aI post) 0 0 (va_A (bCG cI cC cZ cB cJ vI tJ jJ mY pG pD pE eO dN bD bJ aI) sz) := by
  refine aBJ (own := RX3) (dC, dI) (tyl cI cC cZ cB cJ) (bCG cI cC cZ cB cJ vI tJ jJ mY pG pD pE eO dN bD bJ aI) sz [.ref vI] (fun A => q_X3_takeLines dC dI cI cC cZ cB cJ A vI tJ jJ mY pG pD pE eO bJ aI post) pn_RX3 rfl (lbz rfl) ?_
  intro p e s m args below meth c A H locs ls C0 hP hD hS hl
  have hl : lv_has ls 1 [(0, .ref vI)] := hl
  obtain ⟨hx, hb, hr, hml, hown, hts, hlocks, hA, hK, hN, tL, tM, hZL, hTL, hZM, hTM, hZX⟩ := id C0
  have hp := hw
  unfold wp_X3_takeLines at hp
  refine lv_aload_n hx hb eX3_takeLines_0.1 rfl (lv_at hl 0 rfl) ?_
  refine lv_aload_n hx hb eX3_takeLines_0.2.1 rfl (lv_at hl 0 rfl) ?_
  refine va_get (D := (dC, dI)) (ci := 3) (v := .int bJ) (C := RX3) (T := TX3) (N := 11) hx hb hts i_X3 hown hK hP 0 rfl rfl 9 (lbz rfl) (hts _ q_19) (fun _ h9 => h9) rfl eX3_takeLines_0.2.2.1 ?_
  refine va_put (D := (dC, dI)) (ci := 3) (v := .int bJ) (ty := .int) (C := RX3) (T := TX3) (N := 11) hx hb hts i_X3 tyX3 tyX3_ok nmX3 hown hK hP hD hS 0 rfl rfl 7 (lbz rfl) (hts _ q_20) (fun _ h9 => h9) rfl (tyX3_ok 7 (lbz rfl)) rfl rfl (lbz rfl) eX3_takeLines_0.2.2.2.1 (fun H locs hP hD hS => ?_)
  have hPD := PDw (ws' := (bCG cI cC cZ cB cJ vI tJ jJ mY pG pD pE eO bJ bD bJ aI)) hP hD rfl
  have hP := hPD.1
  have hD := hPD.2
  refine lv_aload_n hx hb eX3_takeLines_0.2.2.2.2.1 rfl (lv_at hl 0 rfl) ?_
  refine lv_aload_n hx hb eX3_takeLines_0.2.2.2.2.2.1 rfl (lv_at hl 0 rfl) ?_
  refine va_get (D := (dC, dI)) (ci := 3) (v := .int aI) (C := RX3) (T := TX3) (N := 11) hx hb hts i_X3 hown hK hP 0 rfl rfl 10 (lbz rfl) (hts _ q_21) (fun _ h9 => h9) rfl eX3_takeLines_0.2.2.2.2.2.2.1 ?_
  refine va_put (D := (dC, dI)) (ci := 3) (v := .int aI) (ty := .int) (C := RX3) (T := TX3) (N := 11) hx hb hts i_X3 tyX3 tyX3_ok nmX3 hown hK hP hD hS 0 rfl rfl 8 (lbz rfl) (hts _ q_22) (fun _ h9 => h9) rfl (tyX3_ok 8 (lbz rfl)) rfl rfl (lbz rfl) eX3_takeLines_0.2.2.2.2.2.2.2.1 (fun H locs hP hD hS => ?_)
  have hPD := PDw (ws' := (bCG cI cC cZ cB cJ vI tJ jJ mY pG pD pE eO bJ aI bJ aI)) hP hD rfl
  have hP := hPD.1
  have hD := hPD.2
  exact W.vret hx hb hr (fun t ht hW => ⟨⟨(bJ, aI), rfl, hp, by rw [ht]; exact hP, va_K.moved hW.alike hK, hD⟩, hS.F ht⟩) hS.2.2 eX3_takeLines_0.2.2.2.2.2.2.2.2
abbrev aOZ (cI cC cZ cB cJ : ClassId) (xX wF uT wD : Nat) (pR uM : Int32) (uF : Nat -> Int32) : va_W := [(xX, .inr (4, [.ref wF, .ref uT, .ref wD, .int pR, .int uM])), (wD, .inl (cZ, 2, .inl uF))]
abbrev q_X4_forgetAll (dC : Nat -> ClassId) (dI : Nat -> Nat -> Nat) (cI cC cZ cB cJ : ClassId) (A : Nat -> Prop) (xX wF uT wD : Nat) (uM : Int32) (post : Int32 -> (Nat -> Int32) -> Prop) : Array Value -> State -> Outcome -> State -> Prop := va_Qv (fun (u : Int32 × (Nat -> Int32)) => post u.1 u.2) (fun u t => gB (dC, dI) (tyl cI cC cZ cB cJ) A (aOZ cI cC cZ cB cJ xX wF uT wD u.1 uM u.2) t) A
abbrev rm_X4_forgetAll : Room := { frames := 0, cells := 0, slots := 0, locals := 0 }
section S_X4_forgetAll
variable {p : Program} {l : Launch} {e : Env} {s : State} {m : MethodId} {args : Array Value} {below : List Frame} {meth : Method} {c : Code} {dC : Nat -> ClassId} {dI : Nat -> Nat -> Nat} {cI cC cZ cB cJ : ClassId} {A : Nat -> Prop} {xX wF uT wD : Nat} {uM : Int32} {post : Int32 -> (Nat -> Int32) -> Prop}
def ws_X4_forgetAll_7 (post : Int32 -> (Nat -> Int32) -> Prop) (next : Int32 -> Int32 -> (Nat -> Int32) -> Prop) (x1 pR : Int32) (uF : Nat -> Int32) : Prop := (2 <= x1 -> post pR uF) /\ (¬ 2 <= x1 -> vp_in x1 2 /\ (∀ v_1 : Int32, v_1 = x1 + 1 -> next v_1 pR (upd uF x1.toNatClampNeg (vp_nar .boolean 0))))
noncomputable def wb_X4_forgetAll_7 (post : Int32 -> (Nat -> Int32) -> Prop) : Nat -> Int32 -> Int32 -> (Nat -> Int32) -> Prop := fun n => Nat.rec (motive := fun _ => Int32 -> Int32 -> (Nat -> Int32) -> Prop) (fun _ _ _ => False) (fun _ ih => ws_X4_forgetAll_7 post ih) n
set_option maxHeartbeats 4000000 in
set_option maxRecDepth 100000 in
theorem ks_X4_forgetAll_7 (C0 : gc aMx none 2 RX4 (dC, dI) (tyl cI cC cZ cB cJ) A p s m args meth c) {next : Int32 -> Int32 -> (Nat -> Int32) -> Prop} (hKn : ∀ (x1 : Int32) (pR : Int32) (uF : Nat -> Int32) (H : Heap) (locs : List Loc) (ls : Array Slot), next x1 pR uF -> va_P (dC, dI) classes (aOZ cI cC cZ cB cJ xX wF uT wD pR uM uF) H -> va_D A (aOZ cI cC cZ cB cJ xX wF uT wD pR uM uF) -> va_S A s.heap H locs -> lv_has ls 2 [(0, .ref xX), (1, .int x1)] -> W p l e rm_X4_forgetAll s m args below meth c H locs 0 0 (MQ below (q_X4_forgetAll dC dI cI cC cZ cB cJ A xX wF uT wD uM post) args s 0 0 A) (F0 m 7 ls [])) : ∀ (x1 pR : Int32) (uF : Nat -> Int32) (H : Heap) (locs : List Loc) (ls : Array Slot), (ws_X4_forgetAll_7 post next) x1 pR uF -> va_P (dC, dI) classes (aOZ cI cC cZ cB cJ xX wF uT wD pR uM uF) H -> va_D A (aOZ cI cC cZ cB cJ xX wF uT wD pR uM uF) -> va_S A s.heap H locs -> lv_has ls 2 [(0, .ref xX), (1, .int x1)] -> W p l e rm_X4_forgetAll s m args below meth c H locs 0 0 (MQ below (q_X4_forgetAll dC dI cI cC cZ cB cJ A xX wF uT wD uM post) args s 0 0 A) (F0 m 7 ls []) := by
  obtain ⟨hx, hb, hr, hml, hown, hts, hlocks, hA, hK, hN, tL, tM, hZL, hTL, hZM, hTM, hZX⟩ := id C0
  intro x1 pR uF H locs ls hp hP hD hS hl
  unfold ws_X4_forgetAll_7 at hp
  refine lv_iload_n hx hb aOI.2.2.2.2.2.1 rfl (lv_at hl 1 rfl) ?_
  refine lv_iconst (v := 2) hx hb aOI.2.2.2.2.2.2.1 ic_2 ?_
  refine lv_icmp_ge (tgt := 25) hx hb aOI.2.2.2.2.2.2.2.1 (by decide) (fun hc => ?_) (fun hc => ?_)
  · have hp := hp.1 hc
    exact W.vret hx hb hr (fun t ht hW => ⟨⟨(pR, uF), rfl, hp, by rw [ht]; exact hP, va_K.moved hW.alike hK, hD⟩, hS.F ht⟩) hS.2.2 aOI.2.2.2.2.2.2.2.2.2.2.2.2.2.2.2
  · have hp := hp.2 hc
    refine lv_aload_n hx hb aOI.2.2.2.2.2.2.2.2.1 rfl (lv_at hl 0 rfl) ?_
    refine va_get (D := (dC, dI)) (ci := 4) (v := .ref wD) (C := RX4) (T := TX4) (N := 5) hx hb hts i_X4 hown hK hP 0 rfl rfl 2 (lbz rfl) (hts _ q_24) (fun _ h9 => h9) rfl aOI.2.2.2.2.2.2.2.2.2.1 ?_
    refine lv_iload_n hx hb aOI.2.2.2.2.2.2.2.2.2.2.1 rfl (lv_at hl 1 rfl) ?_
    refine lv_iconst (v := 0) hx hb aOI.2.2.2.2.2.2.2.2.2.2.2.1 aCi ?_
    have hin := hp.1
    have hp := hp.2
    refine va_zast hx hb hK hP hD hS 1 2 rfl rfl hin aOI.2.2.2.2.2.2.2.2.2.2.2.2.1 (fun H locs hP hD hS => ?_)
    have hPD := PDw (ws' := (aOZ cI cC cZ cB cJ xX wF uT wD pR uM (upd uF x1.toNatClampNeg (vp_nar .boolean 0)))) hP hD rfl
    have hP := hPD.1
    have hD := hPD.2
    obtain ⟨v_1, aFJ⟩ : ∃ y : Int32, y = x1 + 1 := ⟨_, rfl⟩
    refine lv_iinc (v := v_1) (lv' := [(1, .int v_1), (0, .ref xX)]) hx hb aOI.2.2.2.2.2.2.2.2.2.2.2.2.2.1 hl (k := 1) rfl (by rw [aFJ]; rfl) (by decide) rfl (fun ls hl => ?_)
    have hp := hp v_1 aFJ
    refine lv_goto (tgt := 7) hx hb aOI.2.2.2.2.2.2.2.2.2.2.2.2.2.2.1 (by decide) ?_
    exact hKn v_1 pR (upd uF x1.toNatClampNeg (vp_nar .boolean 0)) H locs ls hp hP hD hS (lv_sub hl [1, 0] rfl)
set_option maxHeartbeats 4000000 in
set_option maxRecDepth 100000 in
theorem kb_X4_forgetAll_7 (C0 : gc aMx none 2 RX4 (dC, dI) (tyl cI cC cZ cB cJ) A p s m args meth c) : ∀ (n : Nat), ∀ (x1 pR : Int32) (uF : Nat -> Int32) (H : Heap) (locs : List Loc) (ls : Array Slot), (wb_X4_forgetAll_7 post n) x1 pR uF -> va_P (dC, dI) classes (aOZ cI cC cZ cB cJ xX wF uT wD pR uM uF) H -> va_D A (aOZ cI cC cZ cB cJ xX wF uT wD pR uM uF) -> va_S A s.heap H locs -> lv_has ls 2 [(0, .ref xX), (1, .int x1)] -> W p l e rm_X4_forgetAll s m args below meth c H locs 0 0 (MQ below (q_X4_forgetAll dC dI cI cC cZ cB cJ A xX wF uT wD uM post) args s 0 0 A) (F0 m 7 ls []) := by
  intro n
  induction n with
  | zero =>
    intro x1 pR uF H locs ls hp
    exact False.elim hp
  | succ n ih =>
    intro x1 pR uF H locs ls hp
    exact ks_X4_forgetAll_7 C0 ih x1 pR uF H locs ls hp
end S_X4_forgetAll
def wp_X4_forgetAll (post : Int32 -> (Nat -> Int32) -> Prop) (pR : Int32) (uF : Nat -> Int32) : Prop := ∃ n : Nat, wb_X4_forgetAll_7 post n 0 0 uF
set_option maxHeartbeats 4000000 in
set_option maxRecDepth 100000 in
theorem c_X4_forgetAll (l : Launch) (dC : Nat -> ClassId) (dI : Nat -> Nat -> Nat) (cI cC cZ cB cJ : ClassId) (xX wF uT wD sz : Nat) (pR uM : Int32) (uF : Nat -> Int32) (post : Int32 -> (Nat -> Int32) -> Prop) (hw : wp_X4_forgetAll post pR uF) : Met l yX4_forgetAll (gw yX4_forgetAll aMx 2 none) rm_X4_forgetAll (va_Pc [.ref xX] (gPre (dC, dI) (tyl cI cC cZ cB cJ) (aOZ cI cC cZ cB cJ xX wF uT wD pR uM uF) sz)) (q_X4_forgetAll dC dI cI cC cZ cB cJ (va_A (aOZ cI cC cZ cB cJ xX wF uT wD pR uM uF) sz) xX wF uT wD uM post) 0 0 (va_A (aOZ cI cC cZ cB cJ xX wF uT wD pR uM uF) sz) := by
  refine aBJ (own := RX4) (dC, dI) (tyl cI cC cZ cB cJ) (aOZ cI cC cZ cB cJ xX wF uT wD pR uM uF) sz [.ref xX] (fun A => q_X4_forgetAll dC dI cI cC cZ cB cJ A xX wF uT wD uM post) pn_RX4 rfl (lbz rfl) ?_
  intro p e s m args below meth c A H locs ls C0 hP hD hS hl
  have hl : lv_has ls 2 [(0, .ref xX)] := hl
  obtain ⟨hx, hb, hr, hml, hown, hts, hlocks, hA, hK, hN, tL, tM, hZL, hTL, hZM, hTM, hZX⟩ := id C0
  have hp := hw
  unfold wp_X4_forgetAll at hp
  refine lv_aload_n hx hb aOI.1 rfl (lv_at hl 0 rfl) ?_
  refine lv_iconst (v := 0) hx hb aOI.2.1 aCi ?_
  refine va_put (D := (dC, dI)) (ci := 4) (v := .int 0) (ty := .int) (C := RX4) (T := TX4) (N := 5) hx hb hts i_X4 tyX4 tyX4_ok nmX4 hown hK hP hD hS 0 rfl rfl 3 (lbz rfl) (hts _ q_23) (fun _ h9 => h9) rfl (tyX4_ok 3 (lbz rfl)) rfl rfl (lbz rfl) aOI.2.2.1 (fun H locs hP hD hS => ?_)
  have hPD := PDw (ws' := (aOZ cI cC cZ cB cJ xX wF uT wD 0 uM uF)) hP hD rfl
  have hP := hPD.1
  have hD := hPD.2
  refine lv_iconst (v := 0) hx hb aOI.2.2.2.1 aCi ?_
  refine lv_istore_n (lv' := [(1, .int 0), (0, .ref xX)]) hx hb aOI.2.2.2.2.1 rfl hl (by decide) rfl (fun ls hl => ?_)
  obtain ⟨n9, hp⟩ := hp
  exact kb_X4_forgetAll_7 C0 n9 0 0 uF H locs ls hp hP hD hS (lv_sub hl [1, 0] rfl)
abbrev wd_X8_clear (cI cC cZ cB cJ : ClassId) (xI uY : Nat) (qL qJ rX : Int32) : va_W := [(xI, .inr (8, [.ref uY, .int qL, .int qJ, .int rX]))]
abbrev q_X8_clear (dC : Nat -> ClassId) (dI : Nat -> Nat -> Nat) (cI cC cZ cB cJ : ClassId) (A : Nat -> Prop) (xI uY : Nat) (qJ rX : Int32) (post : Int32 -> Prop) : Array Value -> State -> Outcome -> State -> Prop := va_Qv (fun (u : Int32) => post u) (fun u t => gB (dC, dI) (tyl cI cC cZ cB cJ) A (wd_X8_clear cI cC cZ cB cJ xI uY u qJ rX) t) A
abbrev rm_X8_clear : Room := { frames := 0, cells := 0, slots := 0, locals := 0 }
def wp_X8_clear (post : Int32 -> Prop) (qL : Int32) : Prop := post 0
set_option maxHeartbeats 4000000 in
set_option maxRecDepth 100000 in
theorem c_X8_clear (l : Launch) (dC : Nat -> ClassId) (dI : Nat -> Nat -> Nat) (cI cC cZ cB cJ : ClassId) (xI uY sz : Nat) (qL qJ rX : Int32) (post : Int32 -> Prop) (hw : wp_X8_clear post qL) : Met l yX8_clear (gw yX8_clear cX8_clear 1 none) rm_X8_clear (va_Pc [.ref xI] (gPre (dC, dI) (tyl cI cC cZ cB cJ) (wd_X8_clear cI cC cZ cB cJ xI uY qL qJ rX) sz)) (q_X8_clear dC dI cI cC cZ cB cJ (va_A (wd_X8_clear cI cC cZ cB cJ xI uY qL qJ rX) sz) xI uY qJ rX post) 0 0 (va_A (wd_X8_clear cI cC cZ cB cJ xI uY qL qJ rX) sz) := by
  refine aBJ (own := RX8) (dC, dI) (tyl cI cC cZ cB cJ) (wd_X8_clear cI cC cZ cB cJ xI uY qL qJ rX) sz [.ref xI] (fun A => q_X8_clear dC dI cI cC cZ cB cJ A xI uY qJ rX post) pn_RX8 rfl (lbz rfl) ?_
  intro p e s m args below meth c A H locs ls C0 hP hD hS hl
  have hl : lv_has ls 1 [(0, .ref xI)] := hl
  obtain ⟨hx, hb, hr, hml, hown, hts, hlocks, hA, hK, hN, tL, tM, hZL, hTL, hZM, hTM, hZX⟩ := id C0
  have hp := hw
  unfold wp_X8_clear at hp
  refine lv_aload_n hx hb eX8_clear_0.1 rfl (lv_at hl 0 rfl) ?_
  refine lv_iconst (v := 0) hx hb eX8_clear_0.2.1 aCi ?_
  refine va_put (D := (dC, dI)) (ci := 8) (v := .int 0) (ty := .int) (C := RX8) (T := TX8) (N := 4) hx hb hts i_X8 tyX8 tyX8_ok nmX8 hown hK hP hD hS 0 rfl rfl 1 (lbz rfl) (hts _ q_1) (fun _ h9 => h9) rfl (tyX8_ok 1 (lbz rfl)) rfl rfl (lbz rfl) eX8_clear_0.2.2.1 (fun H locs hP hD hS => ?_)
  have hPD := PDw (ws' := (wd_X8_clear cI cC cZ cB cJ xI uY 0 qJ rX)) hP hD rfl
  have hP := hPD.1
  have hD := hPD.2
  exact W.vret hx hb hr (fun t ht hW => ⟨⟨0, rfl, hp, by rw [ht]; exact hP, va_K.moved hW.alike hK, hD⟩, hS.F ht⟩) hS.2.2 eX8_clear_0.2.2.2
abbrev wd_X8_wrong (cI cC cZ cB cJ : ClassId) (xI uY : Nat) (qL qJ rX : Int32) : va_W := [(xI, .inr (8, [.ref uY, .int qL, .int qJ, .int rX]))]
abbrev q_X8_wrong (dC : Nat -> ClassId) (dI : Nat -> Nat -> Nat) (cI cC cZ cB cJ : ClassId) (A : Nat -> Prop) (xI uY : Nat) (qL qJ rX : Int32) (post : Int32 -> Prop) : Array Value -> State -> Outcome -> State -> Prop := va_Qi (fun (r : Int32) (u : Unit) => post r) (fun u t => gB (dC, dI) (tyl cI cC cZ cB cJ) A (wd_X8_wrong cI cC cZ cB cJ xI uY qL qJ rX) t) A
abbrev rm_X8_wrong : Room := { frames := 0, cells := 0, slots := 0, locals := 0 }
def wp_X8_wrong (post : Int32 -> Prop) (qJ : Int32) : Prop := post ((-1) - qJ)
set_option maxHeartbeats 4000000 in
set_option maxRecDepth 100000 in
theorem c_X8_wrong (l : Launch) (dC : Nat -> ClassId) (dI : Nat -> Nat -> Nat) (cI cC cZ cB cJ : ClassId) (xI uY sz : Nat) (qL qJ rX : Int32) (post : Int32 -> Prop) (hw : wp_X8_wrong post qJ) : Met l yX8_wrong (gw yX8_wrong cX8_wrong 1 (some .int)) rm_X8_wrong (va_Pc [.ref xI] (gPre (dC, dI) (tyl cI cC cZ cB cJ) (wd_X8_wrong cI cC cZ cB cJ xI uY qL qJ rX) sz)) (q_X8_wrong dC dI cI cC cZ cB cJ (va_A (wd_X8_wrong cI cC cZ cB cJ xI uY qL qJ rX) sz) xI uY qL qJ rX post) 0 0 (va_A (wd_X8_wrong cI cC cZ cB cJ xI uY qL qJ rX) sz) := by
  refine aBJ (own := RX8) (dC, dI) (tyl cI cC cZ cB cJ) (wd_X8_wrong cI cC cZ cB cJ xI uY qL qJ rX) sz [.ref xI] (fun A => q_X8_wrong dC dI cI cC cZ cB cJ A xI uY qL qJ rX post) pn_RX8 rfl (lbz rfl) ?_
  intro p e s m args below meth c A H locs ls C0 hP hD hS hl
  have hl : lv_has ls 1 [(0, .ref xI)] := hl
  obtain ⟨hx, hb, hr, hml, hown, hts, hlocks, hA, hK, hN, tL, tM, hZL, hTL, hZM, hTM, hZX⟩ := id C0
  have hp := hw
  unfold wp_X8_wrong at hp
  refine lv_iconst (v := (-1)) hx hb eX8_wrong_0.1 aEJ ?_
  refine lv_aload_n hx hb eX8_wrong_0.2.1 rfl (lv_at hl 0 rfl) ?_
  refine va_get (D := (dC, dI)) (ci := 8) (v := .int qJ) (C := RX8) (T := TX8) (N := 4) hx hb hts i_X8 hown hK hP 0 rfl rfl 2 (lbz rfl) (hts _ q_13) (fun _ h9 => h9) rfl eX8_wrong_0.2.2.1 ?_
  refine lv_isub hx hb eX8_wrong_0.2.2.2.1 ?_
  exact W.iret (v := (-1) - qJ) hx hb hr (fun t ht hW => ⟨⟨(-1) - qJ, (), rfl, hp, by rw [ht]; exact hP, va_K.moved hW.alike hK, hD⟩, hS.F ht⟩) hS.2.2 eX8_wrong_0.2.2.2.2
abbrev wd_X8_here (cI cC cZ cB cJ : ClassId) (xI uY : Nat) (qL qJ rX : Int32) (qM : Nat -> Int32) : va_W := [(xI, .inr (8, [.ref uY, .int qL, .int qJ, .int rX])), (uY, .inl (cC, 80, .inl qM))]
abbrev q_X8_here (dC : Nat -> ClassId) (dI : Nat -> Nat -> Nat) (cI cC cZ cB cJ : ClassId) (A : Nat -> Prop) (xI uY : Nat) (qL qJ rX : Int32) (qM : Nat -> Int32) (post : Int32 -> Prop) : Array Value -> State -> Outcome -> State -> Prop := va_Qi (fun (r : Int32) (u : Unit) => post r) (fun u t => gB (dC, dI) (tyl cI cC cZ cB cJ) A (wd_X8_here cI cC cZ cB cJ xI uY qL qJ rX qM) t) A
abbrev rm_X8_here : Room := { frames := 0, cells := 0, slots := 0, locals := 0 }
def wp_X8_here (post : Int32 -> Prop) (qJ rX : Int32) (qM : Nat -> Int32) : Prop := (rX <= qJ -> post (-1)) /\ (¬ rX <= qJ -> vp_in qJ 80 /\ (∀ v_1 : Int32, v_1 = qM qJ.toNatClampNeg -> post v_1))
set_option maxHeartbeats 4000000 in
set_option maxRecDepth 100000 in
theorem c_X8_here (l : Launch) (dC : Nat -> ClassId) (dI : Nat -> Nat -> Nat) (cI cC cZ cB cJ : ClassId) (xI uY sz : Nat) (qL qJ rX : Int32) (qM : Nat -> Int32) (post : Int32 -> Prop) (hw : wp_X8_here post qJ rX qM) : Met l yX8_here (gw yX8_here cX8_here 1 (some .int)) rm_X8_here (va_Pc [.ref xI] (gPre (dC, dI) (tyl cI cC cZ cB cJ) (wd_X8_here cI cC cZ cB cJ xI uY qL qJ rX qM) sz)) (q_X8_here dC dI cI cC cZ cB cJ (va_A (wd_X8_here cI cC cZ cB cJ xI uY qL qJ rX qM) sz) xI uY qL qJ rX qM post) 0 0 (va_A (wd_X8_here cI cC cZ cB cJ xI uY qL qJ rX qM) sz) := by
  refine aBJ (own := RX8) (dC, dI) (tyl cI cC cZ cB cJ) (wd_X8_here cI cC cZ cB cJ xI uY qL qJ rX qM) sz [.ref xI] (fun A => q_X8_here dC dI cI cC cZ cB cJ A xI uY qL qJ rX qM post) pn_RX8 rfl (lbz rfl) ?_
  intro p e s m args below meth c A H locs ls C0 hP hD hS hl
  have hl : lv_has ls 1 [(0, .ref xI)] := hl
  obtain ⟨hx, hb, hr, hml, hown, hts, hlocks, hA, hK, hN, tL, tM, hZL, hTL, hZM, hTM, hZX⟩ := id C0
  have hp := hw
  unfold wp_X8_here at hp
  refine lv_aload_n hx hb eX8_here_0.1 rfl (lv_at hl 0 rfl) ?_
  refine va_get (D := (dC, dI)) (ci := 8) (v := .int qJ) (C := RX8) (T := TX8) (N := 4) hx hb hts i_X8 hown hK hP 0 rfl rfl 2 (lbz rfl) (hts _ q_13) (fun _ h9 => h9) rfl eX8_here_0.2.1 ?_
  refine lv_aload_n hx hb eX8_here_0.2.2.1 rfl (lv_at hl 0 rfl) ?_
  refine va_get (D := (dC, dI)) (ci := 8) (v := .int rX) (C := RX8) (T := TX8) (N := 4) hx hb hts i_X8 hown hK hP 0 rfl rfl 3 (lbz rfl) (hts _ q_18) (fun _ h9 => h9) rfl eX8_here_0.2.2.2.1 ?_
  refine lv_icmp_ge (tgt := 23) hx hb eX8_here_0.2.2.2.2.1 (by decide) (fun hc => ?_) (fun hc => ?_)
  · have hp := hp.1 hc
    refine lv_iconst (v := (-1)) hx hb eX8_here_0.2.2.2.2.2.2.2.2.2.2.2.1 aEJ ?_
    exact W.iret (v := (-1)) hx hb hr (fun t ht hW => ⟨⟨(-1), (), rfl, hp, by rw [ht]; exact hP, va_K.moved hW.alike hK, hD⟩, hS.F ht⟩) hS.2.2 eX8_here_0.2.2.2.2.2.2.2.2.2.2.2.2
  · have hp := hp.2 hc
    refine lv_aload_n hx hb eX8_here_0.2.2.2.2.2.1 rfl (lv_at hl 0 rfl) ?_
    refine va_get (D := (dC, dI)) (ci := 8) (v := .ref uY) (C := RX8) (T := TX8) (N := 4) hx hb hts i_X8 hown hK hP 0 rfl rfl 0 (lbz rfl) (hts _ q_2) (fun _ h9 => h9) rfl eX8_here_0.2.2.2.2.2.2.1 ?_
    refine lv_aload_n hx hb eX8_here_0.2.2.2.2.2.2.2.1 rfl (lv_at hl 0 rfl) ?_
    refine va_get (D := (dC, dI)) (ci := 8) (v := .int qJ) (C := RX8) (T := TX8) (N := 4) hx hb hts i_X8 hown hK hP 0 rfl rfl 2 (lbz rfl) (hts _ q_13) (fun _ h9 => h9) rfl eX8_here_0.2.2.2.2.2.2.2.2.1 ?_
    have hin := hp.1
    have hp := hp.2
    refine va_cald hx hb hK hP 1 1 rfl rfl hin eX8_here_0.2.2.2.2.2.2.2.2.2.1 ?_
    refine lv_topi (fun v_1 aFJ => ?_)
    have hp := hp v_1 aFJ
    refine lv_goto (tgt := 24) hx hb eX8_here_0.2.2.2.2.2.2.2.2.2.2.1 (by decide) ?_
    exact W.iret (v := v_1) hx hb hr (fun t ht hW => ⟨⟨v_1, (), rfl, hp, by rw [ht]; exact hP, va_K.moved hW.alike hK, hD⟩, hS.F ht⟩) hS.2.2 eX8_here_0.2.2.2.2.2.2.2.2.2.2.2.2
abbrev wd_X8_skip (cI cC cZ cB cJ : ClassId) (xI uY : Nat) (qL qJ rX : Int32) : va_W := [(xI, .inr (8, [.ref uY, .int qL, .int qJ, .int rX]))]
abbrev q_X8_skip (dC : Nat -> ClassId) (dI : Nat -> Nat -> Nat) (cI cC cZ cB cJ : ClassId) (A : Nat -> Prop) (xI uY : Nat) (qL rX : Int32) (post : Int32 -> Prop) : Array Value -> State -> Outcome -> State -> Prop := va_Qv (fun (u : Int32) => post u) (fun u t => gB (dC, dI) (tyl cI cC cZ cB cJ) A (wd_X8_skip cI cC cZ cB cJ xI uY qL u rX) t) A
abbrev rm_X8_skip : Room := { frames := 0, cells := 0, slots := 0, locals := 0 }
def wp_X8_skip (post : Int32 -> Prop) (qJ rX : Int32) : Prop := (rX <= qJ -> post qJ) /\ (¬ rX <= qJ -> ∀ v_1 : Int32, v_1 = qJ + 1 -> post v_1)
set_option maxHeartbeats 4000000 in
set_option maxRecDepth 100000 in
theorem c_X8_skip (l : Launch) (dC : Nat -> ClassId) (dI : Nat -> Nat -> Nat) (cI cC cZ cB cJ : ClassId) (xI uY sz : Nat) (qL qJ rX : Int32) (post : Int32 -> Prop) (hw : wp_X8_skip post qJ rX) : Met l yX8_skip (gw yX8_skip cX8_skip 1 none) rm_X8_skip (va_Pc [.ref xI] (gPre (dC, dI) (tyl cI cC cZ cB cJ) (wd_X8_skip cI cC cZ cB cJ xI uY qL qJ rX) sz)) (q_X8_skip dC dI cI cC cZ cB cJ (va_A (wd_X8_skip cI cC cZ cB cJ xI uY qL qJ rX) sz) xI uY qL rX post) 0 0 (va_A (wd_X8_skip cI cC cZ cB cJ xI uY qL qJ rX) sz) := by
  refine aBJ (own := RX8) (dC, dI) (tyl cI cC cZ cB cJ) (wd_X8_skip cI cC cZ cB cJ xI uY qL qJ rX) sz [.ref xI] (fun A => q_X8_skip dC dI cI cC cZ cB cJ A xI uY qL rX post) pn_RX8 rfl (lbz rfl) ?_
  intro p e s m args below meth c A H locs ls C0 hP hD hS hl
  have hl : lv_has ls 1 [(0, .ref xI)] := hl
  obtain ⟨hx, hb, hr, hml, hown, hts, hlocks, hA, hK, hN, tL, tM, hZL, hTL, hZM, hTM, hZX⟩ := id C0
  have hp := hw
  unfold wp_X8_skip at hp
  refine lv_aload_n hx hb eX8_skip_0.1 rfl (lv_at hl 0 rfl) ?_
  refine va_get (D := (dC, dI)) (ci := 8) (v := .int qJ) (C := RX8) (T := TX8) (N := 4) hx hb hts i_X8 hown hK hP 0 rfl rfl 2 (lbz rfl) (hts _ q_13) (fun _ h9 => h9) rfl eX8_skip_0.2.1 ?_
  refine lv_aload_n hx hb eX8_skip_0.2.2.1 rfl (lv_at hl 0 rfl) ?_
  refine va_get (D := (dC, dI)) (ci := 8) (v := .int rX) (C := RX8) (T := TX8) (N := 4) hx hb hts i_X8 hown hK hP 0 rfl rfl 3 (lbz rfl) (hts _ q_18) (fun _ h9 => h9) rfl eX8_skip_0.2.2.2.1 ?_
  refine lv_icmp_ge (tgt := 21) hx hb eX8_skip_0.2.2.2.2.1 (by decide) (fun hc => ?_) (fun hc => ?_)
  · have hp := hp.1 hc
    exact W.vret hx hb hr (fun t ht hW => ⟨⟨qJ, rfl, hp, by rw [ht]; exact hP, va_K.moved hW.alike hK, hD⟩, hS.F ht⟩) hS.2.2 eX8_skip_0.2.2.2.2.2.2.2.2.2.2.2
  · have hp := hp.2 hc
    refine lv_aload_n hx hb eX8_skip_0.2.2.2.2.2.1 rfl (lv_at hl 0 rfl) ?_
    refine lv_dup hx hb eX8_skip_0.2.2.2.2.2.2.1 rfl ?_
    refine va_get (D := (dC, dI)) (ci := 8) (v := .int qJ) (C := RX8) (T := TX8) (N := 4) hx hb hts i_X8 hown hK hP 0 rfl rfl 2 (lbz rfl) (hts _ q_13) (fun _ h9 => h9) rfl eX8_skip_0.2.2.2.2.2.2.2.1 ?_
    refine lv_iconst (v := 1) hx hb eX8_skip_0.2.2.2.2.2.2.2.2.1 aDx ?_
    refine lv_iadd hx hb eX8_skip_0.2.2.2.2.2.2.2.2.2.1 ?_
    refine lv_topi (fun v_1 aFJ => ?_)
    have hp := hp v_1 aFJ
    refine va_put (D := (dC, dI)) (ci := 8) (v := .int v_1) (ty := .int) (C := RX8) (T := TX8) (N := 4) hx hb hts i_X8 tyX8 tyX8_ok nmX8 hown hK hP hD hS 0 rfl rfl 2 (lbz rfl) (hts _ q_13) (fun _ h9 => h9) rfl (tyX8_ok 2 (lbz rfl)) rfl rfl (lbz rfl) eX8_skip_0.2.2.2.2.2.2.2.2.2.2.1 (fun H locs hP hD hS => ?_)
    have hPD := PDw (ws' := (wd_X8_skip cI cC cZ cB cJ xI uY qL v_1 rX)) hP hD rfl
    have hP := hPD.1
    have hD := hPD.2
    exact W.vret hx hb hr (fun t ht hW => ⟨⟨v_1, rfl, hp, by rw [ht]; exact hP, va_K.moved hW.alike hK, hD⟩, hS.F ht⟩) hS.2.2 eX8_skip_0.2.2.2.2.2.2.2.2.2.2.2
abbrev wd_X8_digitHere (cI cC cZ cB cJ : ClassId) (xI uY : Nat) (qL qJ rX : Int32) (qM : Nat -> Int32) : va_W := [(xI, .inr (8, [.ref uY, .int qL, .int qJ, .int rX])), (uY, .inl (cC, 80, .inl qM))]
abbrev q_X8_digitHere (dC : Nat -> ClassId) (dI : Nat -> Nat -> Nat) (cI cC cZ cB cJ : ClassId) (A : Nat -> Prop) (xI uY : Nat) (qL qJ rX : Int32) (qM : Nat -> Int32) (post : Int32 -> Prop) : Array Value -> State -> Outcome -> State -> Prop := va_Qi (fun (r : Int32) (u : Unit) => post r) (fun u t => gB (dC, dI) (tyl cI cC cZ cB cJ) A (wd_X8_digitHere cI cC cZ cB cJ xI uY qL qJ rX qM) t) A
abbrev rm_X8_digitHere : Room := { frames := 0, cells := 0, slots := 0, locals := 0 }
section S_X8_digitHere
variable {p : Program} {l : Launch} {e : Env} {s : State} {m : MethodId} {args : Array Value} {below : List Frame} {meth : Method} {c : Code} {dC : Nat -> ClassId} {dI : Nat -> Nat -> Nat} {cI cC cZ cB cJ : ClassId} {A : Nat -> Prop} {xI uY : Nat} {qL qJ rX : Int32} {qM : Nat -> Int32} {post : Int32 -> Prop}
def ws_X8_digitHere_24 (post : Int32 -> Prop) (qJ rX : Int32) (qM : Nat -> Int32) (k0 : Int32) : Prop := (k0 < 48 -> post (-1)) /\ (¬ k0 < 48 -> (57 < k0 -> post (-1)) /\ (¬ 57 < k0 -> ∀ v_1 : Int32, v_1 = k0 - 48 -> post v_1))
set_option maxHeartbeats 4000000 in
set_option maxRecDepth 100000 in
theorem ks_X8_digitHere_24 (C0 : gc aHw (some .int) 2 RX8 (dC, dI) (tyl cI cC cZ cB cJ) A p s m args meth c) : ∀ (k0 : Int32) (H : Heap) (locs : List Loc) (ls : Array Slot), (ws_X8_digitHere_24 post qJ rX qM) k0 -> va_P (dC, dI) classes (wd_X8_digitHere cI cC cZ cB cJ xI uY qL qJ rX qM) H -> va_D A (wd_X8_digitHere cI cC cZ cB cJ xI uY qL qJ rX qM) -> va_S A s.heap H locs -> lv_has ls 2 [] -> W p l e rm_X8_digitHere s m args below meth c H locs 0 0 (MQ below (q_X8_digitHere dC dI cI cC cZ cB cJ A xI uY qL qJ rX qM post) args s 0 0 A) (F0 m 24 ls [.int k0]) := by
  obtain ⟨hx, hb, hr, hml, hown, hts, hlocks, hA, hK, hN, tL, tM, hZL, hTL, hZM, hTM, hZX⟩ := id C0
  intro k0 H locs ls hp hP hD hS hl
  unfold ws_X8_digitHere_24 at hp
  refine lv_istore_n (lv' := [(1, .int k0)]) hx hb aOU.2.2.2.2.2.2.2.2.2.2.2.2.1 rfl hl (by decide) rfl (fun ls hl => ?_)
  refine lv_iload_n hx hb aOU.2.2.2.2.2.2.2.2.2.2.2.2.2.1 rfl (lv_at hl 0 rfl) ?_
  refine lv_bipush (v := 48) hx hb aOU.2.2.2.2.2.2.2.2.2.2.2.2.2.2.1 bp_48 ?_
  refine lv_icmp_lt (tgt := 44) hx hb aOU.2.2.2.2.2.2.2.2.2.2.2.2.2.2.2 (by decide) (fun hc => ?_) (fun hc => ?_)
  · have hp := hp.1 hc
    refine lv_iconst (v := (-1)) hx hb aUS.2.2.2.2.2.2.2.1 aEJ ?_
    exact W.iret (v := (-1)) hx hb hr (fun t ht hW => ⟨⟨(-1), (), rfl, hp, by rw [ht]; exact hP, va_K.moved hW.alike hK, hD⟩, hS.F ht⟩) hS.2.2 aUS.2.2.2.2.2.2.2.2
  · have hp := hp.2 hc
    refine lv_iload_n hx hb aUS.1 rfl (lv_at hl 0 rfl) ?_
    refine lv_bipush (v := 57) hx hb aUS.2.1 bp_57 ?_
    refine lv_icmp_gt (tgt := 44) hx hb aUS.2.2.1 (by decide) (fun hc => ?_) (fun hc => ?_)
    · have hp := hp.1 hc
      refine lv_iconst (v := (-1)) hx hb aUS.2.2.2.2.2.2.2.1 aEJ ?_
      exact W.iret (v := (-1)) hx hb hr (fun t ht hW => ⟨⟨(-1), (), rfl, hp, by rw [ht]; exact hP, va_K.moved hW.alike hK, hD⟩, hS.F ht⟩) hS.2.2 aUS.2.2.2.2.2.2.2.2
    · have hp := hp.2 hc
      refine lv_iload_n hx hb aUS.2.2.2.1 rfl (lv_at hl 0 rfl) ?_
      refine lv_bipush (v := 48) hx hb aUS.2.2.2.2.1 bp_48 ?_
      refine lv_isub hx hb aUS.2.2.2.2.2.1 ?_
      refine lv_topi (fun v_1 aFJ => ?_)
      have hp := hp v_1 aFJ
      refine lv_goto (tgt := 45) hx hb aUS.2.2.2.2.2.2.1 (by decide) ?_
      exact W.iret (v := v_1) hx hb hr (fun t ht hW => ⟨⟨v_1, (), rfl, hp, by rw [ht]; exact hP, va_K.moved hW.alike hK, hD⟩, hS.F ht⟩) hS.2.2 aUS.2.2.2.2.2.2.2.2
end S_X8_digitHere
def wp_X8_digitHere (post : Int32 -> Prop) (qJ rX : Int32) (qM : Nat -> Int32) : Prop := (rX <= qJ -> ws_X8_digitHere_24 post qJ rX qM (-1)) /\ (¬ rX <= qJ -> vp_in qJ 80 /\ (∀ v_2 : Int32, v_2 = qM qJ.toNatClampNeg -> ws_X8_digitHere_24 post qJ rX qM v_2))
set_option maxHeartbeats 4000000 in
set_option maxRecDepth 100000 in
theorem c_X8_digitHere (l : Launch) (dC : Nat -> ClassId) (dI : Nat -> Nat -> Nat) (cI cC cZ cB cJ : ClassId) (xI uY sz : Nat) (qL qJ rX : Int32) (qM : Nat -> Int32) (post : Int32 -> Prop) (hw : wp_X8_digitHere post qJ rX qM) : Met l yX8_digitHere (gw yX8_digitHere aHw 2 (some .int)) rm_X8_digitHere (va_Pc [.ref xI] (gPre (dC, dI) (tyl cI cC cZ cB cJ) (wd_X8_digitHere cI cC cZ cB cJ xI uY qL qJ rX qM) sz)) (q_X8_digitHere dC dI cI cC cZ cB cJ (va_A (wd_X8_digitHere cI cC cZ cB cJ xI uY qL qJ rX qM) sz) xI uY qL qJ rX qM post) 0 0 (va_A (wd_X8_digitHere cI cC cZ cB cJ xI uY qL qJ rX qM) sz) := by
  refine aBJ (own := RX8) (dC, dI) (tyl cI cC cZ cB cJ) (wd_X8_digitHere cI cC cZ cB cJ xI uY qL qJ rX qM) sz [.ref xI] (fun A => q_X8_digitHere dC dI cI cC cZ cB cJ A xI uY qL qJ rX qM post) pn_RX8 rfl (lbz rfl) ?_
  intro p e s m args below meth c A H locs ls C0 hP hD hS hl
  have hl : lv_has ls 2 [(0, .ref xI)] := hl
  obtain ⟨hx, hb, hr, hml, hown, hts, hlocks, hA, hK, hN, tL, tM, hZL, hTL, hZM, hTM, hZX⟩ := id C0
  have hp := hw
  unfold wp_X8_digitHere at hp
  refine lv_aload_n hx hb aOU.1 rfl (lv_at hl 0 rfl) ?_
  refine va_get (D := (dC, dI)) (ci := 8) (v := .int qJ) (C := RX8) (T := TX8) (N := 4) hx hb hts i_X8 hown hK hP 0 rfl rfl 2 (lbz rfl) (hts _ q_13) (fun _ h9 => h9) rfl aOU.2.1 ?_
  refine lv_aload_n hx hb aOU.2.2.1 rfl (lv_at hl 0 rfl) ?_
  refine va_get (D := (dC, dI)) (ci := 8) (v := .int rX) (C := RX8) (T := TX8) (N := 4) hx hb hts i_X8 hown hK hP 0 rfl rfl 3 (lbz rfl) (hts _ q_18) (fun _ h9 => h9) rfl aOU.2.2.2.1 ?_
  refine lv_icmp_ge (tgt := 23) hx hb aOU.2.2.2.2.1 (by decide) (fun hc => ?_) (fun hc => ?_)
  · have hp := hp.1 hc
    refine lv_iconst (v := (-1)) hx hb aOU.2.2.2.2.2.2.2.2.2.2.2.1 aEJ ?_
    exact ks_X8_digitHere_24 C0 (-1) H locs ls hp hP hD hS (lv_sub hl [] rfl)
  · have hp := hp.2 hc
    refine lv_aload_n hx hb aOU.2.2.2.2.2.1 rfl (lv_at hl 0 rfl) ?_
    refine va_get (D := (dC, dI)) (ci := 8) (v := .ref uY) (C := RX8) (T := TX8) (N := 4) hx hb hts i_X8 hown hK hP 0 rfl rfl 0 (lbz rfl) (hts _ q_2) (fun _ h9 => h9) rfl aOU.2.2.2.2.2.2.1 ?_
    refine lv_aload_n hx hb aOU.2.2.2.2.2.2.2.1 rfl (lv_at hl 0 rfl) ?_
    refine va_get (D := (dC, dI)) (ci := 8) (v := .int qJ) (C := RX8) (T := TX8) (N := 4) hx hb hts i_X8 hown hK hP 0 rfl rfl 2 (lbz rfl) (hts _ q_13) (fun _ h9 => h9) rfl aOU.2.2.2.2.2.2.2.2.1 ?_
    have hin := hp.1
    have hp := hp.2
    refine va_cald hx hb hK hP 1 1 rfl rfl hin aOU.2.2.2.2.2.2.2.2.2.1 ?_
    refine lv_topi (fun v_2 aGO => ?_)
    have hp := hp v_2 aGO
    refine lv_goto (tgt := 24) hx hb aOU.2.2.2.2.2.2.2.2.2.2.1 (by decide) ?_
    exact ks_X8_digitHere_24 C0 v_2 H locs ls hp hP hD hS (lv_sub hl [] rfl)
abbrev aG2 (cI cC cZ cB cJ : ClassId) (xI uY : Nat) (qL qJ rX : Int32) (qM : Nat -> Int32) : va_W := [(xI, .inr (8, [.ref uY, .int qL, .int qJ, .int rX])), (uY, .inl (cC, 80, .inl qM))]
abbrev q_X8_readNumber (dC : Nat -> ClassId) (dI : Nat -> Nat -> Nat) (cI cC cZ cB cJ : ClassId) (A : Nat -> Prop) (xI uY : Nat) (qL rX : Int32) (qM : Nat -> Int32) (post : Int32 -> Int32 -> Prop) : Array Value -> State -> Outcome -> State -> Prop := va_Qi (fun (r u : Int32) => post r u) (fun u t => gB (dC, dI) (tyl cI cC cZ cB cJ) A (aG2 cI cC cZ cB cJ xI uY qL u rX qM) t) A
abbrev rm_X8_readNumber : Room := { frames := 1, cells := 0, slots := 0, locals := 21 }
section S_X8_readNumber
variable {p : Program} {l : Launch} {e : Env} {s : State} {m : MethodId} {args : Array Value} {below : List Frame} {meth : Method} {c : Code} {dC : Nat -> ClassId} {dI : Nat -> Nat -> Nat} {cI cC cZ cB cJ : ClassId} {A : Nat -> Prop} {xI uY : Nat} {qL rX : Int32} {qM : Nat -> Int32} {post : Int32 -> Int32 -> Prop}
def ws_X8_readNumber_18 (post : Int32 -> Int32 -> Prop) (next : Int32 -> Int32 -> Int32 -> Int32 -> Prop) (rX : Int32) (qM : Nat -> Int32) (x1 x2 x3 qJ : Int32) : Prop := (x1 <= x3 -> post x2 qJ) /\ (¬ x1 <= x3 -> wp_X8_digitHere (fun r_3 => (¬ r_3 = (-1) -> ∀ v_4 : Int32, v_4 = x2 * 10 -> ∀ v_5 : Int32, v_5 = v_4 + r_3 -> wp_X8_skip (fun aFI => ∀ v_7 : Int32, v_7 = x3 + 1 -> next x1 v_5 v_7 aFI) qJ rX) /\ (r_3 = (-1) -> post x2 qJ)) qJ rX qM)
noncomputable def wb_X8_readNumber_18 (post : Int32 -> Int32 -> Prop) (rX : Int32) (qM : Nat -> Int32) : Nat -> Int32 -> Int32 -> Int32 -> Int32 -> Prop := fun n => Nat.rec (motive := fun _ => Int32 -> Int32 -> Int32 -> Int32 -> Prop) (fun _ _ _ _ => False) (fun _ ih => ws_X8_readNumber_18 post ih rX qM) n
set_option maxHeartbeats 4000000 in
set_option maxRecDepth 100000 in
theorem ks_X8_readNumber_18 (C0 : gc aEZ (some .int) 5 RX8 (dC, dI) (tyl cI cC cZ cB cJ) A p s m args meth c) {next : Int32 -> Int32 -> Int32 -> Int32 -> Prop} (hKn : ∀ (x1 : Int32) (x2 : Int32) (x3 : Int32) (qJ : Int32) (H : Heap) (locs : List Loc) (ls : Array Slot), next x1 x2 x3 qJ -> va_P (dC, dI) classes (aG2 cI cC cZ cB cJ xI uY qL qJ rX qM) H -> va_D A (aG2 cI cC cZ cB cJ xI uY qL qJ rX qM) -> va_S A s.heap H locs -> lv_has ls 5 [(0, .ref xI), (1, .int x1), (2, .int x2), (3, .int x3)] -> W p l e rm_X8_readNumber s m args below meth c H locs 0 0 (MQ below (q_X8_readNumber dC dI cI cC cZ cB cJ A xI uY qL rX qM post) args s 0 0 A) (F0 m 18 ls [])) : ∀ (x1 x2 x3 qJ : Int32) (H : Heap) (locs : List Loc) (ls : Array Slot), (ws_X8_readNumber_18 post next rX qM) x1 x2 x3 qJ -> va_P (dC, dI) classes (aG2 cI cC cZ cB cJ xI uY qL qJ rX qM) H -> va_D A (aG2 cI cC cZ cB cJ xI uY qL qJ rX qM) -> va_S A s.heap H locs -> lv_has ls 5 [(0, .ref xI), (1, .int x1), (2, .int x2), (3, .int x3)] -> W p l e rm_X8_readNumber s m args below meth c H locs 0 0 (MQ below (q_X8_readNumber dC dI cI cC cZ cB cJ A xI uY qL rX qM post) args s 0 0 A) (F0 m 18 ls []) := by
  obtain ⟨hx, hb, hr, hml, hown, hts, hlocks, hA, hK, hN, tL, tM, hZL, hTL, hZM, hTM, hZX⟩ := id C0
  intro x1 x2 x3 qJ H locs ls hp hP hD hS hl
  unfold ws_X8_readNumber_18 at hp
  refine lv_iload_n hx hb aMj.2.2.2.2.2.2.2.2.2.2.2.2.1 rfl (lv_at hl 3 rfl) ?_
  refine lv_iload_n hx hb aMj.2.2.2.2.2.2.2.2.2.2.2.2.2.1 rfl (lv_at hl 1 rfl) ?_
  refine lv_icmp_ge (tgt := 56) hx hb aMj.2.2.2.2.2.2.2.2.2.2.2.2.2.2.1 (by decide) (fun hc => ?_) (fun hc => ?_)
  · have hp := hp.1 hc
    refine lv_iload_n hx hb eX8_readNumber_56.1 rfl (lv_at hl 2 rfl) ?_
    exact W.iret (v := x2) hx hb hr (fun t ht hW => ⟨⟨x2, qJ, rfl, hp, by rw [ht]; exact hP, va_K.moved hW.alike hK, hD⟩, hS.F ht⟩) hS.2.2 eX8_readNumber_56.2
  · have hp := hp.2 hc
    refine lv_aload_n hx hb aMj.2.2.2.2.2.2.2.2.2.2.2.2.2.2.2 rfl (lv_at hl 0 rfl) ?_
    refine yW (wc := (wd_X8_digitHere cI cC cZ cB cJ xI uY qL qJ rX qM)) hP hD hS hA [0, 1] [] rfl rfl rfl rfl (zF (As := []) (rest := []) C0 hP hD hS [0, 1] rfl rfl 0 8 rfl rfl (c_X8_digitHere l dC dI cI cC cZ cB cJ xI uY H.size qL qJ rX qM _ hp) q_25 q_28 q_26 q_27 q_5 h_X8_digitHere rfl rfl ⟨lbz rfl, lbz rfl⟩ rfl rfl hl.1 rfl (lv_room (lbz rfl)) aK3.1 ⟨Nat.zero_le _, Nat.zero_le _⟩) (fun r_3 u H locs hp hP hD hS => ?_)
    have hPD := PDs (ws' := (aG2 cI cC cZ cB cJ xI uY qL qJ rX qM)) hP hD [0, 1] (by decide) rfl
    have hP := hPD.1
    have hD := hPD.2
    refine lv_istore (lv' := [(4, .int r_3), (0, .ref xI), (1, .int x1), (2, .int x2), (3, .int x3)]) hx hb aK3.2.1 hl (by decide) rfl (fun ls hl => ?_)
    refine lv_iload hx hb aK3.2.2.1 (lv_at hl 0 rfl) ?_
    refine lv_iconst (v := (-1)) hx hb aK3.2.2.2.1 aEJ ?_
    refine lv_icmp_ne (tgt := 38) hx hb aK3.2.2.2.2.1 (by decide) (fun hc => ?_) (fun hc => ?_)
    · have hp := hp.1 hc
      refine lv_iload_n hx hb aK3.2.2.2.2.2.2.1 rfl (lv_at hl 3 rfl) ?_
      refine lv_bipush (v := 10) hx hb aK3.2.2.2.2.2.2.2.1 bp_10 ?_
      refine lv_imul hx hb aK3.2.2.2.2.2.2.2.2.1 ?_
      refine lv_topi (fun v_4 aHM => ?_)
      have hp := hp v_4 aHM
      refine lv_iload hx hb aK3.2.2.2.2.2.2.2.2.2.1 (lv_at hl 0 rfl) ?_
      refine lv_iadd hx hb aK3.2.2.2.2.2.2.2.2.2.2.1 ?_
      refine lv_topi (fun v_5 aJD => ?_)
      have hp := hp v_5 aJD
      refine lv_istore_n (lv' := [(2, .int v_5), (4, .int r_3), (0, .ref xI), (1, .int x1), (3, .int x3)]) hx hb aK3.2.2.2.2.2.2.2.2.2.2.2.1 rfl hl (by decide) rfl (fun ls hl => ?_)
      refine lv_aload_n hx hb aK3.2.2.2.2.2.2.2.2.2.2.2.2.1 rfl (lv_at hl 2 rfl) ?_
      refine aBn (wc := (wd_X8_skip cI cC cZ cB cJ xI uY qL qJ rX)) hP hD hS hA [0] [1] rfl rfl rfl rfl (zF (As := []) (rest := []) C0 hP hD hS [0] rfl rfl 0 8 rfl rfl (c_X8_skip l dC dI cI cC cZ cB cJ xI uY H.size qL qJ rX _ hp) q_29 q_32 q_30 q_31 q_5 h_X8_skip rfl rfl ⟨lbz rfl, lbz rfl⟩ rfl rfl hl.1 rfl (lv_room (lbz rfl)) aK3.2.2.2.2.2.2.2.2.2.2.2.2.2.1 ⟨Nat.zero_le _, Nat.zero_le _⟩) (fun u H locs hp hP hD hS => ?_)
      obtain ⟨aFI, rfl⟩ : ∃ z, z = u := ⟨_, rfl⟩
      have hPD := PDs (ws' := (aG2 cI cC cZ cB cJ xI uY qL aFI rX qM)) hP hD [1, 0] (by decide) rfl
      have hP := hPD.1
      have hD := hPD.2
      obtain ⟨v_7, ev_7⟩ : ∃ y : Int32, y = x3 + 1 := ⟨_, rfl⟩
      refine lv_iinc (v := v_7) (lv' := [(3, .int v_7), (2, .int v_5), (4, .int r_3), (0, .ref xI), (1, .int x1)]) hx hb aK3.2.2.2.2.2.2.2.2.2.2.2.2.2.2.1 hl (k := 4) rfl (by rw [ev_7]; rfl) (by decide) rfl (fun ls hl => ?_)
      have hp := hp v_7 ev_7
      refine lv_goto (tgt := 18) hx hb aK3.2.2.2.2.2.2.2.2.2.2.2.2.2.2.2 (by decide) ?_
      exact hKn x1 v_5 v_7 aFI H locs ls hp hP hD hS (lv_sub hl [3, 4, 1, 0] rfl)
    · have hp := hp.2 hc
      refine lv_goto (tgt := 56) hx hb aK3.2.2.2.2.2.1 (by decide) ?_
      refine lv_iload_n hx hb eX8_readNumber_56.1 rfl (lv_at hl 3 rfl) ?_
      exact W.iret (v := x2) hx hb hr (fun t ht hW => ⟨⟨x2, qJ, rfl, hp, by rw [ht]; exact hP, va_K.moved hW.alike hK, hD⟩, hS.F ht⟩) hS.2.2 eX8_readNumber_56.2
set_option maxHeartbeats 4000000 in
set_option maxRecDepth 100000 in
theorem kb_X8_readNumber_18 (C0 : gc aEZ (some .int) 5 RX8 (dC, dI) (tyl cI cC cZ cB cJ) A p s m args meth c) : ∀ (n : Nat), ∀ (x1 x2 x3 qJ : Int32) (H : Heap) (locs : List Loc) (ls : Array Slot), (wb_X8_readNumber_18 post rX qM n) x1 x2 x3 qJ -> va_P (dC, dI) classes (aG2 cI cC cZ cB cJ xI uY qL qJ rX qM) H -> va_D A (aG2 cI cC cZ cB cJ xI uY qL qJ rX qM) -> va_S A s.heap H locs -> lv_has ls 5 [(0, .ref xI), (1, .int x1), (2, .int x2), (3, .int x3)] -> W p l e rm_X8_readNumber s m args below meth c H locs 0 0 (MQ below (q_X8_readNumber dC dI cI cC cZ cB cJ A xI uY qL rX qM post) args s 0 0 A) (F0 m 18 ls []) := by
  intro n
  induction n with
  | zero =>
    intro x1 x2 x3 qJ H locs ls hp
    exact False.elim hp
  | succ n ih =>
    intro x1 x2 x3 qJ H locs ls hp
    exact ks_X8_readNumber_18 C0 ih x1 x2 x3 qJ H locs ls hp
end S_X8_readNumber
def aMm (post : Int32 -> Int32 -> Prop) (p0 qJ rX : Int32) (qM : Nat -> Int32) : Prop := wp_X8_digitHere (fun r_1 => (¬ r_1 = (-1) -> wp_X8_skip (fun aCK => ∃ n : Nat, wb_X8_readNumber_18 post rX qM n p0 r_1 1 aCK) qJ rX) /\ (r_1 = (-1) -> post (-1) qJ)) qJ rX qM
set_option maxHeartbeats 4000000 in
set_option maxRecDepth 100000 in
theorem c_X8_readNumber (l : Launch) (dC : Nat -> ClassId) (dI : Nat -> Nat -> Nat) (cI cC cZ cB cJ : ClassId) (xI uY sz : Nat) (p0 qL qJ rX : Int32) (qM : Nat -> Int32) (post : Int32 -> Int32 -> Prop) (hw : aMm post p0 qJ rX qM) : Met l aXs (gw aXs aEZ 5 (some .int)) rm_X8_readNumber (va_Pc [.ref xI, .int p0] (gPre (dC, dI) (tyl cI cC cZ cB cJ) (aG2 cI cC cZ cB cJ xI uY qL qJ rX qM) sz)) (q_X8_readNumber dC dI cI cC cZ cB cJ (va_A (aG2 cI cC cZ cB cJ xI uY qL qJ rX qM) sz) xI uY qL rX qM post) 0 0 (va_A (aG2 cI cC cZ cB cJ xI uY qL qJ rX qM) sz) := by
  refine aBJ (own := RX8) (dC, dI) (tyl cI cC cZ cB cJ) (aG2 cI cC cZ cB cJ xI uY qL qJ rX qM) sz [.ref xI, .int p0] (fun A => q_X8_readNumber dC dI cI cC cZ cB cJ A xI uY qL rX qM post) pn_RX8 rfl (lbz rfl) ?_
  intro p e s m args below meth c A H locs ls C0 hP hD hS hl
  have hl : lv_has ls 5 [(0, .ref xI), (1, .int p0)] := hl
  obtain ⟨hx, hb, hr, hml, hown, hts, hlocks, hA, hK, hN, tL, tM, hZL, hTL, hZM, hTM, hZX⟩ := id C0
  have hp := hw
  unfold aMm at hp
  refine lv_aload_n hx hb aMj.1 rfl (lv_at hl 0 rfl) ?_
  refine yW (wc := (wd_X8_digitHere cI cC cZ cB cJ xI uY qL qJ rX qM)) hP hD hS hA [0, 1] [] rfl rfl rfl rfl (zF (As := []) (rest := []) C0 hP hD hS [0, 1] rfl rfl 0 8 rfl rfl (c_X8_digitHere l dC dI cI cC cZ cB cJ xI uY H.size qL qJ rX qM _ hp) q_25 q_28 q_26 q_27 q_5 h_X8_digitHere rfl rfl ⟨lbz rfl, lbz rfl⟩ rfl rfl hl.1 rfl (lv_room (lbz rfl)) aMj.2.1 ⟨Nat.zero_le _, Nat.zero_le _⟩) (fun r_1 u H locs hp hP hD hS => ?_)
  have hPD := PDs (ws' := (aG2 cI cC cZ cB cJ xI uY qL qJ rX qM)) hP hD [0, 1] (by decide) rfl
  have hP := hPD.1
  have hD := hPD.2
  refine lv_istore_n (lv' := [(2, .int r_1), (0, .ref xI), (1, .int p0)]) hx hb aMj.2.2.1 rfl hl (by decide) rfl (fun ls hl => ?_)
  refine lv_iload_n hx hb aMj.2.2.2.1 rfl (lv_at hl 0 rfl) ?_
  refine lv_iconst (v := (-1)) hx hb aMj.2.2.2.2.1 aEJ ?_
  refine lv_icmp_ne (tgt := 12) hx hb aMj.2.2.2.2.2.1 (by decide) (fun hc => ?_) (fun hc => ?_)
  · have hp := hp.1 hc
    refine lv_aload_n hx hb aMj.2.2.2.2.2.2.2.2.1 rfl (lv_at hl 1 rfl) ?_
    refine aBn (wc := (wd_X8_skip cI cC cZ cB cJ xI uY qL qJ rX)) hP hD hS hA [0] [1] rfl rfl rfl rfl (zF (As := []) (rest := []) C0 hP hD hS [0] rfl rfl 0 8 rfl rfl (c_X8_skip l dC dI cI cC cZ cB cJ xI uY H.size qL qJ rX _ hp) q_29 q_32 q_30 q_31 q_5 h_X8_skip rfl rfl ⟨lbz rfl, lbz rfl⟩ rfl rfl hl.1 rfl (lv_room (lbz rfl)) aMj.2.2.2.2.2.2.2.2.2.1 ⟨Nat.zero_le _, Nat.zero_le _⟩) (fun u H locs hp hP hD hS => ?_)
    obtain ⟨aCK, rfl⟩ : ∃ z, z = u := ⟨_, rfl⟩
    have hPD := PDs (ws' := (aG2 cI cC cZ cB cJ xI uY qL aCK rX qM)) hP hD [1, 0] (by decide) rfl
    have hP := hPD.1
    have hD := hPD.2
    refine lv_iconst (v := 1) hx hb aMj.2.2.2.2.2.2.2.2.2.2.1 aDx ?_
    refine lv_istore_n (lv' := [(3, .int 1), (2, .int r_1), (0, .ref xI), (1, .int p0)]) hx hb aMj.2.2.2.2.2.2.2.2.2.2.2.1 rfl hl (by decide) rfl (fun ls hl => ?_)
    obtain ⟨n9, hp⟩ := hp
    exact kb_X8_readNumber_18 C0 n9 p0 r_1 1 aCK H locs ls hp hP hD hS (lv_sub hl [2, 3, 1, 0] rfl)
  · have hp := hp.2 hc
    refine lv_iconst (v := (-1)) hx hb aMj.2.2.2.2.2.2.1 aEJ ?_
    exact W.iret (v := (-1)) hx hb hr (fun t ht hW => ⟨⟨(-1), qJ, rfl, hp, by rw [ht]; exact hP, va_K.moved hW.alike hK, hD⟩, hS.F ht⟩) hS.2.2 aMj.2.2.2.2.2.2.2.1
abbrev wd_X8_take (cI cC cZ cB cJ : ClassId) (xI uY : Nat) (qL qJ rX : Int32) (qM : Nat -> Int32) : va_W := [(xI, .inr (8, [.ref uY, .int qL, .int qJ, .int rX])), (uY, .inl (cC, 80, .inl qM))]
abbrev q_X8_take (dC : Nat -> ClassId) (dI : Nat -> Nat -> Nat) (cI cC cZ cB cJ : ClassId) (A : Nat -> Prop) (xI uY : Nat) (qL rX : Int32) (qM : Nat -> Int32) (post : Int32 -> Int32 -> Prop) : Array Value -> State -> Outcome -> State -> Prop := va_Qi (fun (r u : Int32) => post r u) (fun u t => gB (dC, dI) (tyl cI cC cZ cB cJ) A (wd_X8_take cI cC cZ cB cJ xI uY qL u rX qM) t) A
abbrev rm_X8_take : Room := { frames := 1, cells := 0, slots := 0, locals := 20 }
def wp_X8_take (post : Int32 -> Int32 -> Prop) (p0 qJ rX : Int32) (qM : Nat -> Int32) : Prop := wp_X8_here (fun r_1 => (r_1 = p0 -> ∀ v_2 : Int32, v_2 = qJ + 1 -> post 1 v_2) /\ (¬ r_1 = p0 -> post 0 qJ)) qJ rX qM
set_option maxHeartbeats 4000000 in
set_option maxRecDepth 100000 in
theorem c_X8_take (l : Launch) (dC : Nat -> ClassId) (dI : Nat -> Nat -> Nat) (cI cC cZ cB cJ : ClassId) (xI uY sz : Nat) (p0 qL qJ rX : Int32) (qM : Nat -> Int32) (post : Int32 -> Int32 -> Prop) (hw : wp_X8_take post p0 qJ rX qM) : Met l yX8_take (gw yX8_take cX8_take 2 (some .boolean)) rm_X8_take (va_Pc [.ref xI, .int p0] (gPre (dC, dI) (tyl cI cC cZ cB cJ) (wd_X8_take cI cC cZ cB cJ xI uY qL qJ rX qM) sz)) (q_X8_take dC dI cI cC cZ cB cJ (va_A (wd_X8_take cI cC cZ cB cJ xI uY qL qJ rX qM) sz) xI uY qL rX qM post) 0 0 (va_A (wd_X8_take cI cC cZ cB cJ xI uY qL qJ rX qM) sz) := by
  refine aBJ (own := RX8) (dC, dI) (tyl cI cC cZ cB cJ) (wd_X8_take cI cC cZ cB cJ xI uY qL qJ rX qM) sz [.ref xI, .int p0] (fun A => q_X8_take dC dI cI cC cZ cB cJ A xI uY qL rX qM post) pn_RX8 rfl (lbz rfl) ?_
  intro p e s m args below meth c A H locs ls C0 hP hD hS hl
  have hl : lv_has ls 2 [(0, .ref xI), (1, .int p0)] := hl
  obtain ⟨hx, hb, hr, hml, hown, hts, hlocks, hA, hK, hN, tL, tM, hZL, hTL, hZM, hTM, hZX⟩ := id C0
  have hp := hw
  unfold wp_X8_take at hp
  refine lv_aload_n hx hb eX8_take_0.1 rfl (lv_at hl 0 rfl) ?_
  refine yW (wc := (wd_X8_here cI cC cZ cB cJ xI uY qL qJ rX qM)) hP hD hS hA [0, 1] [] rfl rfl rfl rfl (zF (As := []) (rest := []) C0 hP hD hS [0, 1] rfl rfl 0 8 rfl rfl (c_X8_here l dC dI cI cC cZ cB cJ xI uY H.size qL qJ rX qM _ hp) q_33 q_36 q_34 q_35 q_5 h_X8_here rfl rfl ⟨lbz rfl, lbz rfl⟩ rfl rfl hl.1 rfl (lv_room (lbz rfl)) eX8_take_0.2.1 ⟨Nat.zero_le _, Nat.zero_le _⟩) (fun r_1 u H locs hp hP hD hS => ?_)
  have hPD := PDs (ws' := (wd_X8_take cI cC cZ cB cJ xI uY qL qJ rX qM)) hP hD [0, 1] (by decide) rfl
  have hP := hPD.1
  have hD := hPD.2
  refine lv_iload_n hx hb eX8_take_0.2.2.1 rfl (lv_at hl 1 rfl) ?_
  refine lv_icmp_eq (tgt := 10) hx hb eX8_take_0.2.2.2.1 (by decide) (fun hc => ?_) (fun hc => ?_)
  · have hp := hp.1 hc
    refine lv_aload_n hx hb eX8_take_0.2.2.2.2.2.2.1 rfl (lv_at hl 0 rfl) ?_
    refine lv_dup hx hb eX8_take_0.2.2.2.2.2.2.2.1 rfl ?_
    refine va_get (D := (dC, dI)) (ci := 8) (v := .int qJ) (C := RX8) (T := TX8) (N := 4) hx hb hts i_X8 hown hK hP 0 rfl rfl 2 (lbz rfl) (hts _ q_13) (fun _ h9 => h9) rfl eX8_take_0.2.2.2.2.2.2.2.2.1 ?_
    refine lv_iconst (v := 1) hx hb eX8_take_0.2.2.2.2.2.2.2.2.2.1 aDx ?_
    refine lv_iadd hx hb eX8_take_0.2.2.2.2.2.2.2.2.2.2.1 ?_
    refine lv_topi (fun v_2 aGO => ?_)
    have hp := hp v_2 aGO
    refine va_put (D := (dC, dI)) (ci := 8) (v := .int v_2) (ty := .int) (C := RX8) (T := TX8) (N := 4) hx hb hts i_X8 tyX8 tyX8_ok nmX8 hown hK hP hD hS 0 rfl rfl 2 (lbz rfl) (hts _ q_13) (fun _ h9 => h9) rfl (tyX8_ok 2 (lbz rfl)) rfl rfl (lbz rfl) eX8_take_0.2.2.2.2.2.2.2.2.2.2.2.1 (fun H locs hP hD hS => ?_)
    have hPD := PDw (ws' := (wd_X8_take cI cC cZ cB cJ xI uY qL v_2 rX qM)) hP hD rfl
    have hP := hPD.1
    have hD := hPD.2
    refine lv_iconst (v := 1) hx hb eX8_take_0.2.2.2.2.2.2.2.2.2.2.2.2.1 aDx ?_
    exact W.zret (v := 1) hx hb hr rfl (fun t ht hW => ⟨⟨1, v_2, rfl, hp, by rw [ht]; exact hP, va_K.moved hW.alike hK, hD⟩, hS.F ht⟩) hS.2.2 eX8_take_0.2.2.2.2.2.2.2.2.2.2.2.2.2
  · have hp := hp.2 hc
    refine lv_iconst (v := 0) hx hb eX8_take_0.2.2.2.2.1 aCi ?_
    exact W.zret (v := 0) hx hb hr rfl (fun t ht hW => ⟨⟨0, qJ, rfl, hp, by rw [ht]; exact hP, va_K.moved hW.alike hK, hD⟩, hS.F ht⟩) hS.2.2 eX8_take_0.2.2.2.2.2.1
abbrev aXj (cI cC cZ cB cJ : ClassId) (xI uY tJ jJ : Nat) (qL qJ rX : Int32) (qM uU gF : Nat -> Int32) : va_W := [(xI, .inr (8, [.ref uY, .int qL, .int qJ, .int rX])), (uY, .inl (cC, 80, .inl qM)), (tJ, .inl (cI, 16, .inl uU)), (jJ, .inl (cI, 16, .inl gF))]
abbrev q_X3_readPair (dC : Nat -> ClassId) (dI : Nat -> Nat -> Nat) (cI cC cZ cB cJ : ClassId) (A : Nat -> Prop) (xI uY tJ jJ : Nat) (qL rX : Int32) (qM : Nat -> Int32) (post : Int32 -> Int32 -> (Nat -> Int32) -> (Nat -> Int32) -> Prop) : Array Value -> State -> Outcome -> State -> Prop := va_Qi (fun (r : Int32) (u : Int32 × (Nat -> Int32) × (Nat -> Int32)) => post r u.1 u.2.1 u.2.2) (fun u t => gB (dC, dI) (tyl cI cC cZ cB cJ) A (aXj cI cC cZ cB cJ xI uY tJ jJ qL u.1 rX qM u.2.1 u.2.2) t) A
abbrev rm_X3_readPair : Room := { frames := 2, cells := 0, slots := 0, locals := 45 }
def wp_X3_readPair (post : Int32 -> Int32 -> (Nat -> Int32) -> (Nat -> Int32) -> Prop) (p3 qJ rX : Int32) (qM uU gF : Nat -> Int32) : Prop := aMm (fun r_1 aCK => (r_1 = (-1) -> post 0 aCK uU gF) /\ (¬ r_1 = (-1) -> wp_X8_take (fun r_3 aDB => (¬ r_3 = 0 -> aMm (fun r_5 aFI => (r_5 = (-1) -> post 0 aFI uU gF) /\ (¬ r_5 = (-1) -> (p3 < 0 -> post 0 aFI uU gF) /\ (¬ p3 < 0 -> (16 <= p3 -> post 0 aFI uU gF) /\ (¬ 16 <= p3 -> (p3 < 16 -> vp_in p3 16 /\ (vp_in p3 16 /\ (post 1 aFI (upd uU p3.toNatClampNeg r_1) (upd gF p3.toNatClampNeg r_5)))) /\ (¬ p3 < 16 -> post 0 aFI uU gF))))) 2 aDB rX qM) /\ (r_3 = 0 -> post 0 aDB uU gF)) 44 aCK rX qM)) 2 qJ rX qM
set_option maxHeartbeats 4000000 in
set_option maxRecDepth 100000 in
theorem c_X3_readPair (l : Launch) (dC : Nat -> ClassId) (dI : Nat -> Nat -> Nat) (cI cC cZ cB cJ : ClassId) (xI uY tJ jJ sz : Nat) (p3 qL qJ rX : Int32) (qM uU gF : Nat -> Int32) (post : Int32 -> Int32 -> (Nat -> Int32) -> (Nat -> Int32) -> Prop) (hw : wp_X3_readPair post p3 qJ rX qM uU gF) : Met l yX3_readPair (gw yX3_readPair aEm 6 (some .boolean)) rm_X3_readPair (va_Pc [.ref xI, .ref tJ, .ref jJ, .int p3] (gPre (dC, dI) (tyl cI cC cZ cB cJ) (aXj cI cC cZ cB cJ xI uY tJ jJ qL qJ rX qM uU gF) sz)) (q_X3_readPair dC dI cI cC cZ cB cJ (va_A (aXj cI cC cZ cB cJ xI uY tJ jJ qL qJ rX qM uU gF) sz) xI uY tJ jJ qL rX qM post) 0 0 (va_A (aXj cI cC cZ cB cJ xI uY tJ jJ qL qJ rX qM uU gF) sz) := by
  refine aBJ (own := RX3) (dC, dI) (tyl cI cC cZ cB cJ) (aXj cI cC cZ cB cJ xI uY tJ jJ qL qJ rX qM uU gF) sz [.ref xI, .ref tJ, .ref jJ, .int p3] (fun A => q_X3_readPair dC dI cI cC cZ cB cJ A xI uY tJ jJ qL rX qM post) pn_RX3 rfl (lbz rfl) ?_
  intro p e s m args below meth c A H locs ls C0 hP hD hS hl
  have hl : lv_has ls 6 [(0, .ref xI), (1, .ref tJ), (2, .ref jJ), (3, .int p3)] := hl
  obtain ⟨hx, hb, hr, hml, hown, hts, hlocks, hA, hK, hN, tL, tM, hZL, hTL, hZM, hTM, hZX⟩ := id C0
  have hp := hw
  unfold wp_X3_readPair at hp
  refine lv_aload_n hx hb aE1.1 rfl (lv_at hl 0 rfl) ?_
  refine lv_iconst (v := 2) hx hb aE1.2.1 ic_2 ?_
  have hm := mgk (wc := (aG2 cI cC cZ cB cJ xI uY qL qJ rX qM)) hP mk_1 4 rfl rfl rfl
  refine yW hP hD hS hA (yS mk_1) (aAi mk_1) hm.1 hm.2 (aAk _) (zW _) (zF (As := [.int 2]) (rest := []) C0 hP hD hS (yS mk_1) hm.1 (aAl _) 0 8 rfl rfl (c_X8_readNumber l dC dI cI cC cZ cB cJ xI uY H.size 2 qL qJ rX qM _ hp) q_37 q_40 q_38 q_39 q_5 h_X8_readNumber rfl rfl ⟨lbz rfl, lbz rfl⟩ rfl rfl hl.1 rfl (lv_room (lbz rfl)) aE1.2.2.1 ⟨Nat.zero_le _, Nat.zero_le _⟩) (fun r_1 u H locs hp hP hD hS => ?_)
  obtain ⟨aCK, rfl⟩ : ∃ z, z = u := ⟨_, rfl⟩
  have hPD := PDm (ws' := (aXj cI cC cZ cB cJ xI uY tJ jJ qL aCK rX qM uU gF)) hP hD 4 rfl rfl rfl
  have hP := hPD.1
  have hD := hPD.2
  refine lv_istore (lv' := [(4, .int r_1), (0, .ref xI), (1, .ref tJ), (2, .ref jJ), (3, .int p3)]) hx hb aE1.2.2.2.1 hl (by decide) rfl (fun ls hl => ?_)
  refine lv_iload hx hb aE1.2.2.2.2.1 (lv_at hl 0 rfl) ?_
  refine lv_iconst (v := (-1)) hx hb aE1.2.2.2.2.2.1 aEJ ?_
  refine lv_icmp_eq (tgt := 22) hx hb aE1.2.2.2.2.2.2.1 (by decide) (fun hc => ?_) (fun hc => ?_)
  · have hp := hp.1 hc
    refine lv_iconst (v := 0) hx hb aE1.2.2.2.2.2.2.2.2.2.2.2.1 aCi ?_
    exact W.zret (v := 0) hx hb hr rfl (fun t ht hW => ⟨⟨0, (aCK, uU, gF), rfl, hp, by rw [ht]; exact hP, va_K.moved hW.alike hK, hD⟩, hS.F ht⟩) hS.2.2 aE1.2.2.2.2.2.2.2.2.2.2.2.2.1
  · have hp := hp.2 hc
    refine lv_aload_n hx hb aE1.2.2.2.2.2.2.2.1 rfl (lv_at hl 1 rfl) ?_
    refine lv_bipush (v := 44) hx hb aE1.2.2.2.2.2.2.2.2.1 bp_44 ?_
    have hm := mgk (wc := (wd_X8_take cI cC cZ cB cJ xI uY qL aCK rX qM)) hP mk_1 4 rfl rfl rfl
    refine yW hP hD hS hA (yS mk_1) (aAi mk_1) hm.1 hm.2 (aAk _) (zW _) (zF (As := [.int 44]) (rest := []) C0 hP hD hS (yS mk_1) hm.1 (aAl _) 0 8 rfl rfl (c_X8_take l dC dI cI cC cZ cB cJ xI uY H.size 44 qL aCK rX qM _ hp) q_41 q_44 q_42 q_43 q_5 h_X8_take rfl rfl ⟨lbz rfl, lbz rfl⟩ rfl rfl hl.1 rfl (lv_room (lbz rfl)) aE1.2.2.2.2.2.2.2.2.2.1 ⟨Nat.zero_le _, Nat.zero_le _⟩) (fun r_3 u H locs hp hP hD hS => ?_)
    obtain ⟨aDB, rfl⟩ : ∃ z, z = u := ⟨_, rfl⟩
    have hPD := PDm (ws' := (aXj cI cC cZ cB cJ xI uY tJ jJ qL aDB rX qM uU gF)) hP hD 4 rfl rfl rfl
    have hP := hPD.1
    have hD := hPD.2
    refine lv_if_ne (tgt := 24) hx hb aE1.2.2.2.2.2.2.2.2.2.2.1 (by decide) (fun hc => ?_) (fun hc => ?_)
    · have hp := hp.1 hc
      refine lv_aload_n hx hb aE1.2.2.2.2.2.2.2.2.2.2.2.2.2.1 rfl (lv_at hl 1 rfl) ?_
      refine lv_iconst (v := 2) hx hb aE1.2.2.2.2.2.2.2.2.2.2.2.2.2.2.1 ic_2 ?_
      have hm := mgk (wc := (aG2 cI cC cZ cB cJ xI uY qL aDB rX qM)) hP mk_1 4 rfl rfl rfl
      refine yW hP hD hS hA (yS mk_1) (aAi mk_1) hm.1 hm.2 (aAk _) (zW _) (zF (As := [.int 2]) (rest := []) C0 hP hD hS (yS mk_1) hm.1 (aAl _) 0 8 rfl rfl (c_X8_readNumber l dC dI cI cC cZ cB cJ xI uY H.size 2 qL aDB rX qM _ hp) q_37 q_40 q_38 q_39 q_5 h_X8_readNumber rfl rfl ⟨lbz rfl, lbz rfl⟩ rfl rfl hl.1 rfl (lv_room (lbz rfl)) aE1.2.2.2.2.2.2.2.2.2.2.2.2.2.2.2 ⟨Nat.zero_le _, Nat.zero_le _⟩) (fun r_5 u H locs hp hP hD hS => ?_)
      obtain ⟨aFI, rfl⟩ : ∃ z, z = u := ⟨_, rfl⟩
      have hPD := PDm (ws' := (aXj cI cC cZ cB cJ xI uY tJ jJ qL aFI rX qM uU gF)) hP hD 4 rfl rfl rfl
      have hP := hPD.1
      have hD := hPD.2
      refine lv_istore (lv' := [(5, .int r_5), (4, .int r_1), (0, .ref xI), (1, .ref tJ), (2, .ref jJ), (3, .int p3)]) hx hb aDJ.1 hl (by decide) rfl (fun ls hl => ?_)
      refine lv_iload hx hb aDJ.2.1 (lv_at hl 0 rfl) ?_
      refine lv_iconst (v := (-1)) hx hb aDJ.2.2.1 aEJ ?_
      refine lv_icmp_eq (tgt := 53) hx hb aDJ.2.2.2.1 (by decide) (fun hc => ?_) (fun hc => ?_)
      · have hp := hp.1 hc
        refine lv_iconst (v := 0) hx hb aDJ.2.2.2.2.2.2.2.2.2.2.2.2.2.2.1 aCi ?_
        exact W.zret (v := 0) hx hb hr rfl (fun t ht hW => ⟨⟨0, (aFI, uU, gF), rfl, hp, by rw [ht]; exact hP, va_K.moved hW.alike hK, hD⟩, hS.F ht⟩) hS.2.2 aDJ.2.2.2.2.2.2.2.2.2.2.2.2.2.2.2
      · have hp := hp.2 hc
        refine lv_iload_n hx hb aDJ.2.2.2.2.1 rfl (lv_at hl 5 rfl) ?_
        refine lv_if_lt (tgt := 53) hx hb aDJ.2.2.2.2.2.1 (by decide) (fun hc => ?_) (fun hc => ?_)
        · have hp := hp.1 hc
          refine lv_iconst (v := 0) hx hb aDJ.2.2.2.2.2.2.2.2.2.2.2.2.2.2.1 aCi ?_
          exact W.zret (v := 0) hx hb hr rfl (fun t ht hW => ⟨⟨0, (aFI, uU, gF), rfl, hp, by rw [ht]; exact hP, va_K.moved hW.alike hK, hD⟩, hS.F ht⟩) hS.2.2 aDJ.2.2.2.2.2.2.2.2.2.2.2.2.2.2.2
        · have hp := hp.2 hc
          refine lv_iload_n hx hb aDJ.2.2.2.2.2.2.1 rfl (lv_at hl 5 rfl) ?_
          refine lv_aload_n hx hb aDJ.2.2.2.2.2.2.2.1 rfl (lv_at hl 3 rfl) ?_
          refine va_alen (v := 16) hx hb hK hP 2 0 rfl rfl rfl aDJ.2.2.2.2.2.2.2.2.1 ?_
          refine lv_icmp_ge (tgt := 53) hx hb aDJ.2.2.2.2.2.2.2.2.2.1 (by decide) (fun hc => ?_) (fun hc => ?_)
          · have hp := hp.1 hc
            refine lv_iconst (v := 0) hx hb aDJ.2.2.2.2.2.2.2.2.2.2.2.2.2.2.1 aCi ?_
            exact W.zret (v := 0) hx hb hr rfl (fun t ht hW => ⟨⟨0, (aFI, uU, gF), rfl, hp, by rw [ht]; exact hP, va_K.moved hW.alike hK, hD⟩, hS.F ht⟩) hS.2.2 aDJ.2.2.2.2.2.2.2.2.2.2.2.2.2.2.2
          · have hp := hp.2 hc
            refine lv_iload_n hx hb aDJ.2.2.2.2.2.2.2.2.2.2.1 rfl (lv_at hl 5 rfl) ?_
            refine lv_aload_n hx hb aDJ.2.2.2.2.2.2.2.2.2.2.2.1 rfl (lv_at hl 4 rfl) ?_
            refine va_alen (v := 16) hx hb hK hP 3 0 rfl rfl rfl aDJ.2.2.2.2.2.2.2.2.2.2.2.2.1 ?_
            refine lv_icmp_lt (tgt := 55) hx hb aDJ.2.2.2.2.2.2.2.2.2.2.2.2.2.1 (by decide) (fun hc => ?_) (fun hc => ?_)
            · have hp := hp.1 hc
              refine lv_aload_n hx hb aJi.1 rfl (lv_at hl 3 rfl) ?_
              refine lv_iload_n hx hb aJi.2.1 rfl (lv_at hl 5 rfl) ?_
              refine lv_iload hx hb aJi.2.2.1 (lv_at hl 1 rfl) ?_
              have hin := hp.1
              have hp := hp.2
              refine va_iast hx hb hK hP hD hS 2 0 rfl rfl hin aJi.2.2.2.1 (fun H locs hP hD hS => ?_)
              have hPD := PDw (ws' := (aXj cI cC cZ cB cJ xI uY tJ jJ qL aFI rX qM (upd uU p3.toNatClampNeg r_1) gF)) hP hD rfl
              have hP := hPD.1
              have hD := hPD.2
              refine lv_aload_n hx hb aJi.2.2.2.2.1 rfl (lv_at hl 4 rfl) ?_
              refine lv_iload_n hx hb aJi.2.2.2.2.2.1 rfl (lv_at hl 5 rfl) ?_
              refine lv_iload hx hb aJi.2.2.2.2.2.2.1 (lv_at hl 0 rfl) ?_
              have hin := hp.1
              have hp := hp.2
              refine va_iast hx hb hK hP hD hS 3 0 rfl rfl hin aJi.2.2.2.2.2.2.2.1 (fun H locs hP hD hS => ?_)
              have hPD := PDw (ws' := (aXj cI cC cZ cB cJ xI uY tJ jJ qL aFI rX qM (upd uU p3.toNatClampNeg r_1) (upd gF p3.toNatClampNeg r_5))) hP hD rfl
              have hP := hPD.1
              have hD := hPD.2
              refine lv_iconst (v := 1) hx hb aJi.2.2.2.2.2.2.2.2.1 aDx ?_
              exact W.zret (v := 1) hx hb hr rfl (fun t ht hW => ⟨⟨1, (aFI, (upd uU p3.toNatClampNeg r_1), (upd gF p3.toNatClampNeg r_5)), rfl, hp, by rw [ht]; exact hP, va_K.moved hW.alike hK, hD⟩, hS.F ht⟩) hS.2.2 aJi.2.2.2.2.2.2.2.2.2
            · have hp := hp.2 hc
              refine lv_iconst (v := 0) hx hb aDJ.2.2.2.2.2.2.2.2.2.2.2.2.2.2.1 aCi ?_
              exact W.zret (v := 0) hx hb hr rfl (fun t ht hW => ⟨⟨0, (aFI, uU, gF), rfl, hp, by rw [ht]; exact hP, va_K.moved hW.alike hK, hD⟩, hS.F ht⟩) hS.2.2 aDJ.2.2.2.2.2.2.2.2.2.2.2.2.2.2.2
    · have hp := hp.2 hc
      refine lv_iconst (v := 0) hx hb aE1.2.2.2.2.2.2.2.2.2.2.2.1 aCi ?_
      exact W.zret (v := 0) hx hb hr rfl (fun t ht hW => ⟨⟨0, (aDB, uU, gF), rfl, hp, by rw [ht]; exact hP, va_K.moved hW.alike hK, hD⟩, hS.F ht⟩) hS.2.2 aE1.2.2.2.2.2.2.2.2.2.2.2.2.1
abbrev aJF (cI cC cZ cB cJ : ClassId) (xI uY vI tJ jJ mY pG pD pE eO : Nat) (qL qJ rX : Int32) (qM : Nat -> Int32) (dN bD bJ aI : Int32) (uU gF pL qF : Nat -> Int32) : va_W := [(xI, .inr (8, [.ref uY, .int qL, .int qJ, .int rX])), (uY, .inl (cC, 80, .inl qM)), (vI, .inr (3, [.ref tJ, .ref jJ, .ref mY, .ref pG, .ref pD, .ref pE, .ref eO, .int dN, .int bD, .int bJ, .int aI])), (tJ, .inl (cI, 16, .inl uU)), (jJ, .inl (cI, 16, .inl gF)), (mY, .inl (cI, 16, .inl pL)), (pG, .inl (cI, 16, .inl qF))]
abbrev q_X3_readFruit (dC : Nat -> ClassId) (dI : Nat -> Nat -> Nat) (cI cC cZ cB cJ : ClassId) (A : Nat -> Prop) (xI uY vI tJ jJ mY pG pD pE eO : Nat) (qL rX : Int32) (qM : Nat -> Int32) (dN bD aI : Int32) (post : Int32 -> Int32 -> Int32 -> (Nat -> Int32) -> (Nat -> Int32) -> (Nat -> Int32) -> (Nat -> Int32) -> Prop) : Array Value -> State -> Outcome -> State -> Prop := va_Qi (fun (r : Int32) (u : Int32 × Int32 × (Nat -> Int32) × (Nat -> Int32) × (Nat -> Int32) × (Nat -> Int32)) => post r u.1 u.2.1 u.2.2.1 u.2.2.2.1 u.2.2.2.2.1 u.2.2.2.2.2) (fun u t => gB (dC, dI) (tyl cI cC cZ cB cJ) A (aJF cI cC cZ cB cJ xI uY vI tJ jJ mY pG pD pE eO qL u.1 rX qM dN bD u.2.1 aI u.2.2.1 u.2.2.2.1 u.2.2.2.2.1 u.2.2.2.2.2) t) A
abbrev rm_X3_readFruit : Room := { frames := 3, cells := 0, slots := 0, locals := 70 }
section S_X3_readFruit
variable {p : Program} {l : Launch} {e : Env} {s : State} {m : MethodId} {args : Array Value} {below : List Frame} {meth : Method} {c : Code} {dC : Nat -> ClassId} {dI : Nat -> Nat -> Nat} {cI cC cZ cB cJ : ClassId} {A : Nat -> Prop} {xI uY vI tJ jJ mY pG pD pE eO : Nat} {qL rX : Int32} {qM : Nat -> Int32} {dN bD aI : Int32} {post : Int32 -> Int32 -> Int32 -> (Nat -> Int32) -> (Nat -> Int32) -> (Nat -> Int32) -> (Nat -> Int32) -> Prop}
def aYi (post : Int32 -> Int32 -> Int32 -> (Nat -> Int32) -> (Nat -> Int32) -> (Nat -> Int32) -> (Nat -> Int32) -> Prop) (rX : Int32) (qM : Nat -> Int32) (x2 k1 k2 qJ bJ : Int32) (uU gF pL qF : Nat -> Int32) : Prop := vp_in k1 16 /\ (vp_in x2 16 /\ (∀ aEr : Int32, aEr = (upd qF k1.toNatClampNeg k2) x2.toNatClampNeg -> (¬ aEr = (-1) -> ∀ aGH : Int32, aGH = bJ + 1 -> post 1 qJ aGH uU gF pL (upd qF k1.toNatClampNeg k2)) /\ (aEr = (-1) -> post 0 qJ bJ uU gF pL (upd qF k1.toNatClampNeg k2))))
set_option maxHeartbeats 4000000 in
set_option maxRecDepth 100000 in
theorem ks_X3_readFruit_82 (C0 : gc aCb (some .boolean) 3 RX3 (dC, dI) (tyl cI cC cZ cB cJ) A p s m args meth c) : ∀ (x2 k1 k2 qJ bJ : Int32) (uU gF pL qF : Nat -> Int32) (H : Heap) (locs : List Loc) (ls : Array Slot), (aYi post rX qM) x2 k1 k2 qJ bJ uU gF pL qF -> va_P (dC, dI) classes (aJF cI cC cZ cB cJ xI uY vI tJ jJ mY pG pD pE eO qL qJ rX qM dN bD bJ aI uU gF pL qF) H -> va_D A (aJF cI cC cZ cB cJ xI uY vI tJ jJ mY pG pD pE eO qL qJ rX qM dN bD bJ aI uU gF pL qF) -> va_S A s.heap H locs -> lv_has ls 3 [(0, .ref vI), (2, .int x2)] -> W p l e rm_X3_readFruit s m args below meth c H locs 0 0 (MQ below (q_X3_readFruit dC dI cI cC cZ cB cJ A xI uY vI tJ jJ mY pG pD pE eO qL rX qM dN bD aI post) args s 0 0 A) (F0 m 82 ls [.int k2, .int k1, .ref pG]) := by
  obtain ⟨hx, hb, hr, hml, hown, hts, hlocks, hA, hK, hN, tL, tM, hZL, hTL, hZM, hTM, hZX⟩ := id C0
  intro x2 k1 k2 qJ bJ uU gF pL qF H locs ls hp hP hD hS hl
  unfold aYi at hp
  have hin := hp.1
  have hp := hp.2
  refine va_iast hx hb hK hP hD hS 6 0 rfl rfl hin aMb.2.2.2.2.2.2.2.2.2.1 (fun H locs hP hD hS => ?_)
  have hPD := PDw (ws' := (aJF cI cC cZ cB cJ xI uY vI tJ jJ mY pG pD pE eO qL qJ rX qM dN bD bJ aI uU gF pL (upd qF k1.toNatClampNeg k2))) hP hD rfl
  have hP := hPD.1
  have hD := hPD.2
  refine lv_aload_n hx hb aMb.2.2.2.2.2.2.2.2.2.2.1 rfl (lv_at hl 0 rfl) ?_
  refine va_get (D := (dC, dI)) (ci := 3) (v := .ref pG) (C := RX3) (T := TX3) (N := 11) hx hb hts i_X3 hown hK hP 2 rfl rfl 3 (lbz rfl) (hts _ q_52) (fun _ h9 => h9) rfl aMb.2.2.2.2.2.2.2.2.2.2.2.1 ?_
  refine lv_iload_n hx hb aMb.2.2.2.2.2.2.2.2.2.2.2.2.1 rfl (lv_at hl 1 rfl) ?_
  have hin := hp.1
  have hp := hp.2
  refine va_iald hx hb hK hP 6 0 rfl rfl hin aMb.2.2.2.2.2.2.2.2.2.2.2.2.2.1 ?_
  refine lv_topi (fun aEr aNB => ?_)
  have hp := hp aEr aNB
  refine lv_iconst (v := (-1)) hx hb aMb.2.2.2.2.2.2.2.2.2.2.2.2.2.2.1 aEJ ?_
  refine lv_icmp_ne (tgt := 95) hx hb aMb.2.2.2.2.2.2.2.2.2.2.2.2.2.2.2 (by decide) (fun hc => ?_) (fun hc => ?_)
  · have hp := hp.1 hc
    refine lv_aload_n hx hb aZW.2.2.1 rfl (lv_at hl 0 rfl) ?_
    refine lv_dup hx hb aZW.2.2.2.1 rfl ?_
    refine va_get (D := (dC, dI)) (ci := 3) (v := .int bJ) (C := RX3) (T := TX3) (N := 11) hx hb hts i_X3 hown hK hP 2 rfl rfl 9 (lbz rfl) (hts _ q_19) (fun _ h9 => h9) rfl aZW.2.2.2.2.1 ?_
    refine lv_iconst (v := 1) hx hb aZW.2.2.2.2.2.1 aDx ?_
    refine lv_iadd hx hb aZW.2.2.2.2.2.2.1 ?_
    refine lv_topi (fun aGH ev_11 => ?_)
    have hp := hp aGH ev_11
    refine va_put (D := (dC, dI)) (ci := 3) (v := .int aGH) (ty := .int) (C := RX3) (T := TX3) (N := 11) hx hb hts i_X3 tyX3 tyX3_ok nmX3 hown hK hP hD hS 2 rfl rfl 9 (lbz rfl) (hts _ q_19) (fun _ h9 => h9) rfl (tyX3_ok 9 (lbz rfl)) rfl rfl (lbz rfl) aZW.2.2.2.2.2.2.2.1 (fun H locs hP hD hS => ?_)
    have hPD := PDw (ws' := (aJF cI cC cZ cB cJ xI uY vI tJ jJ mY pG pD pE eO qL qJ rX qM dN bD aGH aI uU gF pL (upd qF k1.toNatClampNeg k2))) hP hD rfl
    have hP := hPD.1
    have hD := hPD.2
    refine lv_iconst (v := 1) hx hb aZW.2.2.2.2.2.2.2.2.1 aDx ?_
    exact W.zret (v := 1) hx hb hr rfl (fun t ht hW => ⟨⟨1, (qJ, aGH, uU, gF, pL, (upd qF k1.toNatClampNeg k2)), rfl, hp, by rw [ht]; exact hP, va_K.moved hW.alike hK, hD⟩, hS.F ht⟩) hS.2.2 aZW.2.2.2.2.2.2.2.2.2
  · have hp := hp.2 hc
    refine lv_iconst (v := 0) hx hb aZW.1 aCi ?_
    exact W.zret (v := 0) hx hb hr rfl (fun t ht hW => ⟨⟨0, (qJ, bJ, uU, gF, pL, (upd qF k1.toNatClampNeg k2)), rfl, hp, by rw [ht]; exact hP, va_K.moved hW.alike hK, hD⟩, hS.F ht⟩) hS.2.2 aZW.2.1
def ws_X3_readFruit_46 (post : Int32 -> Int32 -> Int32 -> (Nat -> Int32) -> (Nat -> Int32) -> (Nat -> Int32) -> (Nat -> Int32) -> Prop) (rX : Int32) (qM : Nat -> Int32) (x2 k1 k2 qJ bJ : Int32) (uU gF pL qF : Nat -> Int32) : Prop := vp_in k1 16 /\ (vp_in x2 16 /\ (∀ v_7 : Int32, v_7 = (upd pL k1.toNatClampNeg k2) x2.toNatClampNeg -> (¬ v_7 = (-1) -> wp_X8_take (fun r_8 bA4 => (r_8 = 0 -> aYi post rX qM x2 x2 0 bA4 bJ uU gF (upd pL k1.toNatClampNeg k2) qF) /\ (¬ r_8 = 0 -> aMm (fun r_12 tx_place_13 => aYi post rX qM x2 x2 r_12 tx_place_13 bJ uU gF (upd pL k1.toNatClampNeg k2) qF) 1 bA4 rX qM)) 64 qJ rX qM) /\ (v_7 = (-1) -> post 0 qJ bJ uU gF (upd pL k1.toNatClampNeg k2) qF)))
set_option maxHeartbeats 4000000 in
set_option maxRecDepth 100000 in
theorem ks_X3_readFruit_46 (C0 : gc aCb (some .boolean) 3 RX3 (dC, dI) (tyl cI cC cZ cB cJ) A p s m args meth c) : ∀ (x2 k1 k2 qJ bJ : Int32) (uU gF pL qF : Nat -> Int32) (H : Heap) (locs : List Loc) (ls : Array Slot), (ws_X3_readFruit_46 post rX qM) x2 k1 k2 qJ bJ uU gF pL qF -> va_P (dC, dI) classes (aJF cI cC cZ cB cJ xI uY vI tJ jJ mY pG pD pE eO qL qJ rX qM dN bD bJ aI uU gF pL qF) H -> va_D A (aJF cI cC cZ cB cJ xI uY vI tJ jJ mY pG pD pE eO qL qJ rX qM dN bD bJ aI uU gF pL qF) -> va_S A s.heap H locs -> lv_has ls 3 [(0, .ref vI), (1, .ref xI), (2, .int x2)] -> W p l e rm_X3_readFruit s m args below meth c H locs 0 0 (MQ below (q_X3_readFruit dC dI cI cC cZ cB cJ A xI uY vI tJ jJ mY pG pD pE eO qL rX qM dN bD aI post) args s 0 0 A) (F0 m 46 ls [.int k2, .int k1, .ref mY]) := by
  obtain ⟨hx, hb, hr, hml, hown, hts, hlocks, hA, hK, hN, tL, tM, hZL, hTL, hZM, hTM, hZX⟩ := id C0
  intro x2 k1 k2 qJ bJ uU gF pL qF H locs ls hp hP hD hS hl
  unfold ws_X3_readFruit_46 at hp
  have hin := hp.1
  have hp := hp.2
  refine va_iast hx hb hK hP hD hS 5 0 rfl rfl hin aMa.2.2.2.2.1 (fun H locs hP hD hS => ?_)
  have hPD := PDw (ws' := (aJF cI cC cZ cB cJ xI uY vI tJ jJ mY pG pD pE eO qL qJ rX qM dN bD bJ aI uU gF (upd pL k1.toNatClampNeg k2) qF)) hP hD rfl
  have hP := hPD.1
  have hD := hPD.2
  refine lv_aload_n hx hb aMa.2.2.2.2.2.1 rfl (lv_at hl 0 rfl) ?_
  refine va_get (D := (dC, dI)) (ci := 3) (v := .ref mY) (C := RX3) (T := TX3) (N := 11) hx hb hts i_X3 hown hK hP 2 rfl rfl 2 (lbz rfl) (hts _ q_51) (fun _ h9 => h9) rfl aMa.2.2.2.2.2.2.1 ?_
  refine lv_iload_n hx hb aMa.2.2.2.2.2.2.2.1 rfl (lv_at hl 2 rfl) ?_
  have hin := hp.1
  have hp := hp.2
  refine va_iald hx hb hK hP 5 0 rfl rfl hin aMa.2.2.2.2.2.2.2.2.1 ?_
  refine lv_topi (fun v_7 ev_7 => ?_)
  have hp := hp v_7 ev_7
  refine lv_iconst (v := (-1)) hx hb aMa.2.2.2.2.2.2.2.2.2.1 aEJ ?_
  refine lv_icmp_ne (tgt := 59) hx hb aMa.2.2.2.2.2.2.2.2.2.2.1 (by decide) (fun hc => ?_) (fun hc => ?_)
  · have hp := hp.1 hc
    refine lv_aload_n hx hb aMa.2.2.2.2.2.2.2.2.2.2.2.2.2.1 rfl (lv_at hl 0 rfl) ?_
    refine va_get (D := (dC, dI)) (ci := 3) (v := .ref pG) (C := RX3) (T := TX3) (N := 11) hx hb hts i_X3 hown hK hP 2 rfl rfl 3 (lbz rfl) (hts _ q_52) (fun _ h9 => h9) rfl aMa.2.2.2.2.2.2.2.2.2.2.2.2.2.2.1 ?_
    refine lv_iload_n hx hb aMa.2.2.2.2.2.2.2.2.2.2.2.2.2.2.2 rfl (lv_at hl 2 rfl) ?_
    refine lv_aload_n hx hb aMb.1 rfl (lv_at hl 1 rfl) ?_
    refine lv_bipush (v := 64) hx hb aMb.2.1 bp_64 ?_
    have hm := mgk (wc := (wd_X8_take cI cC cZ cB cJ xI uY qL qJ rX qM)) hP mk_2 7 rfl rfl rfl
    refine yW hP hD hS hA (yS mk_2) (aAi mk_2) hm.1 hm.2 (aAk _) (zW _) (zF (As := [.int 64]) (rest := [.int x2, .ref pG]) C0 hP hD hS (yS mk_2) hm.1 (aAl _) 0 8 rfl rfl (c_X8_take l dC dI cI cC cZ cB cJ xI uY H.size 64 qL qJ rX qM _ hp) q_41 q_44 q_42 q_43 q_5 h_X8_take rfl rfl ⟨lbz rfl, lbz rfl⟩ rfl rfl hl.1 rfl (lv_room (lbz rfl)) aMb.2.2.1 ⟨Nat.zero_le _, Nat.zero_le _⟩) (fun r_8 u H locs hp hP hD hS => ?_)
    obtain ⟨bA4, rfl⟩ : ∃ z, z = u := ⟨_, rfl⟩
    have hPD := PDm (ws' := (aJF cI cC cZ cB cJ xI uY vI tJ jJ mY pG pD pE eO qL bA4 rX qM dN bD bJ aI uU gF (upd pL k1.toNatClampNeg k2) qF)) hP hD 7 rfl rfl rfl
    have hP := hPD.1
    have hD := hPD.2
    refine lv_if_eq (tgt := 81) hx hb aMb.2.2.2.1 (by decide) (fun hc => ?_) (fun hc => ?_)
    · have hp := hp.1 hc
      refine lv_iconst (v := 0) hx hb aMb.2.2.2.2.2.2.2.2.1 aCi ?_
      exact ks_X3_readFruit_82 C0 x2 x2 0 bA4 bJ uU gF (upd pL k1.toNatClampNeg k2) qF H locs ls hp hP hD hS (lv_sub hl [0, 2] rfl)
    · have hp := hp.2 hc
      refine lv_aload_n hx hb aMb.2.2.2.2.1 rfl (lv_at hl 1 rfl) ?_
      refine lv_iconst (v := 1) hx hb aMb.2.2.2.2.2.1 aDx ?_
      have hm := mgk (wc := (aG2 cI cC cZ cB cJ xI uY qL bA4 rX qM)) hP mk_2 7 rfl rfl rfl
      refine yW hP hD hS hA (yS mk_2) (aAi mk_2) hm.1 hm.2 (aAk _) (zW _) (zF (As := [.int 1]) (rest := [.int x2, .ref pG]) C0 hP hD hS (yS mk_2) hm.1 (aAl _) 0 8 rfl rfl (c_X8_readNumber l dC dI cI cC cZ cB cJ xI uY H.size 1 qL bA4 rX qM _ hp) q_37 q_40 q_38 q_39 q_5 h_X8_readNumber rfl rfl ⟨lbz rfl, lbz rfl⟩ rfl rfl hl.1 rfl (lv_room (lbz rfl)) aMb.2.2.2.2.2.2.1 ⟨Nat.zero_le _, Nat.zero_le _⟩) (fun r_12 u H locs hp hP hD hS => ?_)
      obtain ⟨tx_place_13, rfl⟩ : ∃ z, z = u := ⟨_, rfl⟩
      have hPD := PDm (ws' := (aJF cI cC cZ cB cJ xI uY vI tJ jJ mY pG pD pE eO qL tx_place_13 rX qM dN bD bJ aI uU gF (upd pL k1.toNatClampNeg k2) qF)) hP hD 7 rfl rfl rfl
      have hP := hPD.1
      have hD := hPD.2
      refine lv_goto (tgt := 82) hx hb aMb.2.2.2.2.2.2.2.1 (by decide) ?_
      exact ks_X3_readFruit_82 C0 x2 x2 r_12 tx_place_13 bJ uU gF (upd pL k1.toNatClampNeg k2) qF H locs ls hp hP hD hS (lv_sub hl [0, 2] rfl)
  · have hp := hp.2 hc
    refine lv_iconst (v := 0) hx hb aMa.2.2.2.2.2.2.2.2.2.2.2.1 aCi ?_
    exact W.zret (v := 0) hx hb hr rfl (fun t ht hW => ⟨⟨0, (qJ, bJ, uU, gF, (upd pL k1.toNatClampNeg k2), qF), rfl, hp, by rw [ht]; exact hP, va_K.moved hW.alike hK, hD⟩, hS.F ht⟩) hS.2.2 aMa.2.2.2.2.2.2.2.2.2.2.2.2.1
end S_X3_readFruit
def wp_X3_readFruit (post : Int32 -> Int32 -> Int32 -> (Nat -> Int32) -> (Nat -> Int32) -> (Nat -> Int32) -> (Nat -> Int32) -> Prop) (qJ rX : Int32) (qM : Nat -> Int32) (bJ : Int32) (uU gF pL qF : Nat -> Int32) : Prop := wp_X3_readPair (fun r_1 aCK tr_x_3 tr_height_4 => (¬ r_1 = 0 -> wp_X8_take (fun r_5 aFI => (r_5 = 0 -> ws_X3_readFruit_46 post rX qM bJ bJ 1 aFI bJ tr_x_3 tr_height_4 pL qF) /\ (¬ r_5 = 0 -> aMm (fun r_14 tx_place_15 => ws_X3_readFruit_46 post rX qM bJ bJ r_14 tx_place_15 bJ tr_x_3 tr_height_4 pL qF) 1 aFI rX qM)) 42 aCK rX qM) /\ (r_1 = 0 -> post 0 aCK bJ tr_x_3 tr_height_4 pL qF)) bJ qJ rX qM uU gF
set_option maxHeartbeats 4000000 in
set_option maxRecDepth 100000 in
theorem c_X3_readFruit (l : Launch) (dC : Nat -> ClassId) (dI : Nat -> Nat -> Nat) (cI cC cZ cB cJ : ClassId) (xI uY vI tJ jJ mY pG pD pE eO sz : Nat) (qL qJ rX : Int32) (qM : Nat -> Int32) (dN bD bJ aI : Int32) (uU gF pL qF : Nat -> Int32) (post : Int32 -> Int32 -> Int32 -> (Nat -> Int32) -> (Nat -> Int32) -> (Nat -> Int32) -> (Nat -> Int32) -> Prop) (hw : wp_X3_readFruit post qJ rX qM bJ uU gF pL qF) : Met l yX3_readFruit (gw yX3_readFruit aCb 3 (some .boolean)) rm_X3_readFruit (va_Pc [.ref vI, .ref xI] (gPre (dC, dI) (tyl cI cC cZ cB cJ) (aJF cI cC cZ cB cJ xI uY vI tJ jJ mY pG pD pE eO qL qJ rX qM dN bD bJ aI uU gF pL qF) sz)) (q_X3_readFruit dC dI cI cC cZ cB cJ (va_A (aJF cI cC cZ cB cJ xI uY vI tJ jJ mY pG pD pE eO qL qJ rX qM dN bD bJ aI uU gF pL qF) sz) xI uY vI tJ jJ mY pG pD pE eO qL rX qM dN bD aI post) 0 0 (va_A (aJF cI cC cZ cB cJ xI uY vI tJ jJ mY pG pD pE eO qL qJ rX qM dN bD bJ aI uU gF pL qF) sz) := by
  refine aBJ (own := RX3) (dC, dI) (tyl cI cC cZ cB cJ) (aJF cI cC cZ cB cJ xI uY vI tJ jJ mY pG pD pE eO qL qJ rX qM dN bD bJ aI uU gF pL qF) sz [.ref vI, .ref xI] (fun A => q_X3_readFruit dC dI cI cC cZ cB cJ A xI uY vI tJ jJ mY pG pD pE eO qL rX qM dN bD aI post) pn_RX3 rfl (lbz rfl) ?_
  intro p e s m args below meth c A H locs ls C0 hP hD hS hl
  have hl : lv_has ls 3 [(0, .ref vI), (1, .ref xI)] := hl
  obtain ⟨hx, hb, hr, hml, hown, hts, hlocks, hA, hK, hN, tL, tM, hZL, hTL, hZM, hTM, hZX⟩ := id C0
  have hp := hw
  unfold wp_X3_readFruit at hp
  refine lv_aload_n hx hb eX3_readFruit_0.1 rfl (lv_at hl 0 rfl) ?_
  refine va_get (D := (dC, dI)) (ci := 3) (v := .int bJ) (C := RX3) (T := TX3) (N := 11) hx hb hts i_X3 hown hK hP 2 rfl rfl 9 (lbz rfl) (hts _ q_19) (fun _ h9 => h9) rfl eX3_readFruit_0.2.1 ?_
  refine lv_istore_n (lv' := [(2, .int bJ), (0, .ref vI), (1, .ref xI)]) hx hb eX3_readFruit_0.2.2.1 rfl hl (by decide) rfl (fun ls hl => ?_)
  refine lv_aload_n hx hb eX3_readFruit_0.2.2.2.1 rfl (lv_at hl 2 rfl) ?_
  refine lv_aload_n hx hb eX3_readFruit_0.2.2.2.2 rfl (lv_at hl 1 rfl) ?_
  refine va_get (D := (dC, dI)) (ci := 3) (v := .ref tJ) (C := RX3) (T := TX3) (N := 11) hx hb hts i_X3 hown hK hP 2 rfl rfl 0 (lbz rfl) (hts _ q_45) (fun _ h9 => h9) rfl aOF.1 ?_
  refine lv_aload_n hx hb aOF.2.1 rfl (lv_at hl 1 rfl) ?_
  refine va_get (D := (dC, dI)) (ci := 3) (v := .ref jJ) (C := RX3) (T := TX3) (N := 11) hx hb hts i_X3 hown hK hP 2 rfl rfl 1 (lbz rfl) (hts _ q_46) (fun _ h9 => h9) rfl aOF.2.2.1 ?_
  refine lv_iload_n hx hb aOF.2.2.2.1 rfl (lv_at hl 0 rfl) ?_
  have hm := mgk (wc := (aXj cI cC cZ cB cJ xI uY tJ jJ qL qJ rX qM uU gF)) hP mk_3 7 rfl rfl rfl
  refine yW hP hD hS hA (yS mk_3) (aAi mk_3) hm.1 hm.2 (aAk _) (zW _) (aDn (As := [.ref xI, .ref tJ, .ref jJ, .int bJ]) (rest := []) C0 hP hD hS (yS mk_3) hm.1 (aAl _) (c_X3_readPair l dC dI cI cC cZ cB cJ xI uY tJ jJ H.size bJ qL qJ rX qM uU gF _ hp) q_47 q_50 q_49 q_48 h_X3_readPair rfl rfl ⟨lbz rfl, lbz rfl⟩ rfl rfl hl.1 rfl (lv_room (lbz rfl)) aOF.2.2.2.2.1 ⟨Nat.zero_le _, Nat.zero_le _⟩) (fun r_1 u H locs hp hP hD hS => ?_)
  obtain ⟨aCK, tr_x_3, tr_height_4⟩ := u
  have hPD := PDm (ws' := (aJF cI cC cZ cB cJ xI uY vI tJ jJ mY pG pD pE eO qL aCK rX qM dN bD bJ aI tr_x_3 tr_height_4 pL qF)) hP hD 7 rfl rfl rfl
  have hP := hPD.1
  have hD := hPD.2
  refine lv_if_ne (tgt := 23) hx hb aOF.2.2.2.2.2.1 (by decide) (fun hc => ?_) (fun hc => ?_)
  · have hp := hp.1 hc
    refine lv_aload_n hx hb aOF.2.2.2.2.2.2.2.2.1 rfl (lv_at hl 1 rfl) ?_
    refine va_get (D := (dC, dI)) (ci := 3) (v := .ref mY) (C := RX3) (T := TX3) (N := 11) hx hb hts i_X3 hown hK hP 2 rfl rfl 2 (lbz rfl) (hts _ q_51) (fun _ h9 => h9) rfl aOF.2.2.2.2.2.2.2.2.2.1 ?_
    refine lv_iload_n hx hb aOF.2.2.2.2.2.2.2.2.2.2.1 rfl (lv_at hl 0 rfl) ?_
    refine lv_aload_n hx hb aOF.2.2.2.2.2.2.2.2.2.2.2.1 rfl (lv_at hl 2 rfl) ?_
    refine lv_bipush (v := 42) hx hb aOF.2.2.2.2.2.2.2.2.2.2.2.2.1 bp_42 ?_
    have hm := mgk (wc := (wd_X8_take cI cC cZ cB cJ xI uY qL aCK rX qM)) hP mk_2 7 rfl rfl rfl
    refine yW hP hD hS hA (yS mk_2) (aAi mk_2) hm.1 hm.2 (aAk _) (zW _) (zF (As := [.int 42]) (rest := [.int bJ, .ref mY]) C0 hP hD hS (yS mk_2) hm.1 (aAl _) 0 8 rfl rfl (c_X8_take l dC dI cI cC cZ cB cJ xI uY H.size 42 qL aCK rX qM _ hp) q_41 q_44 q_42 q_43 q_5 h_X8_take rfl rfl ⟨lbz rfl, lbz rfl⟩ rfl rfl hl.1 rfl (lv_room (lbz rfl)) aOF.2.2.2.2.2.2.2.2.2.2.2.2.2.1 ⟨Nat.zero_le _, Nat.zero_le _⟩) (fun r_5 u H locs hp hP hD hS => ?_)
    obtain ⟨aFI, rfl⟩ : ∃ z, z = u := ⟨_, rfl⟩
    have hPD := PDm (ws' := (aJF cI cC cZ cB cJ xI uY vI tJ jJ mY pG pD pE eO qL aFI rX qM dN bD bJ aI tr_x_3 tr_height_4 pL qF)) hP hD 7 rfl rfl rfl
    have hP := hPD.1
    have hD := hPD.2
    refine lv_if_eq (tgt := 45) hx hb aOF.2.2.2.2.2.2.2.2.2.2.2.2.2.2.1 (by decide) (fun hc => ?_) (fun hc => ?_)
    · have hp := hp.1 hc
      refine lv_iconst (v := 1) hx hb aMa.2.2.2.1 aDx ?_
      exact ks_X3_readFruit_46 C0 bJ bJ 1 aFI bJ tr_x_3 tr_height_4 pL qF H locs ls hp hP hD hS (lv_sub hl [1, 2, 0] rfl)
    · have hp := hp.2 hc
      refine lv_aload_n hx hb aOF.2.2.2.2.2.2.2.2.2.2.2.2.2.2.2 rfl (lv_at hl 2 rfl) ?_
      refine lv_iconst (v := 1) hx hb aMa.1 aDx ?_
      have hm := mgk (wc := (aG2 cI cC cZ cB cJ xI uY qL aFI rX qM)) hP mk_2 7 rfl rfl rfl
      refine yW hP hD hS hA (yS mk_2) (aAi mk_2) hm.1 hm.2 (aAk _) (zW _) (zF (As := [.int 1]) (rest := [.int bJ, .ref mY]) C0 hP hD hS (yS mk_2) hm.1 (aAl _) 0 8 rfl rfl (c_X8_readNumber l dC dI cI cC cZ cB cJ xI uY H.size 1 qL aFI rX qM _ hp) q_37 q_40 q_38 q_39 q_5 h_X8_readNumber rfl rfl ⟨lbz rfl, lbz rfl⟩ rfl rfl hl.1 rfl (lv_room (lbz rfl)) aMa.2.1 ⟨Nat.zero_le _, Nat.zero_le _⟩) (fun r_14 u H locs hp hP hD hS => ?_)
      obtain ⟨tx_place_15, rfl⟩ : ∃ z, z = u := ⟨_, rfl⟩
      have hPD := PDm (ws' := (aJF cI cC cZ cB cJ xI uY vI tJ jJ mY pG pD pE eO qL tx_place_15 rX qM dN bD bJ aI tr_x_3 tr_height_4 pL qF)) hP hD 7 rfl rfl rfl
      have hP := hPD.1
      have hD := hPD.2
      refine lv_goto (tgt := 46) hx hb aMa.2.2.1 (by decide) ?_
      exact ks_X3_readFruit_46 C0 bJ bJ r_14 tx_place_15 bJ tr_x_3 tr_height_4 pL qF H locs ls hp hP hD hS (lv_sub hl [1, 2, 0] rfl)
  · have hp := hp.2 hc
    refine lv_iconst (v := 0) hx hb aOF.2.2.2.2.2.2.1 aCi ?_
    exact W.zret (v := 0) hx hb hr rfl (fun t ht hW => ⟨⟨0, (aCK, bJ, tr_x_3, tr_height_4, pL, qF), rfl, hp, by rw [ht]; exact hP, va_K.moved hW.alike hK, hD⟩, hS.F ht⟩) hS.2.2 aOF.2.2.2.2.2.2.2.1
abbrev aPD (cI cC cZ cB cJ : ClassId) (xI uY pD pE : Nat) (qL qJ rX : Int32) (qM mX oE : Nat -> Int32) : va_W := [(xI, .inr (8, [.ref uY, .int qL, .int qJ, .int rX])), (uY, .inl (cC, 80, .inl qM)), (pD, .inl (cI, 8, .inl mX)), (pE, .inl (cI, 8, .inl oE))]
abbrev q_X3_readPair_b2 (dC : Nat -> ClassId) (dI : Nat -> Nat -> Nat) (cI cC cZ cB cJ : ClassId) (A : Nat -> Prop) (xI uY pD pE : Nat) (qL rX : Int32) (qM : Nat -> Int32) (post : Int32 -> Int32 -> (Nat -> Int32) -> (Nat -> Int32) -> Prop) : Array Value -> State -> Outcome -> State -> Prop := va_Qi (fun (r : Int32) (u : Int32 × (Nat -> Int32) × (Nat -> Int32)) => post r u.1 u.2.1 u.2.2) (fun u t => gB (dC, dI) (tyl cI cC cZ cB cJ) A (aPD cI cC cZ cB cJ xI uY pD pE qL u.1 rX qM u.2.1 u.2.2) t) A
abbrev rm_X3_readPair_b2 : Room := { frames := 2, cells := 0, slots := 0, locals := 45 }
def wp_X3_readPair_b2 (post : Int32 -> Int32 -> (Nat -> Int32) -> (Nat -> Int32) -> Prop) (p3 qJ rX : Int32) (qM mX oE : Nat -> Int32) : Prop := aMm (fun r_1 aCK => (r_1 = (-1) -> post 0 aCK mX oE) /\ (¬ r_1 = (-1) -> wp_X8_take (fun r_3 aDB => (¬ r_3 = 0 -> aMm (fun r_5 aFI => (r_5 = (-1) -> post 0 aFI mX oE) /\ (¬ r_5 = (-1) -> (p3 < 0 -> post 0 aFI mX oE) /\ (¬ p3 < 0 -> (8 <= p3 -> post 0 aFI mX oE) /\ (¬ 8 <= p3 -> (p3 < 8 -> vp_in p3 8 /\ (vp_in p3 8 /\ (post 1 aFI (upd mX p3.toNatClampNeg r_1) (upd oE p3.toNatClampNeg r_5)))) /\ (¬ p3 < 8 -> post 0 aFI mX oE))))) 2 aDB rX qM) /\ (r_3 = 0 -> post 0 aDB mX oE)) 44 aCK rX qM)) 2 qJ rX qM
set_option maxHeartbeats 4000000 in
set_option maxRecDepth 100000 in
theorem c_X3_readPair_b2 (l : Launch) (dC : Nat -> ClassId) (dI : Nat -> Nat -> Nat) (cI cC cZ cB cJ : ClassId) (xI uY pD pE sz : Nat) (p3 qL qJ rX : Int32) (qM mX oE : Nat -> Int32) (post : Int32 -> Int32 -> (Nat -> Int32) -> (Nat -> Int32) -> Prop) (hw : wp_X3_readPair_b2 post p3 qJ rX qM mX oE) : Met l yX3_readPair (gw yX3_readPair aEm 6 (some .boolean)) rm_X3_readPair_b2 (va_Pc [.ref xI, .ref pD, .ref pE, .int p3] (gPre (dC, dI) (tyl cI cC cZ cB cJ) (aPD cI cC cZ cB cJ xI uY pD pE qL qJ rX qM mX oE) sz)) (q_X3_readPair_b2 dC dI cI cC cZ cB cJ (va_A (aPD cI cC cZ cB cJ xI uY pD pE qL qJ rX qM mX oE) sz) xI uY pD pE qL rX qM post) 0 0 (va_A (aPD cI cC cZ cB cJ xI uY pD pE qL qJ rX qM mX oE) sz) := by
  refine aBJ (own := RX3) (dC, dI) (tyl cI cC cZ cB cJ) (aPD cI cC cZ cB cJ xI uY pD pE qL qJ rX qM mX oE) sz [.ref xI, .ref pD, .ref pE, .int p3] (fun A => q_X3_readPair_b2 dC dI cI cC cZ cB cJ A xI uY pD pE qL rX qM post) pn_RX3 rfl (lbz rfl) ?_
  intro p e s m args below meth c A H locs ls C0 hP hD hS hl
  have hl : lv_has ls 6 [(0, .ref xI), (1, .ref pD), (2, .ref pE), (3, .int p3)] := hl
  obtain ⟨hx, hb, hr, hml, hown, hts, hlocks, hA, hK, hN, tL, tM, hZL, hTL, hZM, hTM, hZX⟩ := id C0
  have hp := hw
  unfold wp_X3_readPair_b2 at hp
  refine lv_aload_n hx hb aE1.1 rfl (lv_at hl 0 rfl) ?_
  refine lv_iconst (v := 2) hx hb aE1.2.1 ic_2 ?_
  have hm := mgk (wc := (aG2 cI cC cZ cB cJ xI uY qL qJ rX qM)) hP mk_1 4 rfl rfl rfl
  refine yW hP hD hS hA (yS mk_1) (aAi mk_1) hm.1 hm.2 (aAk _) (zW _) (zF (As := [.int 2]) (rest := []) C0 hP hD hS (yS mk_1) hm.1 (aAl _) 0 8 rfl rfl (c_X8_readNumber l dC dI cI cC cZ cB cJ xI uY H.size 2 qL qJ rX qM _ hp) q_37 q_40 q_38 q_39 q_5 h_X8_readNumber rfl rfl ⟨lbz rfl, lbz rfl⟩ rfl rfl hl.1 rfl (lv_room (lbz rfl)) aE1.2.2.1 ⟨Nat.zero_le _, Nat.zero_le _⟩) (fun r_1 u H locs hp hP hD hS => ?_)
  obtain ⟨aCK, rfl⟩ : ∃ z, z = u := ⟨_, rfl⟩
  have hPD := PDm (ws' := (aPD cI cC cZ cB cJ xI uY pD pE qL aCK rX qM mX oE)) hP hD 4 rfl rfl rfl
  have hP := hPD.1
  have hD := hPD.2
  refine lv_istore (lv' := [(4, .int r_1), (0, .ref xI), (1, .ref pD), (2, .ref pE), (3, .int p3)]) hx hb aE1.2.2.2.1 hl (by decide) rfl (fun ls hl => ?_)
  refine lv_iload hx hb aE1.2.2.2.2.1 (lv_at hl 0 rfl) ?_
  refine lv_iconst (v := (-1)) hx hb aE1.2.2.2.2.2.1 aEJ ?_
  refine lv_icmp_eq (tgt := 22) hx hb aE1.2.2.2.2.2.2.1 (by decide) (fun hc => ?_) (fun hc => ?_)
  · have hp := hp.1 hc
    refine lv_iconst (v := 0) hx hb aE1.2.2.2.2.2.2.2.2.2.2.2.1 aCi ?_
    exact W.zret (v := 0) hx hb hr rfl (fun t ht hW => ⟨⟨0, (aCK, mX, oE), rfl, hp, by rw [ht]; exact hP, va_K.moved hW.alike hK, hD⟩, hS.F ht⟩) hS.2.2 aE1.2.2.2.2.2.2.2.2.2.2.2.2.1
  · have hp := hp.2 hc
    refine lv_aload_n hx hb aE1.2.2.2.2.2.2.2.1 rfl (lv_at hl 1 rfl) ?_
    refine lv_bipush (v := 44) hx hb aE1.2.2.2.2.2.2.2.2.1 bp_44 ?_
    have hm := mgk (wc := (wd_X8_take cI cC cZ cB cJ xI uY qL aCK rX qM)) hP mk_1 4 rfl rfl rfl
    refine yW hP hD hS hA (yS mk_1) (aAi mk_1) hm.1 hm.2 (aAk _) (zW _) (zF (As := [.int 44]) (rest := []) C0 hP hD hS (yS mk_1) hm.1 (aAl _) 0 8 rfl rfl (c_X8_take l dC dI cI cC cZ cB cJ xI uY H.size 44 qL aCK rX qM _ hp) q_41 q_44 q_42 q_43 q_5 h_X8_take rfl rfl ⟨lbz rfl, lbz rfl⟩ rfl rfl hl.1 rfl (lv_room (lbz rfl)) aE1.2.2.2.2.2.2.2.2.2.1 ⟨Nat.zero_le _, Nat.zero_le _⟩) (fun r_3 u H locs hp hP hD hS => ?_)
    obtain ⟨aDB, rfl⟩ : ∃ z, z = u := ⟨_, rfl⟩
    have hPD := PDm (ws' := (aPD cI cC cZ cB cJ xI uY pD pE qL aDB rX qM mX oE)) hP hD 4 rfl rfl rfl
    have hP := hPD.1
    have hD := hPD.2
    refine lv_if_ne (tgt := 24) hx hb aE1.2.2.2.2.2.2.2.2.2.2.1 (by decide) (fun hc => ?_) (fun hc => ?_)
    · have hp := hp.1 hc
      refine lv_aload_n hx hb aE1.2.2.2.2.2.2.2.2.2.2.2.2.2.1 rfl (lv_at hl 1 rfl) ?_
      refine lv_iconst (v := 2) hx hb aE1.2.2.2.2.2.2.2.2.2.2.2.2.2.2.1 ic_2 ?_
      have hm := mgk (wc := (aG2 cI cC cZ cB cJ xI uY qL aDB rX qM)) hP mk_1 4 rfl rfl rfl
      refine yW hP hD hS hA (yS mk_1) (aAi mk_1) hm.1 hm.2 (aAk _) (zW _) (zF (As := [.int 2]) (rest := []) C0 hP hD hS (yS mk_1) hm.1 (aAl _) 0 8 rfl rfl (c_X8_readNumber l dC dI cI cC cZ cB cJ xI uY H.size 2 qL aDB rX qM _ hp) q_37 q_40 q_38 q_39 q_5 h_X8_readNumber rfl rfl ⟨lbz rfl, lbz rfl⟩ rfl rfl hl.1 rfl (lv_room (lbz rfl)) aE1.2.2.2.2.2.2.2.2.2.2.2.2.2.2.2 ⟨Nat.zero_le _, Nat.zero_le _⟩) (fun r_5 u H locs hp hP hD hS => ?_)
      obtain ⟨aFI, rfl⟩ : ∃ z, z = u := ⟨_, rfl⟩
      have hPD := PDm (ws' := (aPD cI cC cZ cB cJ xI uY pD pE qL aFI rX qM mX oE)) hP hD 4 rfl rfl rfl
      have hP := hPD.1
      have hD := hPD.2
      refine lv_istore (lv' := [(5, .int r_5), (4, .int r_1), (0, .ref xI), (1, .ref pD), (2, .ref pE), (3, .int p3)]) hx hb aDJ.1 hl (by decide) rfl (fun ls hl => ?_)
      refine lv_iload hx hb aDJ.2.1 (lv_at hl 0 rfl) ?_
      refine lv_iconst (v := (-1)) hx hb aDJ.2.2.1 aEJ ?_
      refine lv_icmp_eq (tgt := 53) hx hb aDJ.2.2.2.1 (by decide) (fun hc => ?_) (fun hc => ?_)
      · have hp := hp.1 hc
        refine lv_iconst (v := 0) hx hb aDJ.2.2.2.2.2.2.2.2.2.2.2.2.2.2.1 aCi ?_
        exact W.zret (v := 0) hx hb hr rfl (fun t ht hW => ⟨⟨0, (aFI, mX, oE), rfl, hp, by rw [ht]; exact hP, va_K.moved hW.alike hK, hD⟩, hS.F ht⟩) hS.2.2 aDJ.2.2.2.2.2.2.2.2.2.2.2.2.2.2.2
      · have hp := hp.2 hc
        refine lv_iload_n hx hb aDJ.2.2.2.2.1 rfl (lv_at hl 5 rfl) ?_
        refine lv_if_lt (tgt := 53) hx hb aDJ.2.2.2.2.2.1 (by decide) (fun hc => ?_) (fun hc => ?_)
        · have hp := hp.1 hc
          refine lv_iconst (v := 0) hx hb aDJ.2.2.2.2.2.2.2.2.2.2.2.2.2.2.1 aCi ?_
          exact W.zret (v := 0) hx hb hr rfl (fun t ht hW => ⟨⟨0, (aFI, mX, oE), rfl, hp, by rw [ht]; exact hP, va_K.moved hW.alike hK, hD⟩, hS.F ht⟩) hS.2.2 aDJ.2.2.2.2.2.2.2.2.2.2.2.2.2.2.2
        · have hp := hp.2 hc
          refine lv_iload_n hx hb aDJ.2.2.2.2.2.2.1 rfl (lv_at hl 5 rfl) ?_
          refine lv_aload_n hx hb aDJ.2.2.2.2.2.2.2.1 rfl (lv_at hl 3 rfl) ?_
          refine va_alen (v := 8) hx hb hK hP 2 0 rfl rfl rfl aDJ.2.2.2.2.2.2.2.2.1 ?_
          refine lv_icmp_ge (tgt := 53) hx hb aDJ.2.2.2.2.2.2.2.2.2.1 (by decide) (fun hc => ?_) (fun hc => ?_)
          · have hp := hp.1 hc
            refine lv_iconst (v := 0) hx hb aDJ.2.2.2.2.2.2.2.2.2.2.2.2.2.2.1 aCi ?_
            exact W.zret (v := 0) hx hb hr rfl (fun t ht hW => ⟨⟨0, (aFI, mX, oE), rfl, hp, by rw [ht]; exact hP, va_K.moved hW.alike hK, hD⟩, hS.F ht⟩) hS.2.2 aDJ.2.2.2.2.2.2.2.2.2.2.2.2.2.2.2
          · have hp := hp.2 hc
            refine lv_iload_n hx hb aDJ.2.2.2.2.2.2.2.2.2.2.1 rfl (lv_at hl 5 rfl) ?_
            refine lv_aload_n hx hb aDJ.2.2.2.2.2.2.2.2.2.2.2.1 rfl (lv_at hl 4 rfl) ?_
            refine va_alen (v := 8) hx hb hK hP 3 0 rfl rfl rfl aDJ.2.2.2.2.2.2.2.2.2.2.2.2.1 ?_
            refine lv_icmp_lt (tgt := 55) hx hb aDJ.2.2.2.2.2.2.2.2.2.2.2.2.2.1 (by decide) (fun hc => ?_) (fun hc => ?_)
            · have hp := hp.1 hc
              refine lv_aload_n hx hb aJi.1 rfl (lv_at hl 3 rfl) ?_
              refine lv_iload_n hx hb aJi.2.1 rfl (lv_at hl 5 rfl) ?_
              refine lv_iload hx hb aJi.2.2.1 (lv_at hl 1 rfl) ?_
              have hin := hp.1
              have hp := hp.2
              refine va_iast hx hb hK hP hD hS 2 0 rfl rfl hin aJi.2.2.2.1 (fun H locs hP hD hS => ?_)
              have hPD := PDw (ws' := (aPD cI cC cZ cB cJ xI uY pD pE qL aFI rX qM (upd mX p3.toNatClampNeg r_1) oE)) hP hD rfl
              have hP := hPD.1
              have hD := hPD.2
              refine lv_aload_n hx hb aJi.2.2.2.2.1 rfl (lv_at hl 4 rfl) ?_
              refine lv_iload_n hx hb aJi.2.2.2.2.2.1 rfl (lv_at hl 5 rfl) ?_
              refine lv_iload hx hb aJi.2.2.2.2.2.2.1 (lv_at hl 0 rfl) ?_
              have hin := hp.1
              have hp := hp.2
              refine va_iast hx hb hK hP hD hS 3 0 rfl rfl hin aJi.2.2.2.2.2.2.2.1 (fun H locs hP hD hS => ?_)
              have hPD := PDw (ws' := (aPD cI cC cZ cB cJ xI uY pD pE qL aFI rX qM (upd mX p3.toNatClampNeg r_1) (upd oE p3.toNatClampNeg r_5))) hP hD rfl
              have hP := hPD.1
              have hD := hPD.2
              refine lv_iconst (v := 1) hx hb aJi.2.2.2.2.2.2.2.2.1 aDx ?_
              exact W.zret (v := 1) hx hb hr rfl (fun t ht hW => ⟨⟨1, (aFI, (upd mX p3.toNatClampNeg r_1), (upd oE p3.toNatClampNeg r_5)), rfl, hp, by rw [ht]; exact hP, va_K.moved hW.alike hK, hD⟩, hS.F ht⟩) hS.2.2 aJi.2.2.2.2.2.2.2.2.2
            · have hp := hp.2 hc
              refine lv_iconst (v := 0) hx hb aDJ.2.2.2.2.2.2.2.2.2.2.2.2.2.2.1 aCi ?_
              exact W.zret (v := 0) hx hb hr rfl (fun t ht hW => ⟨⟨0, (aFI, mX, oE), rfl, hp, by rw [ht]; exact hP, va_K.moved hW.alike hK, hD⟩, hS.F ht⟩) hS.2.2 aDJ.2.2.2.2.2.2.2.2.2.2.2.2.2.2.2
    · have hp := hp.2 hc
      refine lv_iconst (v := 0) hx hb aE1.2.2.2.2.2.2.2.2.2.2.2.1 aCi ?_
      exact W.zret (v := 0) hx hb hr rfl (fun t ht hW => ⟨⟨0, (aDB, mX, oE), rfl, hp, by rw [ht]; exact hP, va_K.moved hW.alike hK, hD⟩, hS.F ht⟩) hS.2.2 aE1.2.2.2.2.2.2.2.2.2.2.2.2.1
abbrev aYh (cI cC cZ cB cJ : ClassId) (xI uY vI tJ jJ mY pG pD pE eO : Nat) (qL qJ rX : Int32) (qM : Nat -> Int32) (dN bD bJ aI : Int32) (mX oE : Nat -> Int32) : va_W := [(xI, .inr (8, [.ref uY, .int qL, .int qJ, .int rX])), (uY, .inl (cC, 80, .inl qM)), (vI, .inr (3, [.ref tJ, .ref jJ, .ref mY, .ref pG, .ref pD, .ref pE, .ref eO, .int dN, .int bD, .int bJ, .int aI])), (pD, .inl (cI, 8, .inl mX)), (pE, .inl (cI, 8, .inl oE))]
abbrev q_X3_readStanding (dC : Nat -> ClassId) (dI : Nat -> Nat -> Nat) (cI cC cZ cB cJ : ClassId) (A : Nat -> Prop) (xI uY vI tJ jJ mY pG pD pE eO : Nat) (qL rX : Int32) (qM : Nat -> Int32) (dN bD bJ : Int32) (post : Int32 -> Int32 -> Int32 -> (Nat -> Int32) -> (Nat -> Int32) -> Prop) : Array Value -> State -> Outcome -> State -> Prop := va_Qi (fun (r : Int32) (u : Int32 × Int32 × (Nat -> Int32) × (Nat -> Int32)) => post r u.1 u.2.1 u.2.2.1 u.2.2.2) (fun u t => gB (dC, dI) (tyl cI cC cZ cB cJ) A (aYh cI cC cZ cB cJ xI uY vI tJ jJ mY pG pD pE eO qL u.1 rX qM dN bD bJ u.2.1 u.2.2.1 u.2.2.2) t) A
abbrev rm_X3_readStanding : Room := { frames := 3, cells := 0, slots := 0, locals := 70 }
def wp_X3_readStanding (post : Int32 -> Int32 -> Int32 -> (Nat -> Int32) -> (Nat -> Int32) -> Prop) (qJ rX : Int32) (qM : Nat -> Int32) (aI : Int32) (mX oE : Nat -> Int32) : Prop := wp_X3_readPair_b2 (fun r_1 aCK tr_foot_3 tr_fork_4 => (¬ r_1 = 0 -> ∀ v_5 : Int32, v_5 = aI + 1 -> post 1 aCK v_5 tr_foot_3 tr_fork_4) /\ (r_1 = 0 -> post 0 aCK aI tr_foot_3 tr_fork_4)) aI qJ rX qM mX oE
set_option maxHeartbeats 4000000 in
set_option maxRecDepth 100000 in
theorem c_X3_readStanding (l : Launch) (dC : Nat -> ClassId) (dI : Nat -> Nat -> Nat) (cI cC cZ cB cJ : ClassId) (xI uY vI tJ jJ mY pG pD pE eO sz : Nat) (qL qJ rX : Int32) (qM : Nat -> Int32) (dN bD bJ aI : Int32) (mX oE : Nat -> Int32) (post : Int32 -> Int32 -> Int32 -> (Nat -> Int32) -> (Nat -> Int32) -> Prop) (hw : wp_X3_readStanding post qJ rX qM aI mX oE) : Met l aZi (gw aZi aH8 2 (some .boolean)) rm_X3_readStanding (va_Pc [.ref vI, .ref xI] (gPre (dC, dI) (tyl cI cC cZ cB cJ) (aYh cI cC cZ cB cJ xI uY vI tJ jJ mY pG pD pE eO qL qJ rX qM dN bD bJ aI mX oE) sz)) (q_X3_readStanding dC dI cI cC cZ cB cJ (va_A (aYh cI cC cZ cB cJ xI uY vI tJ jJ mY pG pD pE eO qL qJ rX qM dN bD bJ aI mX oE) sz) xI uY vI tJ jJ mY pG pD pE eO qL rX qM dN bD bJ post) 0 0 (va_A (aYh cI cC cZ cB cJ xI uY vI tJ jJ mY pG pD pE eO qL qJ rX qM dN bD bJ aI mX oE) sz) := by
  refine aBJ (own := RX3) (dC, dI) (tyl cI cC cZ cB cJ) (aYh cI cC cZ cB cJ xI uY vI tJ jJ mY pG pD pE eO qL qJ rX qM dN bD bJ aI mX oE) sz [.ref vI, .ref xI] (fun A => q_X3_readStanding dC dI cI cC cZ cB cJ A xI uY vI tJ jJ mY pG pD pE eO qL rX qM dN bD bJ post) pn_RX3 rfl (lbz rfl) ?_
  intro p e s m args below meth c A H locs ls C0 hP hD hS hl
  have hl : lv_has ls 2 [(0, .ref vI), (1, .ref xI)] := hl
  obtain ⟨hx, hb, hr, hml, hown, hts, hlocks, hA, hK, hN, tL, tM, hZL, hTL, hZM, hTM, hZX⟩ := id C0
  have hp := hw
  unfold wp_X3_readStanding at hp
  refine lv_aload_n hx hb aJu.1 rfl (lv_at hl 1 rfl) ?_
  refine lv_aload_n hx hb aJu.2.1 rfl (lv_at hl 0 rfl) ?_
  refine va_get (D := (dC, dI)) (ci := 3) (v := .ref pD) (C := RX3) (T := TX3) (N := 11) hx hb hts i_X3 hown hK hP 2 rfl rfl 4 (lbz rfl) (hts _ q_53) (fun _ h9 => h9) rfl aJu.2.2.1 ?_
  refine lv_aload_n hx hb aJu.2.2.2.1 rfl (lv_at hl 0 rfl) ?_
  refine va_get (D := (dC, dI)) (ci := 3) (v := .ref pE) (C := RX3) (T := TX3) (N := 11) hx hb hts i_X3 hown hK hP 2 rfl rfl 5 (lbz rfl) (hts _ q_54) (fun _ h9 => h9) rfl aJu.2.2.2.2.1 ?_
  refine lv_aload_n hx hb aJu.2.2.2.2.2.1 rfl (lv_at hl 0 rfl) ?_
  refine va_get (D := (dC, dI)) (ci := 3) (v := .int aI) (C := RX3) (T := TX3) (N := 11) hx hb hts i_X3 hown hK hP 2 rfl rfl 10 (lbz rfl) (hts _ q_21) (fun _ h9 => h9) rfl aJu.2.2.2.2.2.2.1 ?_
  have hm := mgk (wc := (aPD cI cC cZ cB cJ xI uY pD pE qL qJ rX qM mX oE)) hP mk_4 5 rfl rfl rfl
  refine yW hP hD hS hA (yS mk_4) (aAi mk_4) hm.1 hm.2 (aAk _) (zW _) (aDn (As := [.ref xI, .ref pD, .ref pE, .int aI]) (rest := []) C0 hP hD hS (yS mk_4) hm.1 (aAl _) (c_X3_readPair_b2 l dC dI cI cC cZ cB cJ xI uY pD pE H.size aI qL qJ rX qM mX oE _ hp) q_47 q_50 q_49 q_48 h_X3_readPair rfl rfl ⟨lbz rfl, lbz rfl⟩ rfl rfl hl.1 rfl (lv_room (lbz rfl)) aJu.2.2.2.2.2.2.2.1 ⟨Nat.zero_le _, Nat.zero_le _⟩) (fun r_1 u H locs hp hP hD hS => ?_)
  obtain ⟨aCK, tr_foot_3, tr_fork_4⟩ := u
  have hPD := PDm (ws' := (aYh cI cC cZ cB cJ xI uY vI tJ jJ mY pG pD pE eO qL aCK rX qM dN bD bJ aI tr_foot_3 tr_fork_4)) hP hD 5 rfl rfl rfl
  have hP := hPD.1
  have hD := hPD.2
  refine lv_if_ne (tgt := 21) hx hb aJu.2.2.2.2.2.2.2.2.1 (by decide) (fun hc => ?_) (fun hc => ?_)
  · have hp := hp.1 hc
    refine lv_aload_n hx hb aJu.2.2.2.2.2.2.2.2.2.2.2.1 rfl (lv_at hl 0 rfl) ?_
    refine lv_dup hx hb aJu.2.2.2.2.2.2.2.2.2.2.2.2.1 rfl ?_
    refine va_get (D := (dC, dI)) (ci := 3) (v := .int aI) (C := RX3) (T := TX3) (N := 11) hx hb hts i_X3 hown hK hP 2 rfl rfl 10 (lbz rfl) (hts _ q_21) (fun _ h9 => h9) rfl aJu.2.2.2.2.2.2.2.2.2.2.2.2.2.1 ?_
    refine lv_iconst (v := 1) hx hb aJu.2.2.2.2.2.2.2.2.2.2.2.2.2.2.1 aDx ?_
    refine lv_iadd hx hb aJu.2.2.2.2.2.2.2.2.2.2.2.2.2.2.2 ?_
    refine lv_topi (fun v_5 aJD => ?_)
    have hp := hp v_5 aJD
    refine va_put (D := (dC, dI)) (ci := 3) (v := .int v_5) (ty := .int) (C := RX3) (T := TX3) (N := 11) hx hb hts i_X3 tyX3 tyX3_ok nmX3 hown hK hP hD hS 2 rfl rfl 10 (lbz rfl) (hts _ q_21) (fun _ h9 => h9) rfl (tyX3_ok 10 (lbz rfl)) rfl rfl (lbz rfl) eX3_readStanding_28.1 (fun H locs hP hD hS => ?_)
    have hPD := PDw (ws' := (aYh cI cC cZ cB cJ xI uY vI tJ jJ mY pG pD pE eO qL aCK rX qM dN bD bJ v_5 tr_foot_3 tr_fork_4)) hP hD rfl
    have hP := hPD.1
    have hD := hPD.2
    refine lv_iconst (v := 1) hx hb eX3_readStanding_28.2.1 aDx ?_
    exact W.zret (v := 1) hx hb hr rfl (fun t ht hW => ⟨⟨1, (aCK, v_5, tr_foot_3, tr_fork_4), rfl, hp, by rw [ht]; exact hP, va_K.moved hW.alike hK, hD⟩, hS.F ht⟩) hS.2.2 eX3_readStanding_28.2.2
  · have hp := hp.2 hc
    refine lv_iconst (v := 0) hx hb aJu.2.2.2.2.2.2.2.2.2.1 aCi ?_
    exact W.zret (v := 0) hx hb hr rfl (fun t ht hW => ⟨⟨0, (aCK, aI, tr_foot_3, tr_fork_4), rfl, hp, by rw [ht]; exact hP, va_K.moved hW.alike hK, hD⟩, hS.F ht⟩) hS.2.2 aJu.2.2.2.2.2.2.2.2.2.2.1
abbrev aU6 (cI cC cZ cB cJ : ClassId) (xI uY vI tJ jJ mY pG pD pE eO : Nat) (qL qJ rX : Int32) (qM : Nat -> Int32) (dN bD bJ aI : Int32) (uU gF pL qF mX oE : Nat -> Int32) : va_W := [(xI, .inr (8, [.ref uY, .int qL, .int qJ, .int rX])), (uY, .inl (cC, 80, .inl qM)), (vI, .inr (3, [.ref tJ, .ref jJ, .ref mY, .ref pG, .ref pD, .ref pE, .ref eO, .int dN, .int bD, .int bJ, .int aI])), (tJ, .inl (cI, 16, .inl uU)), (jJ, .inl (cI, 16, .inl gF)), (mY, .inl (cI, 16, .inl pL)), (pG, .inl (cI, 16, .inl qF)), (pD, .inl (cI, 8, .inl mX)), (pE, .inl (cI, 8, .inl oE))]
abbrev q_X3_readLine (dC : Nat -> ClassId) (dI : Nat -> Nat -> Nat) (cI cC cZ cB cJ : ClassId) (A : Nat -> Prop) (xI uY vI tJ jJ mY pG pD pE eO : Nat) (qL rX : Int32) (qM : Nat -> Int32) (dN bD : Int32) (post : Int32 -> Int32 -> Int32 -> Int32 -> (Nat -> Int32) -> (Nat -> Int32) -> (Nat -> Int32) -> (Nat -> Int32) -> (Nat -> Int32) -> (Nat -> Int32) -> Prop) : Array Value -> State -> Outcome -> State -> Prop := va_Qi (fun (r : Int32) (u : Int32 × Int32 × Int32 × (Nat -> Int32) × (Nat -> Int32) × (Nat -> Int32) × (Nat -> Int32) × (Nat -> Int32) × (Nat -> Int32)) => post r u.1 u.2.1 u.2.2.1 u.2.2.2.1 u.2.2.2.2.1 u.2.2.2.2.2.1 u.2.2.2.2.2.2.1 u.2.2.2.2.2.2.2.1 u.2.2.2.2.2.2.2.2) (fun u t => gB (dC, dI) (tyl cI cC cZ cB cJ) A (aU6 cI cC cZ cB cJ xI uY vI tJ jJ mY pG pD pE eO qL u.1 rX qM dN bD u.2.1 u.2.2.1 u.2.2.2.1 u.2.2.2.2.1 u.2.2.2.2.2.1 u.2.2.2.2.2.2.1 u.2.2.2.2.2.2.2.1 u.2.2.2.2.2.2.2.2) t) A
abbrev rm_X3_readLine : Room := { frames := 4, cells := 0, slots := 0, locals := 92 }
section S_X3_readLine
variable {p : Program} {l : Launch} {e : Env} {s : State} {m : MethodId} {args : Array Value} {below : List Frame} {meth : Method} {c : Code} {dC : Nat -> ClassId} {dI : Nat -> Nat -> Nat} {cI cC cZ cB cJ : ClassId} {A : Nat -> Prop} {xI uY vI tJ jJ mY pG pD pE eO : Nat} {qL rX : Int32} {qM : Nat -> Int32} {dN bD : Int32} {post : Int32 -> Int32 -> Int32 -> Int32 -> (Nat -> Int32) -> (Nat -> Int32) -> (Nat -> Int32) -> (Nat -> Int32) -> (Nat -> Int32) -> (Nat -> Int32) -> Prop}
def ws_X3_readLine_28 (post : Int32 -> Int32 -> Int32 -> Int32 -> (Nat -> Int32) -> (Nat -> Int32) -> (Nat -> Int32) -> (Nat -> Int32) -> (Nat -> Int32) -> (Nat -> Int32) -> Prop) (rX : Int32) (qM : Nat -> Int32) (qJ bJ aI : Int32) (uU gF pL qF mX oE : Nat -> Int32) : Prop := wp_X8_here (fun r_2 => (¬ r_2 = 115 -> post 0 qJ bJ aI uU gF pL qF mX oE) /\ (r_2 = 115 -> (8 <= aI -> post 0 qJ bJ aI uU gF pL qF mX oE) /\ (¬ 8 <= aI -> wp_X8_skip (fun tx_place_3 => wp_X3_readStanding (fun r_4 aR5 aU0 tr_foot_7 tr_fork_8 => narrow .boolean (.int r_4) = .int r_4 /\ post r_4 aR5 bJ aU0 uU gF pL qF tr_foot_7 tr_fork_8) tx_place_3 rX qM aI mX oE) qJ rX))) qJ rX qM
set_option maxHeartbeats 4000000 in
set_option maxRecDepth 100000 in
theorem ks_X3_readLine_28 (C0 : gc aHB (some .boolean) 2 RX3 (dC, dI) (tyl cI cC cZ cB cJ) A p s m args meth c) : ∀ (qJ bJ aI : Int32) (uU gF pL qF mX oE : Nat -> Int32) (H : Heap) (locs : List Loc) (ls : Array Slot), (ws_X3_readLine_28 post rX qM) qJ bJ aI uU gF pL qF mX oE -> va_P (dC, dI) classes (aU6 cI cC cZ cB cJ xI uY vI tJ jJ mY pG pD pE eO qL qJ rX qM dN bD bJ aI uU gF pL qF mX oE) H -> va_D A (aU6 cI cC cZ cB cJ xI uY vI tJ jJ mY pG pD pE eO qL qJ rX qM dN bD bJ aI uU gF pL qF mX oE) -> va_S A s.heap H locs -> lv_has ls 2 [(0, .ref vI), (1, .ref xI)] -> W p l e rm_X3_readLine s m args below meth c H locs 0 0 (MQ below (q_X3_readLine dC dI cI cC cZ cB cJ A xI uY vI tJ jJ mY pG pD pE eO qL rX qM dN bD post) args s 0 0 A) (F0 m 28 ls []) := by
  obtain ⟨hx, hb, hr, hml, hown, hts, hlocks, hA, hK, hN, tL, tM, hZL, hTL, hZM, hTM, hZX⟩ := id C0
  intro qJ bJ aI uU gF pL qF mX oE H locs ls hp hP hD hS hl
  unfold ws_X3_readLine_28 at hp
  refine lv_aload_n hx hb aQk.2.2.2.2.2.2.2.2.2.2.2.2.2.2.1 rfl (lv_at hl 1 rfl) ?_
  have hm := mgk (wc := (wd_X8_here cI cC cZ cB cJ xI uY qL qJ rX qM)) hP mk_5 9 rfl rfl rfl
  refine yW hP hD hS hA (yS mk_5) (aAi mk_5) hm.1 hm.2 (aAk _) (zW _) (zF (As := []) (rest := []) C0 hP hD hS (yS mk_5) hm.1 (aAl _) 0 8 rfl rfl (c_X8_here l dC dI cI cC cZ cB cJ xI uY H.size qL qJ rX qM _ hp) q_33 q_55 q_34 q_35 q_5 h_X8_here rfl rfl ⟨lbz rfl, lbz rfl⟩ rfl rfl hl.1 rfl (lv_room (lbz rfl)) aQk.2.2.2.2.2.2.2.2.2.2.2.2.2.2.2 ⟨Nat.zero_le _, Nat.zero_le _⟩) (fun r_2 u H locs hp hP hD hS => ?_)
  have hPD := PDm (ws' := (aU6 cI cC cZ cB cJ xI uY vI tJ jJ mY pG pD pE eO qL qJ rX qM dN bD bJ aI uU gF pL qF mX oE)) hP hD 9 rfl rfl rfl
  have hP := hPD.1
  have hD := hPD.2
  refine lv_bipush (v := 115) hx hb aOG.1 bp_115 ?_
  refine lv_icmp_ne (tgt := 56) hx hb aOG.2.1 (by decide) (fun hc => ?_) (fun hc => ?_)
  · have hp := hp.1 hc
    refine lv_iconst (v := 0) hx hb aOG.2.2.2.2.2.2.2.2.2.2.2.2.1 aCi ?_
    exact W.zret (v := 0) hx hb hr rfl (fun t ht hW => ⟨⟨0, (qJ, bJ, aI, uU, gF, pL, qF, mX, oE), rfl, hp, by rw [ht]; exact hP, va_K.moved hW.alike hK, hD⟩, hS.F ht⟩) hS.2.2 aOG.2.2.2.2.2.2.2.2.2.2.2.2.2
  · have hp := hp.2 hc
    refine lv_aload_n hx hb aOG.2.2.1 rfl (lv_at hl 0 rfl) ?_
    refine va_get (D := (dC, dI)) (ci := 3) (v := .int aI) (C := RX3) (T := TX3) (N := 11) hx hb hts i_X3 hown hK hP 2 rfl rfl 10 (lbz rfl) (hts _ q_21) (fun _ h9 => h9) rfl aOG.2.2.2.1 ?_
    refine lv_bipush (v := 8) hx hb aOG.2.2.2.2.1 bp_8 ?_
    refine lv_icmp_ge (tgt := 56) hx hb aOG.2.2.2.2.2.1 (by decide) (fun hc => ?_) (fun hc => ?_)
    · have hp := hp.1 hc
      refine lv_iconst (v := 0) hx hb aOG.2.2.2.2.2.2.2.2.2.2.2.2.1 aCi ?_
      exact W.zret (v := 0) hx hb hr rfl (fun t ht hW => ⟨⟨0, (qJ, bJ, aI, uU, gF, pL, qF, mX, oE), rfl, hp, by rw [ht]; exact hP, va_K.moved hW.alike hK, hD⟩, hS.F ht⟩) hS.2.2 aOG.2.2.2.2.2.2.2.2.2.2.2.2.2
    · have hp := hp.2 hc
      refine lv_aload_n hx hb aOG.2.2.2.2.2.2.1 rfl (lv_at hl 1 rfl) ?_
      have hm := mgk (wc := (wd_X8_skip cI cC cZ cB cJ xI uY qL qJ rX)) hP mk_6 9 rfl rfl rfl
      refine aBn hP hD hS hA (yS mk_6) (aAi mk_6) hm.1 hm.2 (aAk _) (zW _) (zF (As := []) (rest := []) C0 hP hD hS (yS mk_6) hm.1 (aAl _) 0 8 rfl rfl (c_X8_skip l dC dI cI cC cZ cB cJ xI uY H.size qL qJ rX _ hp) q_29 q_56 q_30 q_31 q_5 h_X8_skip rfl rfl ⟨lbz rfl, lbz rfl⟩ rfl rfl hl.1 rfl (lv_room (lbz rfl)) aOG.2.2.2.2.2.2.2.1 ⟨Nat.zero_le _, Nat.zero_le _⟩) (fun u H locs hp hP hD hS => ?_)
      obtain ⟨tx_place_3, rfl⟩ : ∃ z, z = u := ⟨_, rfl⟩
      have hPD := PDm (ws' := (aU6 cI cC cZ cB cJ xI uY vI tJ jJ mY pG pD pE eO qL tx_place_3 rX qM dN bD bJ aI uU gF pL qF mX oE)) hP hD 9 rfl rfl rfl
      have hP := hPD.1
      have hD := hPD.2
      refine lv_aload_n hx hb aOG.2.2.2.2.2.2.2.2.1 rfl (lv_at hl 0 rfl) ?_
      refine lv_aload_n hx hb aOG.2.2.2.2.2.2.2.2.2.1 rfl (lv_at hl 1 rfl) ?_
      have hm := mgk (wc := (aYh cI cC cZ cB cJ xI uY vI tJ jJ mY pG pD pE eO qL tx_place_3 rX qM dN bD bJ aI mX oE)) hP mk_7 9 rfl rfl rfl
      refine yW hP hD hS hA (yS mk_7) (aAi mk_7) hm.1 hm.2 (aAk _) (zW _) (zF (As := [.ref xI]) (rest := []) C0 hP hD hS (yS mk_7) hm.1 (aAl _) 2 3 rfl rfl (c_X3_readStanding l dC dI cI cC cZ cB cJ xI uY vI tJ jJ mY pG pD pE eO H.size qL tx_place_3 rX qM dN bD bJ aI mX oE _ hp) q_57 q_60 q_58 q_59 q_48 h_X3_readStanding rfl rfl ⟨lbz rfl, lbz rfl⟩ rfl rfl hl.1 rfl (lv_room (lbz rfl)) aOG.2.2.2.2.2.2.2.2.2.2.1 ⟨Nat.zero_le _, Nat.zero_le _⟩) (fun r_4 u H locs hp hP hD hS => ?_)
      obtain ⟨aR5, aU0, tr_foot_7, tr_fork_8⟩ := u
      have hPD := PDm (ws' := (aU6 cI cC cZ cB cJ xI uY vI tJ jJ mY pG pD pE eO qL aR5 rX qM dN bD bJ aU0 uU gF pL qF tr_foot_7 tr_fork_8)) hP hD 9 rfl rfl rfl
      have hP := hPD.1
      have hD := hPD.2
      have hnz := hp.1
      have hp := hp.2
      exact W.zret (v := r_4) hx hb hr hnz (fun t ht hW => ⟨⟨r_4, (aR5, bJ, aU0, uU, gF, pL, qF, tr_foot_7, tr_fork_8), rfl, hp, by rw [ht]; exact hP, va_K.moved hW.alike hK, hD⟩, hS.F ht⟩) hS.2.2 aOG.2.2.2.2.2.2.2.2.2.2.2.1
end S_X3_readLine
def wp_X3_readLine (post : Int32 -> Int32 -> Int32 -> Int32 -> (Nat -> Int32) -> (Nat -> Int32) -> (Nat -> Int32) -> (Nat -> Int32) -> (Nat -> Int32) -> (Nat -> Int32) -> Prop) (qJ rX : Int32) (qM : Nat -> Int32) (bJ aI : Int32) (uU gF pL qF mX oE : Nat -> Int32) : Prop := wp_X8_here (fun r_1 => (¬ r_1 = 102 -> ws_X3_readLine_28 post rX qM qJ bJ aI uU gF pL qF mX oE) /\ (r_1 = 102 -> (16 <= bJ -> ws_X3_readLine_28 post rX qM qJ bJ aI uU gF pL qF mX oE) /\ (¬ 16 <= bJ -> wp_X8_skip (fun bA4 => wp_X3_readFruit (fun r_10 tx_place_11 tr_comingFruits_12 tr_x_13 tr_height_14 tr_worth_15 tr_ripe_16 => narrow .boolean (.int r_10) = .int r_10 /\ post r_10 tx_place_11 tr_comingFruits_12 aI tr_x_13 tr_height_14 tr_worth_15 tr_ripe_16 mX oE) bA4 rX qM bJ uU gF pL qF) qJ rX))) qJ rX qM
set_option maxHeartbeats 4000000 in
set_option maxRecDepth 100000 in
theorem c_X3_readLine (l : Launch) (dC : Nat -> ClassId) (dI : Nat -> Nat -> Nat) (cI cC cZ cB cJ : ClassId) (xI uY vI tJ jJ mY pG pD pE eO sz : Nat) (qL qJ rX : Int32) (qM : Nat -> Int32) (dN bD bJ aI : Int32) (uU gF pL qF mX oE : Nat -> Int32) (post : Int32 -> Int32 -> Int32 -> Int32 -> (Nat -> Int32) -> (Nat -> Int32) -> (Nat -> Int32) -> (Nat -> Int32) -> (Nat -> Int32) -> (Nat -> Int32) -> Prop) (hw : wp_X3_readLine post qJ rX qM bJ aI uU gF pL qF mX oE) : Met l yX3_readLine (gw yX3_readLine aHB 2 (some .boolean)) rm_X3_readLine (va_Pc [.ref vI, .ref xI] (gPre (dC, dI) (tyl cI cC cZ cB cJ) (aU6 cI cC cZ cB cJ xI uY vI tJ jJ mY pG pD pE eO qL qJ rX qM dN bD bJ aI uU gF pL qF mX oE) sz)) (q_X3_readLine dC dI cI cC cZ cB cJ (va_A (aU6 cI cC cZ cB cJ xI uY vI tJ jJ mY pG pD pE eO qL qJ rX qM dN bD bJ aI uU gF pL qF mX oE) sz) xI uY vI tJ jJ mY pG pD pE eO qL rX qM dN bD post) 0 0 (va_A (aU6 cI cC cZ cB cJ xI uY vI tJ jJ mY pG pD pE eO qL qJ rX qM dN bD bJ aI uU gF pL qF mX oE) sz) := by
  refine aBJ (own := RX3) (dC, dI) (tyl cI cC cZ cB cJ) (aU6 cI cC cZ cB cJ xI uY vI tJ jJ mY pG pD pE eO qL qJ rX qM dN bD bJ aI uU gF pL qF mX oE) sz [.ref vI, .ref xI] (fun A => q_X3_readLine dC dI cI cC cZ cB cJ A xI uY vI tJ jJ mY pG pD pE eO qL rX qM dN bD post) pn_RX3 rfl (lbz rfl) ?_
  intro p e s m args below meth c A H locs ls C0 hP hD hS hl
  have hl : lv_has ls 2 [(0, .ref vI), (1, .ref xI)] := hl
  obtain ⟨hx, hb, hr, hml, hown, hts, hlocks, hA, hK, hN, tL, tM, hZL, hTL, hZM, hTM, hZX⟩ := id C0
  have hp := hw
  unfold wp_X3_readLine at hp
  refine lv_aload_n hx hb aQk.1 rfl (lv_at hl 1 rfl) ?_
  have hm := mgk (wc := (wd_X8_here cI cC cZ cB cJ xI uY qL qJ rX qM)) hP mk_5 9 rfl rfl rfl
  refine yW hP hD hS hA (yS mk_5) (aAi mk_5) hm.1 hm.2 (aAk _) (zW _) (zF (As := []) (rest := []) C0 hP hD hS (yS mk_5) hm.1 (aAl _) 0 8 rfl rfl (c_X8_here l dC dI cI cC cZ cB cJ xI uY H.size qL qJ rX qM _ hp) q_33 q_55 q_34 q_35 q_5 h_X8_here rfl rfl ⟨lbz rfl, lbz rfl⟩ rfl rfl hl.1 rfl (lv_room (lbz rfl)) aQk.2.1 ⟨Nat.zero_le _, Nat.zero_le _⟩) (fun r_1 u H locs hp hP hD hS => ?_)
  have hPD := PDm (ws' := (aU6 cI cC cZ cB cJ xI uY vI tJ jJ mY pG pD pE eO qL qJ rX qM dN bD bJ aI uU gF pL qF mX oE)) hP hD 9 rfl rfl rfl
  have hP := hPD.1
  have hD := hPD.2
  refine lv_bipush (v := 102) hx hb aQk.2.2.1 bp_102 ?_
  refine lv_icmp_ne (tgt := 28) hx hb aQk.2.2.2.1 (by decide) (fun hc => ?_) (fun hc => ?_)
  · have hp := hp.1 hc
    exact ks_X3_readLine_28 C0 qJ bJ aI uU gF pL qF mX oE H locs ls hp hP hD hS (lv_sub hl [0, 1] rfl)
  · have hp := hp.2 hc
    refine lv_aload_n hx hb aQk.2.2.2.2.1 rfl (lv_at hl 0 rfl) ?_
    refine va_get (D := (dC, dI)) (ci := 3) (v := .int bJ) (C := RX3) (T := TX3) (N := 11) hx hb hts i_X3 hown hK hP 2 rfl rfl 9 (lbz rfl) (hts _ q_19) (fun _ h9 => h9) rfl aQk.2.2.2.2.2.1 ?_
    refine lv_bipush (v := 16) hx hb aQk.2.2.2.2.2.2.1 bp_16 ?_
    refine lv_icmp_ge (tgt := 28) hx hb aQk.2.2.2.2.2.2.2.1 (by decide) (fun hc => ?_) (fun hc => ?_)
    · have hp := hp.1 hc
      exact ks_X3_readLine_28 C0 qJ bJ aI uU gF pL qF mX oE H locs ls hp hP hD hS (lv_sub hl [0, 1] rfl)
    · have hp := hp.2 hc
      refine lv_aload_n hx hb aQk.2.2.2.2.2.2.2.2.1 rfl (lv_at hl 1 rfl) ?_
      have hm := mgk (wc := (wd_X8_skip cI cC cZ cB cJ xI uY qL qJ rX)) hP mk_6 9 rfl rfl rfl
      refine aBn hP hD hS hA (yS mk_6) (aAi mk_6) hm.1 hm.2 (aAk _) (zW _) (zF (As := []) (rest := []) C0 hP hD hS (yS mk_6) hm.1 (aAl _) 0 8 rfl rfl (c_X8_skip l dC dI cI cC cZ cB cJ xI uY H.size qL qJ rX _ hp) q_29 q_56 q_30 q_31 q_5 h_X8_skip rfl rfl ⟨lbz rfl, lbz rfl⟩ rfl rfl hl.1 rfl (lv_room (lbz rfl)) aQk.2.2.2.2.2.2.2.2.2.1 ⟨Nat.zero_le _, Nat.zero_le _⟩) (fun u H locs hp hP hD hS => ?_)
      obtain ⟨bA4, rfl⟩ : ∃ z, z = u := ⟨_, rfl⟩
      have hPD := PDm (ws' := (aU6 cI cC cZ cB cJ xI uY vI tJ jJ mY pG pD pE eO qL bA4 rX qM dN bD bJ aI uU gF pL qF mX oE)) hP hD 9 rfl rfl rfl
      have hP := hPD.1
      have hD := hPD.2
      refine lv_aload_n hx hb aQk.2.2.2.2.2.2.2.2.2.2.1 rfl (lv_at hl 0 rfl) ?_
      refine lv_aload_n hx hb aQk.2.2.2.2.2.2.2.2.2.2.2.1 rfl (lv_at hl 1 rfl) ?_
      have hm := mgk (wc := (aJF cI cC cZ cB cJ xI uY vI tJ jJ mY pG pD pE eO qL bA4 rX qM dN bD bJ aI uU gF pL qF)) hP mk_8 9 rfl rfl rfl
      refine yW hP hD hS hA (yS mk_8) (aAi mk_8) hm.1 hm.2 (aAk _) (zW _) (zF (As := [.ref xI]) (rest := []) C0 hP hD hS (yS mk_8) hm.1 (aAl _) 2 3 rfl rfl (c_X3_readFruit l dC dI cI cC cZ cB cJ xI uY vI tJ jJ mY pG pD pE eO H.size qL bA4 rX qM dN bD bJ aI uU gF pL qF _ hp) q_61 q_64 q_62 q_63 q_48 h_X3_readFruit rfl rfl ⟨lbz rfl, lbz rfl⟩ rfl rfl hl.1 rfl (lv_room (lbz rfl)) aQk.2.2.2.2.2.2.2.2.2.2.2.2.1 ⟨Nat.zero_le _, Nat.zero_le _⟩) (fun r_10 u H locs hp hP hD hS => ?_)
      obtain ⟨tx_place_11, tr_comingFruits_12, tr_x_13, tr_height_14, tr_worth_15, tr_ripe_16⟩ := u
      have hPD := PDm (ws' := (aU6 cI cC cZ cB cJ xI uY vI tJ jJ mY pG pD pE eO qL tx_place_11 rX qM dN bD tr_comingFruits_12 aI tr_x_13 tr_height_14 tr_worth_15 tr_ripe_16 mX oE)) hP hD 9 rfl rfl rfl
      have hP := hPD.1
      have hD := hPD.2
      have hnz := hp.1
      have hp := hp.2
      exact W.zret (v := r_10) hx hb hr hnz (fun t ht hW => ⟨⟨r_10, (tx_place_11, tr_comingFruits_12, aI, tr_x_13, tr_height_14, tr_worth_15, tr_ripe_16, mX, oE), rfl, hp, by rw [ht]; exact hP, va_K.moved hW.alike hK, hD⟩, hS.F ht⟩) hS.2.2 aQk.2.2.2.2.2.2.2.2.2.2.2.2.2.1
abbrev aLc (cI cC cZ cB cJ : ClassId) (xI uY vI tJ jJ mY pG pD pE eO : Nat) (qL qJ rX : Int32) (qM : Nat -> Int32) (dN bD bJ aI : Int32) (uU gF pL qF mX oE : Nat -> Int32) : va_W := [(xI, .inr (8, [.ref uY, .int qL, .int qJ, .int rX])), (uY, .inl (cC, 80, .inl qM)), (vI, .inr (3, [.ref tJ, .ref jJ, .ref mY, .ref pG, .ref pD, .ref pE, .ref eO, .int dN, .int bD, .int bJ, .int aI])), (tJ, .inl (cI, 16, .inl uU)), (jJ, .inl (cI, 16, .inl gF)), (mY, .inl (cI, 16, .inl pL)), (pG, .inl (cI, 16, .inl qF)), (pD, .inl (cI, 8, .inl mX)), (pE, .inl (cI, 8, .inl oE))]
abbrev q_X3_readLines (dC : Nat -> ClassId) (dI : Nat -> Nat -> Nat) (cI cC cZ cB cJ : ClassId) (A : Nat -> Prop) (xI uY vI tJ jJ mY pG pD pE eO : Nat) (qL rX : Int32) (qM : Nat -> Int32) (dN bD : Int32) (post : Int32 -> Int32 -> Int32 -> Int32 -> (Nat -> Int32) -> (Nat -> Int32) -> (Nat -> Int32) -> (Nat -> Int32) -> (Nat -> Int32) -> (Nat -> Int32) -> Prop) : Array Value -> State -> Outcome -> State -> Prop := va_Qi (fun (r : Int32) (u : Int32 × Int32 × Int32 × (Nat -> Int32) × (Nat -> Int32) × (Nat -> Int32) × (Nat -> Int32) × (Nat -> Int32) × (Nat -> Int32)) => post r u.1 u.2.1 u.2.2.1 u.2.2.2.1 u.2.2.2.2.1 u.2.2.2.2.2.1 u.2.2.2.2.2.2.1 u.2.2.2.2.2.2.2.1 u.2.2.2.2.2.2.2.2) (fun u t => gB (dC, dI) (tyl cI cC cZ cB cJ) A (aLc cI cC cZ cB cJ xI uY vI tJ jJ mY pG pD pE eO qL u.1 rX qM dN bD u.2.1 u.2.2.1 u.2.2.2.1 u.2.2.2.2.1 u.2.2.2.2.2.1 u.2.2.2.2.2.2.1 u.2.2.2.2.2.2.2.1 u.2.2.2.2.2.2.2.2) t) A
abbrev rm_X3_readLines : Room := { frames := 5, cells := 0, slots := 0, locals := 113 }
section S_X3_readLines
variable {p : Program} {l : Launch} {e : Env} {s : State} {m : MethodId} {args : Array Value} {below : List Frame} {meth : Method} {c : Code} {dC : Nat -> ClassId} {dI : Nat -> Nat -> Nat} {cI cC cZ cB cJ : ClassId} {A : Nat -> Prop} {xI uY vI tJ jJ mY pG pD pE eO : Nat} {qL rX : Int32} {qM : Nat -> Int32} {dN bD : Int32} {post : Int32 -> Int32 -> Int32 -> Int32 -> (Nat -> Int32) -> (Nat -> Int32) -> (Nat -> Int32) -> (Nat -> Int32) -> (Nat -> Int32) -> (Nat -> Int32) -> Prop}
def ws_X3_readLines_18 (post next : Int32 -> Int32 -> Int32 -> Int32 -> (Nat -> Int32) -> (Nat -> Int32) -> (Nat -> Int32) -> (Nat -> Int32) -> (Nat -> Int32) -> (Nat -> Int32) -> Prop) (rX : Int32) (qM : Nat -> Int32) (dN bD x2 qJ bJ aI : Int32) (uU gF pL qF mX oE : Nat -> Int32) : Prop := (76 < x2 -> post (-1) qJ bJ aI uU gF pL qF mX oE) /\ (¬ 76 < x2 -> wp_X3_readLine (fun r_1 aCK aUz aOr tr_x_5 tr_height_6 tr_worth_7 tr_ripe_8 tr_foot_9 tr_fork_10 => (¬ r_1 = 0 -> wp_X8_take (fun r_11 tx_place_12 => (¬ r_11 = 0 -> ∀ aIQ : Int32, aIQ = x2 + 1 -> next aIQ tx_place_12 aUz aOr tr_x_5 tr_height_6 tr_worth_7 tr_ripe_8 tr_foot_9 tr_fork_10) /\ (r_11 = 0 -> post x2 tx_place_12 aUz aOr tr_x_5 tr_height_6 tr_worth_7 tr_ripe_8 tr_foot_9 tr_fork_10)) 59 aCK rX qM) /\ (r_1 = 0 -> post (-1) aCK aUz aOr tr_x_5 tr_height_6 tr_worth_7 tr_ripe_8 tr_foot_9 tr_fork_10)) qJ rX qM bJ aI uU gF pL qF mX oE)
noncomputable def wb_X3_readLines_18 (post : Int32 -> Int32 -> Int32 -> Int32 -> (Nat -> Int32) -> (Nat -> Int32) -> (Nat -> Int32) -> (Nat -> Int32) -> (Nat -> Int32) -> (Nat -> Int32) -> Prop) (rX : Int32) (qM : Nat -> Int32) (dN bD : Int32) : Nat -> Int32 -> Int32 -> Int32 -> Int32 -> (Nat -> Int32) -> (Nat -> Int32) -> (Nat -> Int32) -> (Nat -> Int32) -> (Nat -> Int32) -> (Nat -> Int32) -> Prop := fun n => Nat.rec (motive := fun _ => Int32 -> Int32 -> Int32 -> Int32 -> (Nat -> Int32) -> (Nat -> Int32) -> (Nat -> Int32) -> (Nat -> Int32) -> (Nat -> Int32) -> (Nat -> Int32) -> Prop) (fun _ _ _ _ _ _ _ _ _ _ => False) (fun _ ih => ws_X3_readLines_18 post ih rX qM dN bD) n
set_option maxHeartbeats 4000000 in
set_option maxRecDepth 100000 in
theorem ks_X3_readLines_18 (C0 : gc aGJ (some .int) 3 RX3 (dC, dI) (tyl cI cC cZ cB cJ) A p s m args meth c) {next : Int32 -> Int32 -> Int32 -> Int32 -> (Nat -> Int32) -> (Nat -> Int32) -> (Nat -> Int32) -> (Nat -> Int32) -> (Nat -> Int32) -> (Nat -> Int32) -> Prop} (hKn : ∀ (x2 : Int32) (qJ : Int32) (bJ : Int32) (aI : Int32) (uU : Nat -> Int32) (gF : Nat -> Int32) (pL : Nat -> Int32) (qF : Nat -> Int32) (mX : Nat -> Int32) (oE : Nat -> Int32) (H : Heap) (locs : List Loc) (ls : Array Slot), next x2 qJ bJ aI uU gF pL qF mX oE -> va_P (dC, dI) classes (aLc cI cC cZ cB cJ xI uY vI tJ jJ mY pG pD pE eO qL qJ rX qM dN bD bJ aI uU gF pL qF mX oE) H -> va_D A (aLc cI cC cZ cB cJ xI uY vI tJ jJ mY pG pD pE eO qL qJ rX qM dN bD bJ aI uU gF pL qF mX oE) -> va_S A s.heap H locs -> lv_has ls 3 [(0, .ref vI), (1, .ref xI), (2, .int x2)] -> W p l e rm_X3_readLines s m args below meth c H locs 0 0 (MQ below (q_X3_readLines dC dI cI cC cZ cB cJ A xI uY vI tJ jJ mY pG pD pE eO qL rX qM dN bD post) args s 0 0 A) (F0 m 18 ls [])) : ∀ (x2 qJ bJ aI : Int32) (uU gF pL qF mX oE : Nat -> Int32) (H : Heap) (locs : List Loc) (ls : Array Slot), (ws_X3_readLines_18 post next rX qM dN bD) x2 qJ bJ aI uU gF pL qF mX oE -> va_P (dC, dI) classes (aLc cI cC cZ cB cJ xI uY vI tJ jJ mY pG pD pE eO qL qJ rX qM dN bD bJ aI uU gF pL qF mX oE) H -> va_D A (aLc cI cC cZ cB cJ xI uY vI tJ jJ mY pG pD pE eO qL qJ rX qM dN bD bJ aI uU gF pL qF mX oE) -> va_S A s.heap H locs -> lv_has ls 3 [(0, .ref vI), (1, .ref xI), (2, .int x2)] -> W p l e rm_X3_readLines s m args below meth c H locs 0 0 (MQ below (q_X3_readLines dC dI cI cC cZ cB cJ A xI uY vI tJ jJ mY pG pD pE eO qL rX qM dN bD post) args s 0 0 A) (F0 m 18 ls []) := by
  obtain ⟨hx, hb, hr, hml, hown, hts, hlocks, hA, hK, hN, tL, tM, hZL, hTL, hZM, hTM, hZX⟩ := id C0
  intro x2 qJ bJ aI uU gF pL qF mX oE H locs ls hp hP hD hS hl
  unfold ws_X3_readLines_18 at hp
  refine lv_iload_n hx hb aOH.2.2.2.2.2.2.2.2.2.2.1 rfl (lv_at hl 2 rfl) ?_
  refine lv_bipush (v := 76) hx hb aOH.2.2.2.2.2.2.2.2.2.2.2.1 bp_76 ?_
  refine lv_icmp_gt (tgt := 51) hx hb aOH.2.2.2.2.2.2.2.2.2.2.2.2.1 (by decide) (fun hc => ?_) (fun hc => ?_)
  · have hp := hp.1 hc
    refine lv_iconst (v := (-1)) hx hb aRa.2.2.2.2.2.2.2.2.2.2.2.1 aEJ ?_
    exact W.iret (v := (-1)) hx hb hr (fun t ht hW => ⟨⟨(-1), (qJ, bJ, aI, uU, gF, pL, qF, mX, oE), rfl, hp, by rw [ht]; exact hP, va_K.moved hW.alike hK, hD⟩, hS.F ht⟩) hS.2.2 aRa.2.2.2.2.2.2.2.2.2.2.2.2
  · have hp := hp.2 hc
    refine lv_aload_n hx hb aOH.2.2.2.2.2.2.2.2.2.2.2.2.2.1 rfl (lv_at hl 0 rfl) ?_
    refine lv_aload_n hx hb aOH.2.2.2.2.2.2.2.2.2.2.2.2.2.2.1 rfl (lv_at hl 1 rfl) ?_
    have hm := mgk (wc := (aU6 cI cC cZ cB cJ xI uY vI tJ jJ mY pG pD pE eO qL qJ rX qM dN bD bJ aI uU gF pL qF mX oE)) hP mk_9 9 rfl rfl rfl
    refine yW hP hD hS hA (yS mk_9) (aAi mk_9) hm.1 hm.2 (aAk _) (zW _) (zF (As := [.ref xI]) (rest := []) C0 hP hD hS (yS mk_9) hm.1 (aAl _) 2 3 rfl rfl (c_X3_readLine l dC dI cI cC cZ cB cJ xI uY vI tJ jJ mY pG pD pE eO H.size qL qJ rX qM dN bD bJ aI uU gF pL qF mX oE _ hp) q_65 q_68 q_66 q_67 q_48 h_X3_readLine rfl rfl ⟨lbz rfl, lbz rfl⟩ rfl rfl hl.1 rfl (lv_room (lbz rfl)) aOH.2.2.2.2.2.2.2.2.2.2.2.2.2.2.2 ⟨Nat.zero_le _, Nat.zero_le _⟩) (fun r_1 u H locs hp hP hD hS => ?_)
    obtain ⟨aCK, aUz, aOr, tr_x_5, tr_height_6, tr_worth_7, tr_ripe_8, tr_foot_9, tr_fork_10⟩ := u
    have hPD := PDm (ws' := (aLc cI cC cZ cB cJ xI uY vI tJ jJ mY pG pD pE eO qL aCK rX qM dN bD aUz aOr tr_x_5 tr_height_6 tr_worth_7 tr_ripe_8 tr_foot_9 tr_fork_10)) hP hD 9 rfl rfl rfl
    have hP := hPD.1
    have hD := hPD.2
    refine lv_if_ne (tgt := 34) hx hb aRa.1 (by decide) (fun hc => ?_) (fun hc => ?_)
    · have hp := hp.1 hc
      refine lv_aload_n hx hb aRa.2.2.2.1 rfl (lv_at hl 1 rfl) ?_
      refine lv_bipush (v := 59) hx hb aRa.2.2.2.2.1 bp_59 ?_
      have hm := mgk (wc := (wd_X8_take cI cC cZ cB cJ xI uY qL aCK rX qM)) hP mk_5 9 rfl rfl rfl
      refine yW hP hD hS hA (yS mk_5) (aAi mk_5) hm.1 hm.2 (aAk _) (zW _) (zF (As := [.int 59]) (rest := []) C0 hP hD hS (yS mk_5) hm.1 (aAl _) 0 8 rfl rfl (c_X8_take l dC dI cI cC cZ cB cJ xI uY H.size 59 qL aCK rX qM _ hp) q_41 q_44 q_42 q_43 q_5 h_X8_take rfl rfl ⟨lbz rfl, lbz rfl⟩ rfl rfl hl.1 rfl (lv_room (lbz rfl)) aRa.2.2.2.2.2.1 ⟨Nat.zero_le _, Nat.zero_le _⟩) (fun r_11 u H locs hp hP hD hS => ?_)
      obtain ⟨tx_place_12, rfl⟩ : ∃ z, z = u := ⟨_, rfl⟩
      have hPD := PDm (ws' := (aLc cI cC cZ cB cJ xI uY vI tJ jJ mY pG pD pE eO qL tx_place_12 rX qM dN bD aUz aOr tr_x_5 tr_height_6 tr_worth_7 tr_ripe_8 tr_foot_9 tr_fork_10)) hP hD 9 rfl rfl rfl
      have hP := hPD.1
      have hD := hPD.2
      refine lv_if_ne (tgt := 45) hx hb aRa.2.2.2.2.2.2.1 (by decide) (fun hc => ?_) (fun hc => ?_)
      · have hp := hp.1 hc
        obtain ⟨aIQ, ev_13⟩ : ∃ y : Int32, y = x2 + 1 := ⟨_, rfl⟩
        refine lv_iinc (v := aIQ) (lv' := [(2, .int aIQ), (0, .ref vI), (1, .ref xI)]) hx hb aRa.2.2.2.2.2.2.2.2.2.1 hl (k := 2) rfl (by rw [ev_13]; rfl) (by decide) rfl (fun ls hl => ?_)
        have hp := hp aIQ ev_13
        refine lv_goto (tgt := 18) hx hb aRa.2.2.2.2.2.2.2.2.2.2.1 (by decide) ?_
        exact hKn aIQ tx_place_12 aUz aOr tr_x_5 tr_height_6 tr_worth_7 tr_ripe_8 tr_foot_9 tr_fork_10 H locs ls hp hP hD hS (lv_sub hl [1, 2, 0] rfl)
      · have hp := hp.2 hc
        refine lv_iload_n hx hb aRa.2.2.2.2.2.2.2.1 rfl (lv_at hl 2 rfl) ?_
        exact W.iret (v := x2) hx hb hr (fun t ht hW => ⟨⟨x2, (tx_place_12, aUz, aOr, tr_x_5, tr_height_6, tr_worth_7, tr_ripe_8, tr_foot_9, tr_fork_10), rfl, hp, by rw [ht]; exact hP, va_K.moved hW.alike hK, hD⟩, hS.F ht⟩) hS.2.2 aRa.2.2.2.2.2.2.2.2.1
    · have hp := hp.2 hc
      refine lv_iconst (v := (-1)) hx hb aRa.2.1 aEJ ?_
      exact W.iret (v := (-1)) hx hb hr (fun t ht hW => ⟨⟨(-1), (aCK, aUz, aOr, tr_x_5, tr_height_6, tr_worth_7, tr_ripe_8, tr_foot_9, tr_fork_10), rfl, hp, by rw [ht]; exact hP, va_K.moved hW.alike hK, hD⟩, hS.F ht⟩) hS.2.2 aRa.2.2.1
set_option maxHeartbeats 4000000 in
set_option maxRecDepth 100000 in
theorem kb_X3_readLines_18 (C0 : gc aGJ (some .int) 3 RX3 (dC, dI) (tyl cI cC cZ cB cJ) A p s m args meth c) : ∀ (n : Nat), ∀ (x2 qJ bJ aI : Int32) (uU gF pL qF mX oE : Nat -> Int32) (H : Heap) (locs : List Loc) (ls : Array Slot), (wb_X3_readLines_18 post rX qM dN bD n) x2 qJ bJ aI uU gF pL qF mX oE -> va_P (dC, dI) classes (aLc cI cC cZ cB cJ xI uY vI tJ jJ mY pG pD pE eO qL qJ rX qM dN bD bJ aI uU gF pL qF mX oE) H -> va_D A (aLc cI cC cZ cB cJ xI uY vI tJ jJ mY pG pD pE eO qL qJ rX qM dN bD bJ aI uU gF pL qF mX oE) -> va_S A s.heap H locs -> lv_has ls 3 [(0, .ref vI), (1, .ref xI), (2, .int x2)] -> W p l e rm_X3_readLines s m args below meth c H locs 0 0 (MQ below (q_X3_readLines dC dI cI cC cZ cB cJ A xI uY vI tJ jJ mY pG pD pE eO qL rX qM dN bD post) args s 0 0 A) (F0 m 18 ls []) := by
  intro n
  induction n with
  | zero =>
    intro x2 qJ bJ aI uU gF pL qF mX oE H locs ls hp
    exact False.elim hp
  | succ n ih =>
    intro x2 qJ bJ aI uU gF pL qF mX oE H locs ls hp
    exact ks_X3_readLines_18 C0 ih x2 qJ bJ aI uU gF pL qF mX oE H locs ls hp
end S_X3_readLines
def wp_X3_readLines (post : Int32 -> Int32 -> Int32 -> Int32 -> (Nat -> Int32) -> (Nat -> Int32) -> (Nat -> Int32) -> (Nat -> Int32) -> (Nat -> Int32) -> (Nat -> Int32) -> Prop) (qJ rX : Int32) (qM : Nat -> Int32) (dN bD bJ aI : Int32) (uU gF pL qF mX oE : Nat -> Int32) : Prop := ∃ n : Nat, wb_X3_readLines_18 post rX qM dN bD n 1 qJ dN bD uU gF pL qF mX oE
set_option maxHeartbeats 4000000 in
set_option maxRecDepth 100000 in
theorem c_X3_readLines (l : Launch) (dC : Nat -> ClassId) (dI : Nat -> Nat -> Nat) (cI cC cZ cB cJ : ClassId) (xI uY vI tJ jJ mY pG pD pE eO sz : Nat) (qL qJ rX : Int32) (qM : Nat -> Int32) (dN bD bJ aI : Int32) (uU gF pL qF mX oE : Nat -> Int32) (post : Int32 -> Int32 -> Int32 -> Int32 -> (Nat -> Int32) -> (Nat -> Int32) -> (Nat -> Int32) -> (Nat -> Int32) -> (Nat -> Int32) -> (Nat -> Int32) -> Prop) (hw : wp_X3_readLines post qJ rX qM dN bD bJ aI uU gF pL qF mX oE) : Met l yX3_readLines (gw yX3_readLines aGJ 3 (some .int)) rm_X3_readLines (va_Pc [.ref vI, .ref xI] (gPre (dC, dI) (tyl cI cC cZ cB cJ) (aLc cI cC cZ cB cJ xI uY vI tJ jJ mY pG pD pE eO qL qJ rX qM dN bD bJ aI uU gF pL qF mX oE) sz)) (q_X3_readLines dC dI cI cC cZ cB cJ (va_A (aLc cI cC cZ cB cJ xI uY vI tJ jJ mY pG pD pE eO qL qJ rX qM dN bD bJ aI uU gF pL qF mX oE) sz) xI uY vI tJ jJ mY pG pD pE eO qL rX qM dN bD post) 0 0 (va_A (aLc cI cC cZ cB cJ xI uY vI tJ jJ mY pG pD pE eO qL qJ rX qM dN bD bJ aI uU gF pL qF mX oE) sz) := by
  refine aBJ (own := RX3) (dC, dI) (tyl cI cC cZ cB cJ) (aLc cI cC cZ cB cJ xI uY vI tJ jJ mY pG pD pE eO qL qJ rX qM dN bD bJ aI uU gF pL qF mX oE) sz [.ref vI, .ref xI] (fun A => q_X3_readLines dC dI cI cC cZ cB cJ A xI uY vI tJ jJ mY pG pD pE eO qL rX qM dN bD post) pn_RX3 rfl (lbz rfl) ?_
  intro p e s m args below meth c A H locs ls C0 hP hD hS hl
  have hl : lv_has ls 3 [(0, .ref vI), (1, .ref xI)] := hl
  obtain ⟨hx, hb, hr, hml, hown, hts, hlocks, hA, hK, hN, tL, tM, hZL, hTL, hZM, hTM, hZX⟩ := id C0
  have hp := hw
  unfold wp_X3_readLines at hp
  refine lv_aload_n hx hb aOH.1 rfl (lv_at hl 0 rfl) ?_
  refine lv_aload_n hx hb aOH.2.1 rfl (lv_at hl 0 rfl) ?_
  refine va_get (D := (dC, dI)) (ci := 3) (v := .int dN) (C := RX3) (T := TX3) (N := 11) hx hb hts i_X3 hown hK hP 2 rfl rfl 7 (lbz rfl) (hts _ q_20) (fun _ h9 => h9) rfl aOH.2.2.1 ?_
  refine va_put (D := (dC, dI)) (ci := 3) (v := .int dN) (ty := .int) (C := RX3) (T := TX3) (N := 11) hx hb hts i_X3 tyX3 tyX3_ok nmX3 hown hK hP hD hS 2 rfl rfl 9 (lbz rfl) (hts _ q_19) (fun _ h9 => h9) rfl (tyX3_ok 9 (lbz rfl)) rfl rfl (lbz rfl) aOH.2.2.2.1 (fun H locs hP hD hS => ?_)
  have hPD := PDw (ws' := (aLc cI cC cZ cB cJ xI uY vI tJ jJ mY pG pD pE eO qL qJ rX qM dN bD dN aI uU gF pL qF mX oE)) hP hD rfl
  have hP := hPD.1
  have hD := hPD.2
  refine lv_aload_n hx hb aOH.2.2.2.2.1 rfl (lv_at hl 0 rfl) ?_
  refine lv_aload_n hx hb aOH.2.2.2.2.2.1 rfl (lv_at hl 0 rfl) ?_
  refine va_get (D := (dC, dI)) (ci := 3) (v := .int bD) (C := RX3) (T := TX3) (N := 11) hx hb hts i_X3 hown hK hP 2 rfl rfl 8 (lbz rfl) (hts _ q_22) (fun _ h9 => h9) rfl aOH.2.2.2.2.2.2.1 ?_
  refine va_put (D := (dC, dI)) (ci := 3) (v := .int bD) (ty := .int) (C := RX3) (T := TX3) (N := 11) hx hb hts i_X3 tyX3 tyX3_ok nmX3 hown hK hP hD hS 2 rfl rfl 10 (lbz rfl) (hts _ q_21) (fun _ h9 => h9) rfl (tyX3_ok 10 (lbz rfl)) rfl rfl (lbz rfl) aOH.2.2.2.2.2.2.2.1 (fun H locs hP hD hS => ?_)
  have hPD := PDw (ws' := (aLc cI cC cZ cB cJ xI uY vI tJ jJ mY pG pD pE eO qL qJ rX qM dN bD dN bD uU gF pL qF mX oE)) hP hD rfl
  have hP := hPD.1
  have hD := hPD.2
  refine lv_iconst (v := 1) hx hb aOH.2.2.2.2.2.2.2.2.1 aDx ?_
  refine lv_istore_n (lv' := [(2, .int 1), (0, .ref vI), (1, .ref xI)]) hx hb aOH.2.2.2.2.2.2.2.2.2.1 rfl hl (by decide) rfl (fun ls hl => ?_)
  obtain ⟨n9, hp⟩ := hp
  exact kb_X3_readLines_18 C0 n9 1 qJ dN bD uU gF pL qF mX oE H locs ls hp hP hD hS (lv_sub hl [1, 2, 0] rfl)
abbrev aKL (cI cC cZ cB cJ : ClassId) (a_x xI xH xB vI wY xX yA xY uD uY tJ jJ mY pG pD pE eO wF uT wD : Nat) (qL qJ rX : Int32) (qM : Nat -> Int32) (dN bD bJ aI : Int32) (uU gF pL qF mX oE : Nat -> Int32) (pR uM : Int32) (uF : Nat -> Int32) : va_W := [(a_x, .inr (9, [.ref xI, .ref xH, .ref xB, .ref vI, .ref wY, .ref xX, .ref yA, .ref xY, .ref uD])), (xI, .inr (8, [.ref uY, .int qL, .int qJ, .int rX])), (uY, .inl (cC, 80, .inl qM)), (vI, .inr (3, [.ref tJ, .ref jJ, .ref mY, .ref pG, .ref pD, .ref pE, .ref eO, .int dN, .int bD, .int bJ, .int aI])), (tJ, .inl (cI, 16, .inl uU)), (jJ, .inl (cI, 16, .inl gF)), (mY, .inl (cI, 16, .inl pL)), (pG, .inl (cI, 16, .inl qF)), (pD, .inl (cI, 8, .inl mX)), (pE, .inl (cI, 8, .inl oE)), (xX, .inr (4, [.ref wF, .ref uT, .ref wD, .int pR, .int uM])), (wD, .inl (cZ, 2, .inl uF))]
abbrev q_X9_orchard (dC : Nat -> ClassId) (dI : Nat -> Nat -> Nat) (cI cC cZ cB cJ : ClassId) (A : Nat -> Prop) (a_x xI xH xB vI wY xX yA xY uD uY tJ jJ mY pG pD pE eO wF uT wD : Nat) (qM : Nat -> Int32) (uM : Int32) (post : Int32 -> Int32 -> Int32 -> Int32 -> Int32 -> Int32 -> Int32 -> Int32 -> (Nat -> Int32) -> (Nat -> Int32) -> (Nat -> Int32) -> (Nat -> Int32) -> (Nat -> Int32) -> (Nat -> Int32) -> Int32 -> (Nat -> Int32) -> Prop) : Array Value -> State -> Outcome -> State -> Prop := va_Qi (fun (r : Int32) (u : Int32 × Int32 × Int32 × Int32 × Int32 × Int32 × Int32 × (Nat -> Int32) × (Nat -> Int32) × (Nat -> Int32) × (Nat -> Int32) × (Nat -> Int32) × (Nat -> Int32) × Int32 × (Nat -> Int32)) => post r u.1 u.2.1 u.2.2.1 u.2.2.2.1 u.2.2.2.2.1 u.2.2.2.2.2.1 u.2.2.2.2.2.2.1 u.2.2.2.2.2.2.2.1 u.2.2.2.2.2.2.2.2.1 u.2.2.2.2.2.2.2.2.2.1 u.2.2.2.2.2.2.2.2.2.2.1 u.2.2.2.2.2.2.2.2.2.2.2.1 u.2.2.2.2.2.2.2.2.2.2.2.2.1 u.2.2.2.2.2.2.2.2.2.2.2.2.2.1 u.2.2.2.2.2.2.2.2.2.2.2.2.2.2) (fun u t => gB (dC, dI) (tyl cI cC cZ cB cJ) A (aKL cI cC cZ cB cJ a_x xI xH xB vI wY xX yA xY uD uY tJ jJ mY pG pD pE eO wF uT wD u.1 u.2.1 u.2.2.1 qM u.2.2.2.1 u.2.2.2.2.1 u.2.2.2.2.2.1 u.2.2.2.2.2.2.1 u.2.2.2.2.2.2.2.1 u.2.2.2.2.2.2.2.2.1 u.2.2.2.2.2.2.2.2.2.1 u.2.2.2.2.2.2.2.2.2.2.1 u.2.2.2.2.2.2.2.2.2.2.2.1 u.2.2.2.2.2.2.2.2.2.2.2.2.1 u.2.2.2.2.2.2.2.2.2.2.2.2.2.1 uM u.2.2.2.2.2.2.2.2.2.2.2.2.2.2) t) A
abbrev rm_X9_orchard : Room := { frames := 6, cells := 0, slots := 0, locals := 135 }
section S_X9_orchard
variable {p : Program} {l : Launch} {e : Env} {s : State} {m : MethodId} {args : Array Value} {below : List Frame} {meth : Method} {c : Code} {dC : Nat -> ClassId} {dI : Nat -> Nat -> Nat} {cI cC cZ cB cJ : ClassId} {A : Nat -> Prop} {a_x xI xH xB vI wY xX yA xY uD uY tJ jJ mY pG pD pE eO wF uT wD : Nat} {qM : Nat -> Int32} {uM : Int32} {post : Int32 -> Int32 -> Int32 -> Int32 -> Int32 -> Int32 -> Int32 -> Int32 -> (Nat -> Int32) -> (Nat -> Int32) -> (Nat -> Int32) -> (Nat -> Int32) -> (Nat -> Int32) -> (Nat -> Int32) -> Int32 -> (Nat -> Int32) -> Prop}
def aDC (post : Int32 -> Int32 -> Int32 -> Int32 -> Int32 -> Int32 -> Int32 -> Int32 -> (Nat -> Int32) -> (Nat -> Int32) -> (Nat -> Int32) -> (Nat -> Int32) -> (Nat -> Int32) -> (Nat -> Int32) -> Int32 -> (Nat -> Int32) -> Prop) (qM : Nat -> Int32) (x3 qL qJ rX dN bD bJ aI : Int32) (uU gF pL qF mX oE : Nat -> Int32) (pR : Int32) (uF : Nat -> Int32) : Prop := wp_X8_clear (fun tx_length_14 => post x3 tx_length_14 qJ rX dN bD bJ aI uU gF pL qF mX oE pR uF) qL
set_option maxHeartbeats 4000000 in
set_option maxRecDepth 100000 in
theorem ks_X9_orchard_94 (C0 : gc aDq (some .int) 4 RX9 (dC, dI) (tyl cI cC cZ cB cJ) A p s m args meth c) : ∀ (x3 qL qJ rX dN bD bJ aI : Int32) (uU gF pL qF mX oE : Nat -> Int32) (pR : Int32) (uF : Nat -> Int32) (H : Heap) (locs : List Loc) (ls : Array Slot), (aDC post qM) x3 qL qJ rX dN bD bJ aI uU gF pL qF mX oE pR uF -> va_P (dC, dI) classes (aKL cI cC cZ cB cJ a_x xI xH xB vI wY xX yA xY uD uY tJ jJ mY pG pD pE eO wF uT wD qL qJ rX qM dN bD bJ aI uU gF pL qF mX oE pR uM uF) H -> va_D A (aKL cI cC cZ cB cJ a_x xI xH xB vI wY xX yA xY uD uY tJ jJ mY pG pD pE eO wF uT wD qL qJ rX qM dN bD bJ aI uU gF pL qF mX oE pR uM uF) -> va_S A s.heap H locs -> lv_has ls 4 [(0, .ref a_x), (3, .int x3)] -> W p l e rm_X9_orchard s m args below meth c H locs 0 0 (MQ below (q_X9_orchard dC dI cI cC cZ cB cJ A a_x xI xH xB vI wY xX yA xY uD uY tJ jJ mY pG pD pE eO wF uT wD qM uM post) args s 0 0 A) (F0 m 94 ls []) := by
  obtain ⟨hx, hb, hr, hml, hown, hts, hlocks, hA, hK, hN, tL, tM, hZL, hTL, hZM, hTM, hZX⟩ := id C0
  intro x3 qL qJ rX dN bD bJ aI uU gF pL qF mX oE pR uF H locs ls hp hP hD hS hl
  unfold aDC at hp
  refine lv_aload_n hx hb aQv.2.2.2.2.2.2.2.2.2.2.2.2.2.1 rfl (lv_at hl 0 rfl) ?_
  refine va_get (D := (dC, dI)) (ci := 9) (v := .ref xI) (C := RX9) (T := TX9) (N := 9) hx hb hts aC3 hown hK hP 0 rfl rfl 0 (lbz rfl) (hts _ q_3) (fun _ h9 => h9) rfl aQv.2.2.2.2.2.2.2.2.2.2.2.2.2.2.1 ?_
  have hm := mgk (wc := (wd_X8_clear cI cC cZ cB cJ xI uY qL qJ rX)) hP mk_10 12 rfl rfl rfl
  refine aBn hP hD hS hA (yS mk_10) (aAi mk_10) hm.1 hm.2 (aAk _) (zW _) (zF (As := []) (rest := []) C0 hP hD hS (yS mk_10) hm.1 (aAl _) 1 8 rfl rfl (c_X8_clear l dC dI cI cC cZ cB cJ xI uY H.size qL qJ rX _ hp) q_83 q_86 q_84 q_85 q_5 h_X8_clear rfl rfl ⟨lbz rfl, lbz rfl⟩ rfl rfl hl.1 rfl (lv_room (lbz rfl)) aQv.2.2.2.2.2.2.2.2.2.2.2.2.2.2.2 ⟨Nat.zero_le _, Nat.zero_le _⟩) (fun u H locs hp hP hD hS => ?_)
  obtain ⟨tx_length_14, rfl⟩ : ∃ z, z = u := ⟨_, rfl⟩
  have hPD := PDm (ws' := (aKL cI cC cZ cB cJ a_x xI xH xB vI wY xX yA xY uD uY tJ jJ mY pG pD pE eO wF uT wD tx_length_14 qJ rX qM dN bD bJ aI uU gF pL qF mX oE pR uM uF)) hP hD 12 rfl rfl rfl
  have hP := hPD.1
  have hD := hPD.2
  refine lv_iload_n hx hb eX9_orchard_101.1 rfl (lv_at hl 1 rfl) ?_
  exact W.iret (v := x3) hx hb hr (fun t ht hW => ⟨⟨x3, (tx_length_14, qJ, rX, dN, bD, bJ, aI, uU, gF, pL, qF, mX, oE, pR, uF), rfl, hp, by rw [ht]; exact hP, va_K.moved hW.alike hK, hD⟩, hS.F ht⟩) hS.2.2 eX9_orchard_101.2
def aLL (post : Int32 -> Int32 -> Int32 -> Int32 -> Int32 -> Int32 -> Int32 -> Int32 -> (Nat -> Int32) -> (Nat -> Int32) -> (Nat -> Int32) -> (Nat -> Int32) -> (Nat -> Int32) -> (Nat -> Int32) -> Int32 -> (Nat -> Int32) -> Prop) (qM : Nat -> Int32) (x1 x2 k0 qL qJ rX dN bD bJ aI : Int32) (uU gF pL qF mX oE : Nat -> Int32) (pR : Int32) (uF : Nat -> Int32) : Prop := (x2 = 0 -> aDC post qM k0 qL qJ rX dN bD bJ aI uU gF pL qF mX oE pR uF) /\ (¬ x2 = 0 -> (x1 <= 0 -> aDC post qM k0 qL qJ rX dN bD bJ aI uU gF pL qF mX oE pR uF) /\ (¬ x1 <= 0 -> wp_X3_takeLines (fun tr_fruits_15 tr_standings_16 => wp_X4_forgetAll (fun pa_undoable_17 pa_isKept_18 => aDC post qM k0 qL qJ rX tr_fruits_15 tr_standings_16 bJ aI uU gF pL qF mX oE pa_undoable_17 pa_isKept_18) pR uF) dN bD bJ aI))
set_option maxHeartbeats 4000000 in
set_option maxRecDepth 100000 in
theorem ks_X9_orchard_71 (C0 : gc aDq (some .int) 4 RX9 (dC, dI) (tyl cI cC cZ cB cJ) A p s m args meth c) : ∀ (x1 x2 k0 qL qJ rX dN bD bJ aI : Int32) (uU gF pL qF mX oE : Nat -> Int32) (pR : Int32) (uF : Nat -> Int32) (H : Heap) (locs : List Loc) (ls : Array Slot), (aLL post qM) x1 x2 k0 qL qJ rX dN bD bJ aI uU gF pL qF mX oE pR uF -> va_P (dC, dI) classes (aKL cI cC cZ cB cJ a_x xI xH xB vI wY xX yA xY uD uY tJ jJ mY pG pD pE eO wF uT wD qL qJ rX qM dN bD bJ aI uU gF pL qF mX oE pR uM uF) H -> va_D A (aKL cI cC cZ cB cJ a_x xI xH xB vI wY xX yA xY uD uY tJ jJ mY pG pD pE eO wF uT wD qL qJ rX qM dN bD bJ aI uU gF pL qF mX oE pR uM uF) -> va_S A s.heap H locs -> lv_has ls 4 [(0, .ref a_x), (1, .int x1), (2, .int x2)] -> W p l e rm_X9_orchard s m args below meth c H locs 0 0 (MQ below (q_X9_orchard dC dI cI cC cZ cB cJ A a_x xI xH xB vI wY xX yA xY uD uY tJ jJ mY pG pD pE eO wF uT wD qM uM post) args s 0 0 A) (F0 m 71 ls [.int k0]) := by
  obtain ⟨hx, hb, hr, hml, hown, hts, hlocks, hA, hK, hN, tL, tM, hZL, hTL, hZM, hTM, hZX⟩ := id C0
  intro x1 x2 k0 qL qJ rX dN bD bJ aI uU gF pL qF mX oE pR uF H locs ls hp hP hD hS hl
  unfold aLL at hp
  refine lv_istore_n (lv' := [(3, .int k0), (0, .ref a_x), (1, .int x1), (2, .int x2)]) hx hb aQv.2.2.1 rfl hl (by decide) rfl (fun ls hl => ?_)
  refine lv_iload_n hx hb aQv.2.2.2.1 rfl (lv_at hl 3 rfl) ?_
  refine lv_if_eq (tgt := 94) hx hb aQv.2.2.2.2.1 (by decide) (fun hc => ?_) (fun hc => ?_)
  · have hp := hp.1 hc
    exact ks_X9_orchard_94 C0 k0 qL qJ rX dN bD bJ aI uU gF pL qF mX oE pR uF H locs ls hp hP hD hS (lv_sub hl [1, 0] rfl)
  · have hp := hp.2 hc
    refine lv_iload_n hx hb aQv.2.2.2.2.2.1 rfl (lv_at hl 2 rfl) ?_
    refine lv_if_le (tgt := 94) hx hb aQv.2.2.2.2.2.2.1 (by decide) (fun hc => ?_) (fun hc => ?_)
    · have hp := hp.1 hc
      exact ks_X9_orchard_94 C0 k0 qL qJ rX dN bD bJ aI uU gF pL qF mX oE pR uF H locs ls hp hP hD hS (lv_sub hl [1, 0] rfl)
    · have hp := hp.2 hc
      refine lv_aload_n hx hb aQv.2.2.2.2.2.2.2.1 rfl (lv_at hl 1 rfl) ?_
      refine va_get (D := (dC, dI)) (ci := 9) (v := .ref vI) (C := RX9) (T := TX9) (N := 9) hx hb hts aC3 hown hK hP 0 rfl rfl 3 (lbz rfl) (hts _ q_74) (fun _ h9 => h9) rfl aQv.2.2.2.2.2.2.2.2.1 ?_
      have hm := mgk (wc := (bCG cI cC cZ cB cJ vI tJ jJ mY pG pD pE eO dN bD bJ aI)) hP mk_11 12 rfl rfl rfl
      refine aBn hP hD hS hA (yS mk_11) (aAi mk_11) hm.1 hm.2 (aAk _) (zW _) (zF (As := []) (rest := []) C0 hP hD hS (yS mk_11) hm.1 (aAl _) 3 3 rfl rfl (c_X3_takeLines l dC dI cI cC cZ cB cJ vI tJ jJ mY pG pD pE eO H.size dN bD bJ aI _ hp) q_87 q_90 q_88 q_89 q_48 h_X3_takeLines rfl rfl ⟨lbz rfl, lbz rfl⟩ rfl rfl hl.1 rfl (lv_room (lbz rfl)) aQv.2.2.2.2.2.2.2.2.2.1 ⟨Nat.zero_le _, Nat.zero_le _⟩) (fun u H locs hp hP hD hS => ?_)
      obtain ⟨tr_fruits_15, tr_standings_16⟩ := u
      have hPD := PDm (ws' := (aKL cI cC cZ cB cJ a_x xI xH xB vI wY xX yA xY uD uY tJ jJ mY pG pD pE eO wF uT wD qL qJ rX qM tr_fruits_15 tr_standings_16 bJ aI uU gF pL qF mX oE pR uM uF)) hP hD 12 rfl rfl rfl
      have hP := hPD.1
      have hD := hPD.2
      refine lv_aload_n hx hb aQv.2.2.2.2.2.2.2.2.2.2.1 rfl (lv_at hl 1 rfl) ?_
      refine va_get (D := (dC, dI)) (ci := 9) (v := .ref xX) (C := RX9) (T := TX9) (N := 9) hx hb hts aC3 hown hK hP 0 rfl rfl 5 (lbz rfl) (hts _ q_91) (fun _ h9 => h9) rfl aQv.2.2.2.2.2.2.2.2.2.2.2.1 ?_
      have hm := mgk (wc := (aOZ cI cC cZ cB cJ xX wF uT wD pR uM uF)) hP mk_12 12 rfl rfl rfl
      refine aBn hP hD hS hA (yS mk_12) (aAi mk_12) hm.1 hm.2 (aAk _) (zW _) (zF (As := []) (rest := []) C0 hP hD hS (yS mk_12) hm.1 (aAl _) 10 4 rfl rfl (c_X4_forgetAll l dC dI cI cC cZ cB cJ xX wF uT wD H.size pR uM uF _ hp) q_92 q_96 q_94 q_95 q_93 h_X4_forgetAll rfl rfl ⟨lbz rfl, lbz rfl⟩ rfl rfl hl.1 rfl (lv_room (lbz rfl)) aQv.2.2.2.2.2.2.2.2.2.2.2.2.1 ⟨Nat.zero_le _, Nat.zero_le _⟩) (fun u H locs hp hP hD hS => ?_)
      obtain ⟨pa_undoable_17, pa_isKept_18⟩ := u
      have hPD := PDm (ws' := (aKL cI cC cZ cB cJ a_x xI xH xB vI wY xX yA xY uD uY tJ jJ mY pG pD pE eO wF uT wD qL qJ rX qM tr_fruits_15 tr_standings_16 bJ aI uU gF pL qF mX oE pa_undoable_17 uM pa_isKept_18)) hP hD 12 rfl rfl rfl
      have hP := hPD.1
      have hD := hPD.2
      exact ks_X9_orchard_94 C0 k0 qL qJ rX tr_fruits_15 tr_standings_16 bJ aI uU gF pL qF mX oE pa_undoable_17 pa_isKept_18 H locs ls hp hP hD hS (lv_sub hl [1, 0] rfl)
def aXn (post : Int32 -> Int32 -> Int32 -> Int32 -> Int32 -> Int32 -> Int32 -> Int32 -> (Nat -> Int32) -> (Nat -> Int32) -> (Nat -> Int32) -> (Nat -> Int32) -> (Nat -> Int32) -> (Nat -> Int32) -> Int32 -> (Nat -> Int32) -> Prop) (qM : Nat -> Int32) (x1 k0 qL qJ rX dN bD bJ aI : Int32) (uU gF pL qF mX oE : Nat -> Int32) (pR : Int32) (uF : Nat -> Int32) : Prop := (k0 = 0 -> wp_X8_wrong (fun r_13 => aLL post qM x1 k0 r_13 qL qJ rX dN bD bJ aI uU gF pL qF mX oE pR uF) qJ) /\ (¬ k0 = 0 -> aLL post qM x1 k0 x1 qL qJ rX dN bD bJ aI uU gF pL qF mX oE pR uF)
set_option maxHeartbeats 4000000 in
set_option maxRecDepth 100000 in
theorem ks_X9_orchard_55 (C0 : gc aDq (some .int) 4 RX9 (dC, dI) (tyl cI cC cZ cB cJ) A p s m args meth c) : ∀ (x1 k0 qL qJ rX dN bD bJ aI : Int32) (uU gF pL qF mX oE : Nat -> Int32) (pR : Int32) (uF : Nat -> Int32) (H : Heap) (locs : List Loc) (ls : Array Slot), (aXn post qM) x1 k0 qL qJ rX dN bD bJ aI uU gF pL qF mX oE pR uF -> va_P (dC, dI) classes (aKL cI cC cZ cB cJ a_x xI xH xB vI wY xX yA xY uD uY tJ jJ mY pG pD pE eO wF uT wD qL qJ rX qM dN bD bJ aI uU gF pL qF mX oE pR uM uF) H -> va_D A (aKL cI cC cZ cB cJ a_x xI xH xB vI wY xX yA xY uD uY tJ jJ mY pG pD pE eO wF uT wD qL qJ rX qM dN bD bJ aI uU gF pL qF mX oE pR uM uF) -> va_S A s.heap H locs -> lv_has ls 4 [(0, .ref a_x), (1, .int x1)] -> W p l e rm_X9_orchard s m args below meth c H locs 0 0 (MQ below (q_X9_orchard dC dI cI cC cZ cB cJ A a_x xI xH xB vI wY xX yA xY uD uY tJ jJ mY pG pD pE eO wF uT wD qM uM post) args s 0 0 A) (F0 m 55 ls [.int k0]) := by
  obtain ⟨hx, hb, hr, hml, hown, hts, hlocks, hA, hK, hN, tL, tM, hZL, hTL, hZM, hTM, hZX⟩ := id C0
  intro x1 k0 qL qJ rX dN bD bJ aI uU gF pL qF mX oE pR uF H locs ls hp hP hD hS hl
  unfold aXn at hp
  refine lv_istore_n (lv' := [(2, .int k0), (0, .ref a_x), (1, .int x1)]) hx hb aQu.2.2.2.2.2.2.2.2.2.2.1 rfl hl (by decide) rfl (fun ls hl => ?_)
  refine lv_iload_n hx hb aQu.2.2.2.2.2.2.2.2.2.2.2.1 rfl (lv_at hl 0 rfl) ?_
  refine lv_if_eq (tgt := 64) hx hb aQu.2.2.2.2.2.2.2.2.2.2.2.2.1 (by decide) (fun hc => ?_) (fun hc => ?_)
  · have hp := hp.1 hc
    refine lv_aload_n hx hb aQu.2.2.2.2.2.2.2.2.2.2.2.2.2.2.2 rfl (lv_at hl 1 rfl) ?_
    refine va_get (D := (dC, dI)) (ci := 9) (v := .ref xI) (C := RX9) (T := TX9) (N := 9) hx hb hts aC3 hown hK hP 0 rfl rfl 0 (lbz rfl) (hts _ q_3) (fun _ h9 => h9) rfl aQv.1 ?_
    have hm := mgk (wc := (wd_X8_wrong cI cC cZ cB cJ xI uY qL qJ rX)) hP mk_10 12 rfl rfl rfl
    refine yW hP hD hS hA (yS mk_10) (aAi mk_10) hm.1 hm.2 (aAk _) (zW _) (zF (As := []) (rest := []) C0 hP hD hS (yS mk_10) hm.1 (aAl _) 1 8 rfl rfl (c_X8_wrong l dC dI cI cC cZ cB cJ xI uY H.size qL qJ rX _ hp) q_79 q_82 q_80 q_81 q_5 h_X8_wrong rfl rfl ⟨lbz rfl, lbz rfl⟩ rfl rfl hl.1 rfl (lv_room (lbz rfl)) aQv.2.1 ⟨Nat.zero_le _, Nat.zero_le _⟩) (fun r_13 u H locs hp hP hD hS => ?_)
    have hPD := PDm (ws' := (aKL cI cC cZ cB cJ a_x xI xH xB vI wY xX yA xY uD uY tJ jJ mY pG pD pE eO wF uT wD qL qJ rX qM dN bD bJ aI uU gF pL qF mX oE pR uM uF)) hP hD 12 rfl rfl rfl
    have hP := hPD.1
    have hD := hPD.2
    exact ks_X9_orchard_71 C0 x1 k0 r_13 qL qJ rX dN bD bJ aI uU gF pL qF mX oE pR uF H locs ls hp hP hD hS (lv_sub hl [1, 2, 0] rfl)
  · have hp := hp.2 hc
    refine lv_iload_n hx hb aQu.2.2.2.2.2.2.2.2.2.2.2.2.2.1 rfl (lv_at hl 2 rfl) ?_
    refine lv_goto (tgt := 71) hx hb aQu.2.2.2.2.2.2.2.2.2.2.2.2.2.2.1 (by decide) ?_
    exact ks_X9_orchard_71 C0 x1 k0 x1 qL qJ rX dN bD bJ aI uU gF pL qF mX oE pR uF H locs ls hp hP hD hS (lv_sub hl [1, 2, 0] rfl)
def bCb (post : Int32 -> Int32 -> Int32 -> Int32 -> Int32 -> Int32 -> Int32 -> Int32 -> (Nat -> Int32) -> (Nat -> Int32) -> (Nat -> Int32) -> (Nat -> Int32) -> (Nat -> Int32) -> (Nat -> Int32) -> Int32 -> (Nat -> Int32) -> Prop) (qM : Nat -> Int32) (x1 qL qJ rX dN bD bJ aI : Int32) (uU gF pL qF mX oE : Nat -> Int32) (pR : Int32) (uF : Nat -> Int32) : Prop := aXn post qM x1 0 qL qJ rX dN bD bJ aI uU gF pL qF mX oE pR uF
set_option maxHeartbeats 4000000 in
set_option maxRecDepth 100000 in
theorem ks_X9_orchard_54 (C0 : gc aDq (some .int) 4 RX9 (dC, dI) (tyl cI cC cZ cB cJ) A p s m args meth c) : ∀ (x1 qL qJ rX dN bD bJ aI : Int32) (uU gF pL qF mX oE : Nat -> Int32) (pR : Int32) (uF : Nat -> Int32) (H : Heap) (locs : List Loc) (ls : Array Slot), (bCb post qM) x1 qL qJ rX dN bD bJ aI uU gF pL qF mX oE pR uF -> va_P (dC, dI) classes (aKL cI cC cZ cB cJ a_x xI xH xB vI wY xX yA xY uD uY tJ jJ mY pG pD pE eO wF uT wD qL qJ rX qM dN bD bJ aI uU gF pL qF mX oE pR uM uF) H -> va_D A (aKL cI cC cZ cB cJ a_x xI xH xB vI wY xX yA xY uD uY tJ jJ mY pG pD pE eO wF uT wD qL qJ rX qM dN bD bJ aI uU gF pL qF mX oE pR uM uF) -> va_S A s.heap H locs -> lv_has ls 4 [(0, .ref a_x), (1, .int x1)] -> W p l e rm_X9_orchard s m args below meth c H locs 0 0 (MQ below (q_X9_orchard dC dI cI cC cZ cB cJ A a_x xI xH xB vI wY xX yA xY uD uY tJ jJ mY pG pD pE eO wF uT wD qM uM post) args s 0 0 A) (F0 m 54 ls []) := by
  obtain ⟨hx, hb, hr, hml, hown, hts, hlocks, hA, hK, hN, tL, tM, hZL, hTL, hZM, hTM, hZX⟩ := id C0
  intro x1 qL qJ rX dN bD bJ aI uU gF pL qF mX oE pR uF H locs ls hp hP hD hS hl
  unfold bCb at hp
  refine lv_iconst (v := 0) hx hb aQu.2.2.2.2.2.2.2.2.2.1 aCi ?_
  exact ks_X9_orchard_55 C0 x1 0 qL qJ rX dN bD bJ aI uU gF pL qF mX oE pR uF H locs ls hp hP hD hS (lv_sub hl [0, 1] rfl)
def ws_X9_orchard_34 (post : Int32 -> Int32 -> Int32 -> Int32 -> Int32 -> Int32 -> Int32 -> Int32 -> (Nat -> Int32) -> (Nat -> Int32) -> (Nat -> Int32) -> (Nat -> Int32) -> (Nat -> Int32) -> (Nat -> Int32) -> Int32 -> (Nat -> Int32) -> Prop) (qM : Nat -> Int32) (k0 qL qJ rX dN bD bJ aI : Int32) (uU gF pL qF mX oE : Nat -> Int32) (pR : Int32) (uF : Nat -> Int32) : Prop := (k0 = (-1) -> bCb post qM k0 qL qJ rX dN bD bJ aI uU gF pL qF mX oE pR uF) /\ (¬ k0 = (-1) -> bCL (fun r_19 => (r_19 = 0 -> bCb post qM k0 qL qJ rX dN bD bJ aI uU gF pL qF mX oE pR uF) /\ (¬ r_19 = 0 -> aXn post qM k0 1 qL qJ rX dN bD bJ aI uU gF pL qF mX oE pR uF)) qL qJ)
set_option maxHeartbeats 4000000 in
set_option maxRecDepth 100000 in
theorem ks_X9_orchard_34 (C0 : gc aDq (some .int) 4 RX9 (dC, dI) (tyl cI cC cZ cB cJ) A p s m args meth c) : ∀ (k0 qL qJ rX dN bD bJ aI : Int32) (uU gF pL qF mX oE : Nat -> Int32) (pR : Int32) (uF : Nat -> Int32) (H : Heap) (locs : List Loc) (ls : Array Slot), (ws_X9_orchard_34 post qM) k0 qL qJ rX dN bD bJ aI uU gF pL qF mX oE pR uF -> va_P (dC, dI) classes (aKL cI cC cZ cB cJ a_x xI xH xB vI wY xX yA xY uD uY tJ jJ mY pG pD pE eO wF uT wD qL qJ rX qM dN bD bJ aI uU gF pL qF mX oE pR uM uF) H -> va_D A (aKL cI cC cZ cB cJ a_x xI xH xB vI wY xX yA xY uD uY tJ jJ mY pG pD pE eO wF uT wD qL qJ rX qM dN bD bJ aI uU gF pL qF mX oE pR uM uF) -> va_S A s.heap H locs -> lv_has ls 4 [(0, .ref a_x)] -> W p l e rm_X9_orchard s m args below meth c H locs 0 0 (MQ below (q_X9_orchard dC dI cI cC cZ cB cJ A a_x xI xH xB vI wY xX yA xY uD uY tJ jJ mY pG pD pE eO wF uT wD qM uM post) args s 0 0 A) (F0 m 34 ls [.int k0]) := by
  obtain ⟨hx, hb, hr, hml, hown, hts, hlocks, hA, hK, hN, tL, tM, hZL, hTL, hZM, hTM, hZX⟩ := id C0
  intro k0 qL qJ rX dN bD bJ aI uU gF pL qF mX oE pR uF H locs ls hp hP hD hS hl
  unfold ws_X9_orchard_34 at hp
  refine lv_istore_n (lv' := [(1, .int k0), (0, .ref a_x)]) hx hb aT3.2.2.2.2.2.2.2.2.2.2.2.2.2.2.2 rfl hl (by decide) rfl (fun ls hl => ?_)
  refine lv_iload_n hx hb aQu.1 rfl (lv_at hl 0 rfl) ?_
  refine lv_iconst (v := (-1)) hx hb aQu.2.1 aEJ ?_
  refine lv_icmp_eq (tgt := 54) hx hb aQu.2.2.1 (by decide) (fun hc => ?_) (fun hc => ?_)
  · have hp := hp.1 hc
    exact ks_X9_orchard_54 C0 k0 qL qJ rX dN bD bJ aI uU gF pL qF mX oE pR uF H locs ls hp hP hD hS (lv_sub hl [1, 0] rfl)
  · have hp := hp.2 hc
    refine lv_aload_n hx hb aQu.2.2.2.1 rfl (lv_at hl 1 rfl) ?_
    refine va_get (D := (dC, dI)) (ci := 9) (v := .ref xI) (C := RX9) (T := TX9) (N := 9) hx hb hts aC3 hown hK hP 0 rfl rfl 0 (lbz rfl) (hts _ q_3) (fun _ h9 => h9) rfl aQu.2.2.2.2.1 ?_
    have hm := mgk (wc := (wd_X8_isThrough cI cC cZ cB cJ xI uY qL qJ rX)) hP mk_10 12 rfl rfl rfl
    refine yW hP hD hS hA (yS mk_10) (aAi mk_10) hm.1 hm.2 (aAk _) (zW _) (zF (As := []) (rest := []) C0 hP hD hS (yS mk_10) hm.1 (aAl _) 1 8 rfl rfl (c_X8_isThrough l dC dI cI cC cZ cB cJ xI uY H.size qL qJ rX _ hp) q_97 q_100 q_98 q_99 q_5 h_X8_isThrough rfl rfl ⟨lbz rfl, lbz rfl⟩ rfl rfl hl.1 rfl (lv_room (lbz rfl)) aQu.2.2.2.2.2.1 ⟨Nat.zero_le _, Nat.zero_le _⟩) (fun r_19 u H locs hp hP hD hS => ?_)
    have hPD := PDm (ws' := (aKL cI cC cZ cB cJ a_x xI xH xB vI wY xX yA xY uD uY tJ jJ mY pG pD pE eO wF uT wD qL qJ rX qM dN bD bJ aI uU gF pL qF mX oE pR uM uF)) hP hD 12 rfl rfl rfl
    have hP := hPD.1
    have hD := hPD.2
    refine lv_if_eq (tgt := 54) hx hb aQu.2.2.2.2.2.2.1 (by decide) (fun hc => ?_) (fun hc => ?_)
    · have hp := hp.1 hc
      exact ks_X9_orchard_54 C0 k0 qL qJ rX dN bD bJ aI uU gF pL qF mX oE pR uF H locs ls hp hP hD hS (lv_sub hl [1, 0] rfl)
    · have hp := hp.2 hc
      refine lv_iconst (v := 1) hx hb aQu.2.2.2.2.2.2.2.1 aDx ?_
      refine lv_goto (tgt := 55) hx hb aQu.2.2.2.2.2.2.2.2.1 (by decide) ?_
      exact ks_X9_orchard_55 C0 k0 1 qL qJ rX dN bD bJ aI uU gF pL qF mX oE pR uF H locs ls hp hP hD hS (lv_sub hl [1, 0] rfl)
end S_X9_orchard
def wp_X9_orchard (post : Int32 -> Int32 -> Int32 -> Int32 -> Int32 -> Int32 -> Int32 -> Int32 -> (Nat -> Int32) -> (Nat -> Int32) -> (Nat -> Int32) -> (Nat -> Int32) -> (Nat -> Int32) -> (Nat -> Int32) -> Int32 -> (Nat -> Int32) -> Prop) (qL qJ rX : Int32) (qM : Nat -> Int32) (dN bD bJ aI : Int32) (uU gF pL qF mX oE : Nat -> Int32) (pR : Int32) (uF : Nat -> Int32) : Prop := wp_X8_open (fun aRK aJl => (¬ qL = 0 -> wp_X3_readLines (fun r_3 aDB tr_comingFruits_5 aU0 tr_x_7 tr_height_8 tr_worth_9 tr_ripe_10 tr_foot_11 tr_fork_12 => ws_X9_orchard_34 post qM r_3 qL aDB aJl dN bD tr_comingFruits_5 aU0 tr_x_7 tr_height_8 tr_worth_9 tr_ripe_10 tr_foot_11 tr_fork_12 pR uF) aRK aJl qM dN bD bJ aI uU gF pL qF mX oE) /\ (qL = 0 -> ws_X9_orchard_34 post qM 0 qL aRK aJl dN bD bJ aI uU gF pL qF mX oE pR uF)) 76 qL qJ rX
set_option maxHeartbeats 4000000 in
set_option maxRecDepth 100000 in
theorem c_X9_orchard (l : Launch) (dC : Nat -> ClassId) (dI : Nat -> Nat -> Nat) (cI cC cZ cB cJ : ClassId) (a_x xI xH xB vI wY xX yA xY uD uY tJ jJ mY pG pD pE eO wF uT wD sz : Nat) (qL qJ rX : Int32) (qM : Nat -> Int32) (dN bD bJ aI : Int32) (uU gF pL qF mX oE : Nat -> Int32) (pR uM : Int32) (uF : Nat -> Int32) (post : Int32 -> Int32 -> Int32 -> Int32 -> Int32 -> Int32 -> Int32 -> Int32 -> (Nat -> Int32) -> (Nat -> Int32) -> (Nat -> Int32) -> (Nat -> Int32) -> (Nat -> Int32) -> (Nat -> Int32) -> Int32 -> (Nat -> Int32) -> Prop) (hw : wp_X9_orchard post qL qJ rX qM dN bD bJ aI uU gF pL qF mX oE pR uF) : Met l yX9_orchard (gw yX9_orchard aDq 4 (some .int)) rm_X9_orchard (va_Pc [.ref a_x] (gPre (dC, dI) (tyl cI cC cZ cB cJ) (aKL cI cC cZ cB cJ a_x xI xH xB vI wY xX yA xY uD uY tJ jJ mY pG pD pE eO wF uT wD qL qJ rX qM dN bD bJ aI uU gF pL qF mX oE pR uM uF) sz)) (q_X9_orchard dC dI cI cC cZ cB cJ (va_A (aKL cI cC cZ cB cJ a_x xI xH xB vI wY xX yA xY uD uY tJ jJ mY pG pD pE eO wF uT wD qL qJ rX qM dN bD bJ aI uU gF pL qF mX oE pR uM uF) sz) a_x xI xH xB vI wY xX yA xY uD uY tJ jJ mY pG pD pE eO wF uT wD qM uM post) 0 0 (va_A (aKL cI cC cZ cB cJ a_x xI xH xB vI wY xX yA xY uD uY tJ jJ mY pG pD pE eO wF uT wD qL qJ rX qM dN bD bJ aI uU gF pL qF mX oE pR uM uF) sz) := by
  refine aBJ (own := RX9) (dC, dI) (tyl cI cC cZ cB cJ) (aKL cI cC cZ cB cJ a_x xI xH xB vI wY xX yA xY uD uY tJ jJ mY pG pD pE eO wF uT wD qL qJ rX qM dN bD bJ aI uU gF pL qF mX oE pR uM uF) sz [.ref a_x] (fun A => q_X9_orchard dC dI cI cC cZ cB cJ A a_x xI xH xB vI wY xX yA xY uD uY tJ jJ mY pG pD pE eO wF uT wD qM uM post) pn_RX9 rfl (lbz rfl) ?_
  intro p e s m args below meth c A H locs ls C0 hP hD hS hl
  have hl : lv_has ls 4 [(0, .ref a_x)] := hl
  obtain ⟨hx, hb, hr, hml, hown, hts, hlocks, hA, hK, hN, tL, tM, hZL, hTL, hZM, hTM, hZX⟩ := id C0
  have hp := hw
  unfold wp_X9_orchard at hp
  refine lv_aload_n hx hb aT3.1 rfl (lv_at hl 0 rfl) ?_
  refine va_get (D := (dC, dI)) (ci := 9) (v := .ref xI) (C := RX9) (T := TX9) (N := 9) hx hb hts aC3 hown hK hP 0 rfl rfl 0 (lbz rfl) (hts _ q_3) (fun _ h9 => h9) rfl aT3.2.1 ?_
  refine lv_bipush (v := 76) hx hb aT3.2.2.1 bp_76 ?_
  have hm := mgk (wc := (wd_X8_open cI cC cZ cB cJ xI uY qL qJ rX)) hP mk_10 12 rfl rfl rfl
  refine aBn hP hD hS hA (yS mk_10) (aAi mk_10) hm.1 hm.2 (aAk _) (zW _) (zF (As := [.int 76]) (rest := []) C0 hP hD hS (yS mk_10) hm.1 (aAl _) 1 8 rfl rfl (c_X8_open l dC dI cI cC cZ cB cJ xI uY H.size 76 qL qJ rX _ hp) q_69 q_72 q_70 q_71 q_5 h_X8_open rfl rfl ⟨lbz rfl, lbz rfl⟩ rfl rfl hl.1 rfl (lv_room (lbz rfl)) aT3.2.2.2.1 ⟨Nat.zero_le _, Nat.zero_le _⟩) (fun u H locs hp hP hD hS => ?_)
  obtain ⟨aRK, aJl⟩ := u
  have hPD := PDm (ws' := (aKL cI cC cZ cB cJ a_x xI xH xB vI wY xX yA xY uD uY tJ jJ mY pG pD pE eO wF uT wD qL aRK aJl qM dN bD bJ aI uU gF pL qF mX oE pR uM uF)) hP hD 12 rfl rfl rfl
  have hP := hPD.1
  have hD := hPD.2
  refine lv_aload_n hx hb aT3.2.2.2.2.1 rfl (lv_at hl 0 rfl) ?_
  refine va_get (D := (dC, dI)) (ci := 9) (v := .ref xI) (C := RX9) (T := TX9) (N := 9) hx hb hts aC3 hown hK hP 0 rfl rfl 0 (lbz rfl) (hts _ q_3) (fun _ h9 => h9) rfl aT3.2.2.2.2.2.1 ?_
  refine va_get (D := (dC, dI)) (ci := 8) (v := .int qL) (C := RX8) (T := TX8) (N := 4) hx hb hts i_X8 hown hK hP 1 rfl rfl 1 (lbz rfl) (hts _ q_73) (fun _ h9 => h9) rfl aT3.2.2.2.2.2.2.1 ?_
  refine lv_if_ne (tgt := 23) hx hb aT3.2.2.2.2.2.2.2.1 (by decide) (fun hc => ?_) (fun hc => ?_)
  · have hp := hp.1 hc
    refine lv_aload_n hx hb aT3.2.2.2.2.2.2.2.2.2.2.1 rfl (lv_at hl 0 rfl) ?_
    refine va_get (D := (dC, dI)) (ci := 9) (v := .ref vI) (C := RX9) (T := TX9) (N := 9) hx hb hts aC3 hown hK hP 0 rfl rfl 3 (lbz rfl) (hts _ q_74) (fun _ h9 => h9) rfl aT3.2.2.2.2.2.2.2.2.2.2.2.1 ?_
    refine lv_aload_n hx hb aT3.2.2.2.2.2.2.2.2.2.2.2.2.1 rfl (lv_at hl 0 rfl) ?_
    refine va_get (D := (dC, dI)) (ci := 9) (v := .ref xI) (C := RX9) (T := TX9) (N := 9) hx hb hts aC3 hown hK hP 0 rfl rfl 0 (lbz rfl) (hts _ q_3) (fun _ h9 => h9) rfl aT3.2.2.2.2.2.2.2.2.2.2.2.2.2.1 ?_
    have hm := mgk (wc := (aLc cI cC cZ cB cJ xI uY vI tJ jJ mY pG pD pE eO qL aRK aJl qM dN bD bJ aI uU gF pL qF mX oE)) hP mk_13 12 rfl rfl rfl
    refine yW hP hD hS hA (yS mk_13) (aAi mk_13) hm.1 hm.2 (aAk _) (zW _) (zF (As := [.ref xI]) (rest := []) C0 hP hD hS (yS mk_13) hm.1 (aAl _) 3 3 rfl rfl (c_X3_readLines l dC dI cI cC cZ cB cJ xI uY vI tJ jJ mY pG pD pE eO H.size qL aRK aJl qM dN bD bJ aI uU gF pL qF mX oE _ hp) q_75 q_78 q_76 q_77 q_48 h_X3_readLines rfl rfl ⟨lbz rfl, lbz rfl⟩ rfl rfl hl.1 rfl (lv_room (lbz rfl)) aT3.2.2.2.2.2.2.2.2.2.2.2.2.2.2.1 ⟨Nat.zero_le _, Nat.zero_le _⟩) (fun r_3 u H locs hp hP hD hS => ?_)
    obtain ⟨aDB, tr_comingFruits_5, aU0, tr_x_7, tr_height_8, tr_worth_9, tr_ripe_10, tr_foot_11, tr_fork_12⟩ := u
    have hPD := PDm (ws' := (aKL cI cC cZ cB cJ a_x xI xH xB vI wY xX yA xY uD uY tJ jJ mY pG pD pE eO wF uT wD qL aDB aJl qM dN bD tr_comingFruits_5 aU0 tr_x_7 tr_height_8 tr_worth_9 tr_ripe_10 tr_foot_11 tr_fork_12 pR uM uF)) hP hD 12 rfl rfl rfl
    have hP := hPD.1
    have hD := hPD.2
    exact ks_X9_orchard_34 C0 r_3 qL aDB aJl dN bD tr_comingFruits_5 aU0 tr_x_7 tr_height_8 tr_worth_9 tr_ripe_10 tr_foot_11 tr_fork_12 pR uF H locs ls hp hP hD hS (lv_sub hl [0] rfl)
  · have hp := hp.2 hc
    refine lv_iconst (v := 0) hx hb aT3.2.2.2.2.2.2.2.2.1 aCi ?_
    refine lv_goto (tgt := 34) hx hb aT3.2.2.2.2.2.2.2.2.2.1 (by decide) ?_
    exact ks_X9_orchard_34 C0 0 qL aRK aJl dN bD bJ aI uU gF pL qF mX oE pR uF H locs ls hp hP hD hS (lv_sub hl [0] rfl)
abbrev wd_X7_drop (cI cC cZ cB cJ : ClassId) (xO uS tX uR rY tY : Nat) (pQ qI sY uG pY nJ : Int32) : va_W := [(xO, .inr (7, [.ref uS, .ref tX, .ref uR, .ref rY, .ref tY, .int pQ, .int qI, .int sY, .int uG, .int pY, .int nJ]))]
abbrev q_X7_drop (dC : Nat -> ClassId) (dI : Nat -> Nat -> Nat) (cI cC cZ cB cJ : ClassId) (A : Nat -> Prop) (xO uS tX uR rY tY : Nat) (qI sY uG pY nJ : Int32) (post : Int32 -> Prop) : Array Value -> State -> Outcome -> State -> Prop := va_Qv (fun (u : Int32) => post u) (fun u t => gB (dC, dI) (tyl cI cC cZ cB cJ) A (wd_X7_drop cI cC cZ cB cJ xO uS tX uR rY tY u qI sY uG pY nJ) t) A
abbrev rm_X7_drop : Room := { frames := 0, cells := 0, slots := 0, locals := 0 }
def wp_X7_drop (post : Int32 -> Prop) (pQ : Int32) : Prop := post 0
set_option maxHeartbeats 4000000 in
set_option maxRecDepth 100000 in
theorem c_X7_drop (l : Launch) (dC : Nat -> ClassId) (dI : Nat -> Nat -> Nat) (cI cC cZ cB cJ : ClassId) (xO uS tX uR rY tY sz : Nat) (pQ qI sY uG pY nJ : Int32) (post : Int32 -> Prop) (hw : wp_X7_drop post pQ) : Met l yX7_drop (gw yX7_drop cX7_drop 1 none) rm_X7_drop (va_Pc [.ref xO] (gPre (dC, dI) (tyl cI cC cZ cB cJ) (wd_X7_drop cI cC cZ cB cJ xO uS tX uR rY tY pQ qI sY uG pY nJ) sz)) (q_X7_drop dC dI cI cC cZ cB cJ (va_A (wd_X7_drop cI cC cZ cB cJ xO uS tX uR rY tY pQ qI sY uG pY nJ) sz) xO uS tX uR rY tY qI sY uG pY nJ post) 0 0 (va_A (wd_X7_drop cI cC cZ cB cJ xO uS tX uR rY tY pQ qI sY uG pY nJ) sz) := by
  refine aBJ (own := RX7) (dC, dI) (tyl cI cC cZ cB cJ) (wd_X7_drop cI cC cZ cB cJ xO uS tX uR rY tY pQ qI sY uG pY nJ) sz [.ref xO] (fun A => q_X7_drop dC dI cI cC cZ cB cJ A xO uS tX uR rY tY qI sY uG pY nJ post) pn_RX7 rfl (lbz rfl) ?_
  intro p e s m args below meth c A H locs ls C0 hP hD hS hl
  have hl : lv_has ls 1 [(0, .ref xO)] := hl
  obtain ⟨hx, hb, hr, hml, hown, hts, hlocks, hA, hK, hN, tL, tM, hZL, hTL, hZM, hTM, hZX⟩ := id C0
  have hp := hw
  unfold wp_X7_drop at hp
  refine lv_aload_n hx hb eX7_drop_0.1 rfl (lv_at hl 0 rfl) ?_
  refine lv_iconst (v := 0) hx hb eX7_drop_0.2.1 aCi ?_
  refine va_put (D := (dC, dI)) (ci := 7) (v := .int 0) (ty := .int) (C := RX7) (T := TX7) (N := 11) hx hb hts i_X7 tyX7 aLP nmX7 hown hK hP hD hS 0 rfl rfl 5 (lbz rfl) (hts _ q_101) (fun _ h9 => h9) rfl (aLP 5 (lbz rfl)) rfl rfl (lbz rfl) eX7_drop_0.2.2.1 (fun H locs hP hD hS => ?_)
  have hPD := PDw (ws' := (wd_X7_drop cI cC cZ cB cJ xO uS tX uR rY tY 0 qI sY uG pY nJ)) hP hD rfl
  have hP := hPD.1
  have hD := hPD.2
  exact W.vret hx hb hr (fun t ht hW => ⟨⟨0, rfl, hp, by rw [ht]; exact hP, va_K.moved hW.alike hK, hD⟩, hS.F ht⟩) hS.2.2 eX7_drop_0.2.2.2
abbrev wd_X7_hold (cI cC cZ cB cJ : ClassId) (xO uS tX uR rY tY : Nat) (pQ qI sY uG pY nJ : Int32) (tW : Nat -> Int32) : va_W := [(xO, .inr (7, [.ref uS, .ref tX, .ref uR, .ref rY, .ref tY, .int pQ, .int qI, .int sY, .int uG, .int pY, .int nJ])), (tX, .inl (cI, 40, .inl tW))]
abbrev q_X7_hold (dC : Nat -> ClassId) (dI : Nat -> Nat -> Nat) (cI cC cZ cB cJ : ClassId) (A : Nat -> Prop) (xO uS tX uR rY tY : Nat) (pQ qI uG pY nJ : Int32) (post : Int32 -> (Nat -> Int32) -> Prop) : Array Value -> State -> Outcome -> State -> Prop := va_Qv (fun (u : Int32 × (Nat -> Int32)) => post u.1 u.2) (fun u t => gB (dC, dI) (tyl cI cC cZ cB cJ) A (wd_X7_hold cI cC cZ cB cJ xO uS tX uR rY tY pQ qI u.1 uG pY nJ u.2) t) A
abbrev rm_X7_hold : Room := { frames := 0, cells := 0, slots := 0, locals := 0 }
def wp_X7_hold (post : Int32 -> (Nat -> Int32) -> Prop) (p0 sY : Int32) (tW : Nat -> Int32) : Prop := (40 <= sY -> post sY tW) /\ (¬ 40 <= sY -> vp_in sY 40 /\ (∀ v_1 : Int32, v_1 = sY + 1 -> post v_1 (upd tW sY.toNatClampNeg p0)))
set_option maxHeartbeats 4000000 in
set_option maxRecDepth 100000 in
theorem c_X7_hold (l : Launch) (dC : Nat -> ClassId) (dI : Nat -> Nat -> Nat) (cI cC cZ cB cJ : ClassId) (xO uS tX uR rY tY sz : Nat) (p0 pQ qI sY uG pY nJ : Int32) (tW : Nat -> Int32) (post : Int32 -> (Nat -> Int32) -> Prop) (hw : wp_X7_hold post p0 sY tW) : Met l yX7_hold (gw yX7_hold cX7_hold 2 none) rm_X7_hold (va_Pc [.ref xO, .int p0] (gPre (dC, dI) (tyl cI cC cZ cB cJ) (wd_X7_hold cI cC cZ cB cJ xO uS tX uR rY tY pQ qI sY uG pY nJ tW) sz)) (q_X7_hold dC dI cI cC cZ cB cJ (va_A (wd_X7_hold cI cC cZ cB cJ xO uS tX uR rY tY pQ qI sY uG pY nJ tW) sz) xO uS tX uR rY tY pQ qI uG pY nJ post) 0 0 (va_A (wd_X7_hold cI cC cZ cB cJ xO uS tX uR rY tY pQ qI sY uG pY nJ tW) sz) := by
  refine aBJ (own := RX7) (dC, dI) (tyl cI cC cZ cB cJ) (wd_X7_hold cI cC cZ cB cJ xO uS tX uR rY tY pQ qI sY uG pY nJ tW) sz [.ref xO, .int p0] (fun A => q_X7_hold dC dI cI cC cZ cB cJ A xO uS tX uR rY tY pQ qI uG pY nJ post) pn_RX7 rfl (lbz rfl) ?_
  intro p e s m args below meth c A H locs ls C0 hP hD hS hl
  have hl : lv_has ls 2 [(0, .ref xO), (1, .int p0)] := hl
  obtain ⟨hx, hb, hr, hml, hown, hts, hlocks, hA, hK, hN, tL, tM, hZL, hTL, hZM, hTM, hZX⟩ := id C0
  have hp := hw
  unfold wp_X7_hold at hp
  refine lv_aload_n hx hb eX7_hold_0.1 rfl (lv_at hl 0 rfl) ?_
  refine va_get (D := (dC, dI)) (ci := 7) (v := .int sY) (C := RX7) (T := TX7) (N := 11) hx hb hts i_X7 hown hK hP 0 rfl rfl 7 (lbz rfl) (hts _ q_102) (fun _ h9 => h9) rfl eX7_hold_0.2.1 ?_
  refine lv_aload_n hx hb eX7_hold_0.2.2.1 rfl (lv_at hl 0 rfl) ?_
  refine va_get (D := (dC, dI)) (ci := 7) (v := .ref tX) (C := RX7) (T := TX7) (N := 11) hx hb hts i_X7 hown hK hP 0 rfl rfl 1 (lbz rfl) (hts _ q_103) (fun _ h9 => h9) rfl eX7_hold_0.2.2.2.1 ?_
  refine va_alen (v := 40) hx hb hK hP 1 0 rfl rfl rfl eX7_hold_0.2.2.2.2.1 ?_
  refine lv_icmp_ge (tgt := 32) hx hb eX7_hold_0.2.2.2.2.2.1 (by decide) (fun hc => ?_) (fun hc => ?_)
  · have hp := hp.1 hc
    exact W.vret hx hb hr (fun t ht hW => ⟨⟨(sY, tW), rfl, hp, by rw [ht]; exact hP, va_K.moved hW.alike hK, hD⟩, hS.F ht⟩) hS.2.2 eX7_hold_28.2.2
  · have hp := hp.2 hc
    refine lv_aload_n hx hb eX7_hold_0.2.2.2.2.2.2.1 rfl (lv_at hl 0 rfl) ?_
    refine va_get (D := (dC, dI)) (ci := 7) (v := .ref tX) (C := RX7) (T := TX7) (N := 11) hx hb hts i_X7 hown hK hP 0 rfl rfl 1 (lbz rfl) (hts _ q_103) (fun _ h9 => h9) rfl eX7_hold_0.2.2.2.2.2.2.2.1 ?_
    refine lv_aload_n hx hb eX7_hold_0.2.2.2.2.2.2.2.2.1 rfl (lv_at hl 0 rfl) ?_
    refine va_get (D := (dC, dI)) (ci := 7) (v := .int sY) (C := RX7) (T := TX7) (N := 11) hx hb hts i_X7 hown hK hP 0 rfl rfl 7 (lbz rfl) (hts _ q_102) (fun _ h9 => h9) rfl eX7_hold_0.2.2.2.2.2.2.2.2.2.1 ?_
    refine lv_iload_n hx hb eX7_hold_0.2.2.2.2.2.2.2.2.2.2.1 rfl (lv_at hl 1 rfl) ?_
    have hin := hp.1
    have hp := hp.2
    refine va_iast hx hb hK hP hD hS 1 0 rfl rfl hin eX7_hold_0.2.2.2.2.2.2.2.2.2.2.2.1 (fun H locs hP hD hS => ?_)
    have hPD := PDw (ws' := (wd_X7_hold cI cC cZ cB cJ xO uS tX uR rY tY pQ qI sY uG pY nJ (upd tW sY.toNatClampNeg p0))) hP hD rfl
    have hP := hPD.1
    have hD := hPD.2
    refine lv_aload_n hx hb eX7_hold_0.2.2.2.2.2.2.2.2.2.2.2.2.1 rfl (lv_at hl 0 rfl) ?_
    refine lv_dup hx hb eX7_hold_0.2.2.2.2.2.2.2.2.2.2.2.2.2.1 rfl ?_
    refine va_get (D := (dC, dI)) (ci := 7) (v := .int sY) (C := RX7) (T := TX7) (N := 11) hx hb hts i_X7 hown hK hP 0 rfl rfl 7 (lbz rfl) (hts _ q_102) (fun _ h9 => h9) rfl eX7_hold_0.2.2.2.2.2.2.2.2.2.2.2.2.2.2.1 ?_
    refine lv_iconst (v := 1) hx hb eX7_hold_0.2.2.2.2.2.2.2.2.2.2.2.2.2.2.2 aDx ?_
    refine lv_iadd hx hb eX7_hold_28.1 ?_
    refine lv_topi (fun v_1 aFJ => ?_)
    have hp := hp v_1 aFJ
    refine va_put (D := (dC, dI)) (ci := 7) (v := .int v_1) (ty := .int) (C := RX7) (T := TX7) (N := 11) hx hb hts i_X7 tyX7 aLP nmX7 hown hK hP hD hS 0 rfl rfl 7 (lbz rfl) (hts _ q_102) (fun _ h9 => h9) rfl (aLP 7 (lbz rfl)) rfl rfl (lbz rfl) eX7_hold_28.2.1 (fun H locs hP hD hS => ?_)
    have hPD := PDw (ws' := (wd_X7_hold cI cC cZ cB cJ xO uS tX uR rY tY pQ qI v_1 uG pY nJ (upd tW sY.toNatClampNeg p0))) hP hD rfl
    have hP := hPD.1
    have hD := hPD.2
    exact W.vret hx hb hr (fun t ht hW => ⟨⟨(v_1, (upd tW sY.toNatClampNeg p0)), rfl, hp, by rw [ht]; exact hP, va_K.moved hW.alike hK, hD⟩, hS.F ht⟩) hS.2.2 eX7_hold_28.2.2
abbrev wd_X7_emit (cI cC cZ cB cJ : ClassId) (xO uS tX uR rY tY : Nat) (pQ qI sY uG pY nJ : Int32) (uW : Nat -> Int32) : va_W := [(xO, .inr (7, [.ref uS, .ref tX, .ref uR, .ref rY, .ref tY, .int pQ, .int qI, .int sY, .int uG, .int pY, .int nJ])), (tY, .inl (cI, 40, .inl uW))]
abbrev q_X7_emit (dC : Nat -> ClassId) (dI : Nat -> Nat -> Nat) (cI cC cZ cB cJ : ClassId) (A : Nat -> Prop) (xO uS tX uR rY tY : Nat) (pQ sY uG pY nJ : Int32) (post : Int32 -> (Nat -> Int32) -> Prop) : Array Value -> State -> Outcome -> State -> Prop := va_Qv (fun (u : Int32 × (Nat -> Int32)) => post u.1 u.2) (fun u t => gB (dC, dI) (tyl cI cC cZ cB cJ) A (wd_X7_emit cI cC cZ cB cJ xO uS tX uR rY tY pQ u.1 sY uG pY nJ u.2) t) A
abbrev rm_X7_emit : Room := { frames := 0, cells := 0, slots := 0, locals := 0 }
def wp_X7_emit (post : Int32 -> (Nat -> Int32) -> Prop) (p0 qI : Int32) (uW : Nat -> Int32) : Prop := (40 <= qI -> post qI uW) /\ (¬ 40 <= qI -> vp_in qI 40 /\ (∀ v_1 : Int32, v_1 = qI + 1 -> post v_1 (upd uW qI.toNatClampNeg p0)))
set_option maxHeartbeats 4000000 in
set_option maxRecDepth 100000 in
theorem c_X7_emit (l : Launch) (dC : Nat -> ClassId) (dI : Nat -> Nat -> Nat) (cI cC cZ cB cJ : ClassId) (xO uS tX uR rY tY sz : Nat) (p0 pQ qI sY uG pY nJ : Int32) (uW : Nat -> Int32) (post : Int32 -> (Nat -> Int32) -> Prop) (hw : wp_X7_emit post p0 qI uW) : Met l yX7_emit (gw yX7_emit cX7_emit 2 none) rm_X7_emit (va_Pc [.ref xO, .int p0] (gPre (dC, dI) (tyl cI cC cZ cB cJ) (wd_X7_emit cI cC cZ cB cJ xO uS tX uR rY tY pQ qI sY uG pY nJ uW) sz)) (q_X7_emit dC dI cI cC cZ cB cJ (va_A (wd_X7_emit cI cC cZ cB cJ xO uS tX uR rY tY pQ qI sY uG pY nJ uW) sz) xO uS tX uR rY tY pQ sY uG pY nJ post) 0 0 (va_A (wd_X7_emit cI cC cZ cB cJ xO uS tX uR rY tY pQ qI sY uG pY nJ uW) sz) := by
  refine aBJ (own := RX7) (dC, dI) (tyl cI cC cZ cB cJ) (wd_X7_emit cI cC cZ cB cJ xO uS tX uR rY tY pQ qI sY uG pY nJ uW) sz [.ref xO, .int p0] (fun A => q_X7_emit dC dI cI cC cZ cB cJ A xO uS tX uR rY tY pQ sY uG pY nJ post) pn_RX7 rfl (lbz rfl) ?_
  intro p e s m args below meth c A H locs ls C0 hP hD hS hl
  have hl : lv_has ls 2 [(0, .ref xO), (1, .int p0)] := hl
  obtain ⟨hx, hb, hr, hml, hown, hts, hlocks, hA, hK, hN, tL, tM, hZL, hTL, hZM, hTM, hZX⟩ := id C0
  have hp := hw
  unfold wp_X7_emit at hp
  refine lv_aload_n hx hb eX7_emit_0.1 rfl (lv_at hl 0 rfl) ?_
  refine va_get (D := (dC, dI)) (ci := 7) (v := .int qI) (C := RX7) (T := TX7) (N := 11) hx hb hts i_X7 hown hK hP 0 rfl rfl 6 (lbz rfl) (hts _ q_104) (fun _ h9 => h9) rfl eX7_emit_0.2.1 ?_
  refine lv_aload_n hx hb eX7_emit_0.2.2.1 rfl (lv_at hl 0 rfl) ?_
  refine va_get (D := (dC, dI)) (ci := 7) (v := .ref tY) (C := RX7) (T := TX7) (N := 11) hx hb hts i_X7 hown hK hP 0 rfl rfl 4 (lbz rfl) (hts _ q_105) (fun _ h9 => h9) rfl eX7_emit_0.2.2.2.1 ?_
  refine va_alen (v := 40) hx hb hK hP 1 0 rfl rfl rfl eX7_emit_0.2.2.2.2.1 ?_
  refine lv_icmp_ge (tgt := 32) hx hb eX7_emit_0.2.2.2.2.2.1 (by decide) (fun hc => ?_) (fun hc => ?_)
  · have hp := hp.1 hc
    exact W.vret hx hb hr (fun t ht hW => ⟨⟨(qI, uW), rfl, hp, by rw [ht]; exact hP, va_K.moved hW.alike hK, hD⟩, hS.F ht⟩) hS.2.2 eX7_emit_28.2.2
  · have hp := hp.2 hc
    refine lv_aload_n hx hb eX7_emit_0.2.2.2.2.2.2.1 rfl (lv_at hl 0 rfl) ?_
    refine va_get (D := (dC, dI)) (ci := 7) (v := .ref tY) (C := RX7) (T := TX7) (N := 11) hx hb hts i_X7 hown hK hP 0 rfl rfl 4 (lbz rfl) (hts _ q_105) (fun _ h9 => h9) rfl eX7_emit_0.2.2.2.2.2.2.2.1 ?_
    refine lv_aload_n hx hb eX7_emit_0.2.2.2.2.2.2.2.2.1 rfl (lv_at hl 0 rfl) ?_
    refine va_get (D := (dC, dI)) (ci := 7) (v := .int qI) (C := RX7) (T := TX7) (N := 11) hx hb hts i_X7 hown hK hP 0 rfl rfl 6 (lbz rfl) (hts _ q_104) (fun _ h9 => h9) rfl eX7_emit_0.2.2.2.2.2.2.2.2.2.1 ?_
    refine lv_iload_n hx hb eX7_emit_0.2.2.2.2.2.2.2.2.2.2.1 rfl (lv_at hl 1 rfl) ?_
    have hin := hp.1
    have hp := hp.2
    refine va_iast hx hb hK hP hD hS 1 0 rfl rfl hin eX7_emit_0.2.2.2.2.2.2.2.2.2.2.2.1 (fun H locs hP hD hS => ?_)
    have hPD := PDw (ws' := (wd_X7_emit cI cC cZ cB cJ xO uS tX uR rY tY pQ qI sY uG pY nJ (upd uW qI.toNatClampNeg p0))) hP hD rfl
    have hP := hPD.1
    have hD := hPD.2
    refine lv_aload_n hx hb eX7_emit_0.2.2.2.2.2.2.2.2.2.2.2.2.1 rfl (lv_at hl 0 rfl) ?_
    refine lv_dup hx hb eX7_emit_0.2.2.2.2.2.2.2.2.2.2.2.2.2.1 rfl ?_
    refine va_get (D := (dC, dI)) (ci := 7) (v := .int qI) (C := RX7) (T := TX7) (N := 11) hx hb hts i_X7 hown hK hP 0 rfl rfl 6 (lbz rfl) (hts _ q_104) (fun _ h9 => h9) rfl eX7_emit_0.2.2.2.2.2.2.2.2.2.2.2.2.2.2.1 ?_
    refine lv_iconst (v := 1) hx hb eX7_emit_0.2.2.2.2.2.2.2.2.2.2.2.2.2.2.2 aDx ?_
    refine lv_iadd hx hb eX7_emit_28.1 ?_
    refine lv_topi (fun v_1 aFJ => ?_)
    have hp := hp v_1 aFJ
    refine va_put (D := (dC, dI)) (ci := 7) (v := .int v_1) (ty := .int) (C := RX7) (T := TX7) (N := 11) hx hb hts i_X7 tyX7 aLP nmX7 hown hK hP hD hS 0 rfl rfl 6 (lbz rfl) (hts _ q_104) (fun _ h9 => h9) rfl (aLP 6 (lbz rfl)) rfl rfl (lbz rfl) eX7_emit_28.2.1 (fun H locs hP hD hS => ?_)
    have hPD := PDw (ws' := (wd_X7_emit cI cC cZ cB cJ xO uS tX uR rY tY pQ v_1 sY uG pY nJ (upd uW qI.toNatClampNeg p0))) hP hD rfl
    have hP := hPD.1
    have hD := hPD.2
    exact W.vret hx hb hr (fun t ht hW => ⟨⟨(v_1, (upd uW qI.toNatClampNeg p0)), rfl, hp, by rw [ht]; exact hP, va_K.moved hW.alike hK, hD⟩, hS.F ht⟩) hS.2.2 eX7_emit_28.2.2
abbrev aJ4 (cI cC cZ cB cJ : ClassId) (xI uY xO uS tX uR rY tY : Nat) (qL qJ rX : Int32) (qM : Nat -> Int32) (pQ qI sY uG pY nJ : Int32) (uW : Nat -> Int32) : va_W := [(xI, .inr (8, [.ref uY, .int qL, .int qJ, .int rX])), (uY, .inl (cC, 80, .inl qM)), (xO, .inr (7, [.ref uS, .ref tX, .ref uR, .ref rY, .ref tY, .int pQ, .int qI, .int sY, .int uG, .int pY, .int nJ])), (tY, .inl (cI, 40, .inl uW))]
abbrev q_X7_readPlainThing (dC : Nat -> ClassId) (dI : Nat -> Nat -> Nat) (cI cC cZ cB cJ : ClassId) (A : Nat -> Prop) (xI uY xO uS tX uR rY tY : Nat) (qL rX : Int32) (qM : Nat -> Int32) (pQ sY uG pY : Int32) (post : Int32 -> Int32 -> Int32 -> Int32 -> (Nat -> Int32) -> Prop) : Array Value -> State -> Outcome -> State -> Prop := va_Qi (fun (r : Int32) (u : Int32 × Int32 × Int32 × (Nat -> Int32)) => post r u.1 u.2.1 u.2.2.1 u.2.2.2) (fun u t => gB (dC, dI) (tyl cI cC cZ cB cJ) A (aJ4 cI cC cZ cB cJ xI uY xO uS tX uR rY tY qL u.1 rX qM pQ u.2.1 sY uG pY u.2.2.1 u.2.2.2) t) A
abbrev rm_X7_readPlainThing : Room := { frames := 4, cells := 0, slots := 0, locals := 111 }
section S_X7_readPlainThing
variable {p : Program} {l : Launch} {e : Env} {s : State} {m : MethodId} {args : Array Value} {below : List Frame} {meth : Method} {c : Code} {dC : Nat -> ClassId} {dI : Nat -> Nat -> Nat} {cI cC cZ cB cJ : ClassId} {A : Nat -> Prop} {xI uY xO uS tX uR rY tY : Nat} {qL rX : Int32} {qM : Nat -> Int32} {pQ sY uG pY : Int32} {post : Int32 -> Int32 -> Int32 -> Int32 -> (Nat -> Int32) -> Prop}
def ws_X7_readPlainThing_38 (post : Int32 -> Int32 -> Int32 -> Int32 -> (Nat -> Int32) -> Prop) (rX : Int32) (qM : Nat -> Int32) (x2 qJ qI nJ : Int32) (uW : Nat -> Int32) : Prop := wp_X7_emit (fun aUw bA2 => post 1 qJ aUw 0 bA2) x2 qI uW
set_option maxHeartbeats 4000000 in
set_option maxRecDepth 100000 in
theorem ks_X7_readPlainThing_38 (C0 : gc aDX (some .boolean) 4 RX7 (dC, dI) (tyl cI cC cZ cB cJ) A p s m args meth c) : ∀ (x2 qJ qI nJ : Int32) (uW : Nat -> Int32) (H : Heap) (locs : List Loc) (ls : Array Slot), (ws_X7_readPlainThing_38 post rX qM) x2 qJ qI nJ uW -> va_P (dC, dI) classes (aJ4 cI cC cZ cB cJ xI uY xO uS tX uR rY tY qL qJ rX qM pQ qI sY uG pY nJ uW) H -> va_D A (aJ4 cI cC cZ cB cJ xI uY xO uS tX uR rY tY qL qJ rX qM pQ qI sY uG pY nJ uW) -> va_S A s.heap H locs -> lv_has ls 4 [(0, .ref xO), (2, .int x2)] -> W p l e rm_X7_readPlainThing s m args below meth c H locs 0 0 (MQ below (q_X7_readPlainThing dC dI cI cC cZ cB cJ A xI uY xO uS tX uR rY tY qL rX qM pQ sY uG pY post) args s 0 0 A) (F0 m 38 ls []) := by
  obtain ⟨hx, hb, hr, hml, hown, hts, hlocks, hA, hK, hN, tL, tM, hZL, hTL, hZM, hTM, hZX⟩ := id C0
  intro x2 qJ qI nJ uW H locs ls hp hP hD hS hl
  unfold ws_X7_readPlainThing_38 at hp
  refine lv_aload_n hx hb aIN.2.2.2.2.2.2.2.1 rfl (lv_at hl 0 rfl) ?_
  refine lv_iload_n hx hb aIN.2.2.2.2.2.2.2.2.1 rfl (lv_at hl 1 rfl) ?_
  have hm := mgk (wc := (wd_X7_emit cI cC cZ cB cJ xO uS tX uR rY tY pQ qI sY uG pY nJ uW)) hP mk_14 4 rfl rfl rfl
  refine aBn hP hD hS hA (yS mk_14) (aAi mk_14) hm.1 hm.2 (aAk _) (zW _) (zF (As := [.int x2]) (rest := []) C0 hP hD hS (yS mk_14) hm.1 (aAl _) 2 7 rfl rfl (c_X7_emit l dC dI cI cC cZ cB cJ xO uS tX uR rY tY H.size x2 pQ qI sY uG pY nJ uW _ hp) q_107 q_111 q_109 q_110 q_108 h_X7_emit rfl rfl ⟨lbz rfl, lbz rfl⟩ rfl rfl hl.1 rfl (lv_room (lbz rfl)) aIN.2.2.2.2.2.2.2.2.2.1 ⟨Nat.zero_le _, Nat.zero_le _⟩) (fun u H locs hp hP hD hS => ?_)
  obtain ⟨aUw, bA2⟩ := u
  have hPD := PDm (ws' := (aJ4 cI cC cZ cB cJ xI uY xO uS tX uR rY tY qL qJ rX qM pQ aUw sY uG pY nJ bA2)) hP hD 4 rfl rfl rfl
  have hP := hPD.1
  have hD := hPD.2
  refine lv_aload_n hx hb aIN.2.2.2.2.2.2.2.2.2.2.1 rfl (lv_at hl 0 rfl) ?_
  refine lv_iconst (v := 0) hx hb aIN.2.2.2.2.2.2.2.2.2.2.2.1 aCi ?_
  refine va_put (D := (dC, dI)) (ci := 7) (v := .int 0) (ty := .boolean) (C := RX7) (T := TX7) (N := 11) hx hb hts i_X7 tyX7 aLP nmX7 hown hK hP hD hS 2 rfl rfl 10 (lbz rfl) (hts _ q_112) (fun _ h9 => h9) rfl (aLP 10 (lbz rfl)) rfl rfl (lbz rfl) aIN.2.2.2.2.2.2.2.2.2.2.2.2.1 (fun H locs hP hD hS => ?_)
  have hPD := PDw (ws' := (aJ4 cI cC cZ cB cJ xI uY xO uS tX uR rY tY qL qJ rX qM pQ aUw sY uG pY 0 bA2)) hP hD rfl
  have hP := hPD.1
  have hD := hPD.2
  refine lv_iconst (v := 1) hx hb aIN.2.2.2.2.2.2.2.2.2.2.2.2.2.1 aDx ?_
  exact W.zret (v := 1) hx hb hr rfl (fun t ht hW => ⟨⟨1, (qJ, aUw, 0, bA2), rfl, hp, by rw [ht]; exact hP, va_K.moved hW.alike hK, hD⟩, hS.F ht⟩) hS.2.2 aIN.2.2.2.2.2.2.2.2.2.2.2.2.2.2
end S_X7_readPlainThing
def wp_X7_readPlainThing (post : Int32 -> Int32 -> Int32 -> Int32 -> (Nat -> Int32) -> Prop) (qJ rX : Int32) (qM : Nat -> Int32) (qI nJ : Int32) (uW : Nat -> Int32) : Prop := aMm (fun r_1 aCK => (¬ r_1 = (-1) -> ws_X7_readPlainThing_38 post rX qM r_1 aCK qI nJ uW) /\ (r_1 = (-1) -> wp_X8_here (fun r_5 => ∀ v_6 : Int32, v_6 = (r_5.toUInt32 % 65536).toInt32 -> ∀ v_7 : Int32, v_7 = lix v_6 -> (0 <= v_7 -> ∀ v_8 : Int32, v_8 = 1000 + v_7 -> wp_X8_skip (fun bA4 => ws_X7_readPlainThing_38 post rX qM v_8 bA4 qI nJ uW) aCK rX) /\ (¬ 0 <= v_7 -> post 0 aCK qI nJ uW)) aCK rX qM)) 3 qJ rX qM
set_option maxHeartbeats 4000000 in
set_option maxRecDepth 100000 in
theorem c_X7_readPlainThing (l : Launch) (dC : Nat -> ClassId) (dI : Nat -> Nat -> Nat) (cI cC cZ cB cJ : ClassId) (xI uY xO uS tX uR rY tY sz : Nat) (qL qJ rX : Int32) (qM : Nat -> Int32) (pQ qI sY uG pY nJ : Int32) (uW : Nat -> Int32) (post : Int32 -> Int32 -> Int32 -> Int32 -> (Nat -> Int32) -> Prop) (hw : wp_X7_readPlainThing post qJ rX qM qI nJ uW) : Met l aVP (gw aVP aDX 4 (some .boolean)) rm_X7_readPlainThing (va_Pc [.ref xO, .ref xI] (gPre (dC, dI) (tyl cI cC cZ cB cJ) (aJ4 cI cC cZ cB cJ xI uY xO uS tX uR rY tY qL qJ rX qM pQ qI sY uG pY nJ uW) sz)) (q_X7_readPlainThing dC dI cI cC cZ cB cJ (va_A (aJ4 cI cC cZ cB cJ xI uY xO uS tX uR rY tY qL qJ rX qM pQ qI sY uG pY nJ uW) sz) xI uY xO uS tX uR rY tY qL rX qM pQ sY uG pY post) 0 0 (va_A (aJ4 cI cC cZ cB cJ xI uY xO uS tX uR rY tY qL qJ rX qM pQ qI sY uG pY nJ uW) sz) := by
  refine aBJ (own := RX7) (dC, dI) (tyl cI cC cZ cB cJ) (aJ4 cI cC cZ cB cJ xI uY xO uS tX uR rY tY qL qJ rX qM pQ qI sY uG pY nJ uW) sz [.ref xO, .ref xI] (fun A => q_X7_readPlainThing dC dI cI cC cZ cB cJ A xI uY xO uS tX uR rY tY qL rX qM pQ sY uG pY post) pn_RX7 rfl (lbz rfl) ?_
  intro p e s m args below meth c A H locs ls C0 hP hD hS hl
  have hl : lv_has ls 4 [(0, .ref xO), (1, .ref xI)] := hl
  obtain ⟨hx, hb, hr, hml, hown, hts, hlocks, hA, hK, hN, tL, tM, hZL, hTL, hZM, hTM, hZX⟩ := id C0
  have hp := hw
  unfold wp_X7_readPlainThing at hp
  refine lv_aload_n hx hb aIG.1 rfl (lv_at hl 1 rfl) ?_
  refine lv_iconst (v := 3) hx hb aIG.2.1 ic_3 ?_
  have hm := mgk (wc := (aG2 cI cC cZ cB cJ xI uY qL qJ rX qM)) hP mk_1 4 rfl rfl rfl
  refine yW hP hD hS hA (yS mk_1) (aAi mk_1) hm.1 hm.2 (aAk _) (zW _) (zF (As := [.int 3]) (rest := []) C0 hP hD hS (yS mk_1) hm.1 (aAl _) 0 8 rfl rfl (c_X8_readNumber l dC dI cI cC cZ cB cJ xI uY H.size 3 qL qJ rX qM _ hp) q_37 q_106 q_38 q_39 q_5 h_X8_readNumber rfl rfl ⟨lbz rfl, lbz rfl⟩ rfl rfl hl.1 rfl (lv_room (lbz rfl)) aIG.2.2.1 ⟨Nat.zero_le _, Nat.zero_le _⟩) (fun r_1 u H locs hp hP hD hS => ?_)
  obtain ⟨aCK, rfl⟩ : ∃ z, z = u := ⟨_, rfl⟩
  have hPD := PDm (ws' := (aJ4 cI cC cZ cB cJ xI uY xO uS tX uR rY tY qL aCK rX qM pQ qI sY uG pY nJ uW)) hP hD 4 rfl rfl rfl
  have hP := hPD.1
  have hD := hPD.2
  refine lv_istore_n (lv' := [(2, .int r_1), (0, .ref xO), (1, .ref xI)]) hx hb aIG.2.2.2.1 rfl hl (by decide) rfl (fun ls hl => ?_)
  refine lv_iload_n hx hb aIG.2.2.2.2.1 rfl (lv_at hl 0 rfl) ?_
  refine lv_iconst (v := (-1)) hx hb aIG.2.2.2.2.2.1 aEJ ?_
  refine lv_icmp_ne (tgt := 38) hx hb aIG.2.2.2.2.2.2.1 (by decide) (fun hc => ?_) (fun hc => ?_)
  · have hp := hp.1 hc
    exact ks_X7_readPlainThing_38 C0 r_1 aCK qI nJ uW H locs ls hp hP hD hS (lv_sub hl [1, 0] rfl)
  · have hp := hp.2 hc
    obtain ⟨-, -, -, tS, tV, gS1, gS2, -⟩ := id hZX
    refine va_ldcS hx hb hown gS1 aIG.2.2.2.2.2.2.2.1 ?_
    refine lv_aload_n hx hb aIG.2.2.2.2.2.2.2.2.1 rfl (lv_at hl 2 rfl) ?_
    have hm := mgk (wc := (wd_X8_here cI cC cZ cB cJ xI uY qL aCK rX qM)) hP mk_1 4 rfl rfl rfl
    refine yW hP hD hS hA (yS mk_1) (aAi mk_1) hm.1 hm.2 (aAk _) (zW _) (zF (As := []) (rest := [.ref tS]) C0 hP hD hS (yS mk_1) hm.1 (aAl _) 0 8 rfl rfl (c_X8_here l dC dI cI cC cZ cB cJ xI uY H.size qL aCK rX qM _ hp) q_33 q_113 q_34 q_35 q_5 h_X8_here rfl rfl ⟨lbz rfl, lbz rfl⟩ rfl rfl hl.1 rfl (lv_room (lbz rfl)) aIG.2.2.2.2.2.2.2.2.2.1 ⟨Nat.zero_le _, Nat.zero_le _⟩) (fun r_5 u H locs hp hP hD hS => ?_)
    have hPD := PDm (ws' := (aJ4 cI cC cZ cB cJ xI uY xO uS tX uR rY tY qL aCK rX qM pQ qI sY uG pY nJ uW)) hP hD 4 rfl rfl rfl
    have hP := hPD.1
    have hD := hPD.2
    refine lv_i2c hx hb aIG.2.2.2.2.2.2.2.2.2.2.1 rfl ?_
    refine lv_topi (fun v_6 ev_6 => ?_)
    have hp := hp v_6 ev_6
    refine g_stridx (rest := []) (x := v_6) C0 hP hD hS gS1 gS2 q_114 hl.1 (lv_room (lbz rfl)) aIG.2.2.2.2.2.2.2.2.2.2.2.1 (lbz rfl) (lbz rfl) (Nat.zero_le _) (Nat.zero_le _) (fun H locs hP hD hS => ?_)
    refine lv_topi (fun v_7 ev_7 => ?_)
    have hp := hp v_7 ev_7
    refine lv_istore_n (lv' := [(3, .int v_7), (2, .int r_1), (0, .ref xO), (1, .ref xI)]) hx hb aIG.2.2.2.2.2.2.2.2.2.2.2.2.1 rfl hl (by decide) rfl (fun ls hl => ?_)
    refine lv_iload_n hx hb aIG.2.2.2.2.2.2.2.2.2.2.2.2.2.1 rfl (lv_at hl 0 rfl) ?_
    refine lv_if_ge (tgt := 28) hx hb aIG.2.2.2.2.2.2.2.2.2.2.2.2.2.2.1 (by decide) (fun hc => ?_) (fun hc => ?_)
    · have hp := hp.1 hc
      refine lv_sipush (v := 1000) hx hb aIN.2.1 sp_1000 ?_
      refine lv_iload_n hx hb aIN.2.2.1 rfl (lv_at hl 0 rfl) ?_
      refine lv_iadd hx hb aIN.2.2.2.1 ?_
      refine lv_topi (fun v_8 ev_8 => ?_)
      have hp := hp v_8 ev_8
      refine lv_istore_n (lv' := [(2, .int v_8), (3, .int v_7), (0, .ref xO), (1, .ref xI)]) hx hb aIN.2.2.2.2.1 rfl hl (by decide) rfl (fun ls hl => ?_)
      refine lv_aload_n hx hb aIN.2.2.2.2.2.1 rfl (lv_at hl 3 rfl) ?_
      have hm := mgk (wc := (wd_X8_skip cI cC cZ cB cJ xI uY qL aCK rX)) hP mk_15 4 rfl rfl rfl
      refine aBn hP hD hS hA (yS mk_15) (aAi mk_15) hm.1 hm.2 (aAk _) (zW _) (zF (As := []) (rest := []) C0 hP hD hS (yS mk_15) hm.1 (aAl _) 0 8 rfl rfl (c_X8_skip l dC dI cI cC cZ cB cJ xI uY H.size qL aCK rX _ hp) q_29 q_115 q_30 q_31 q_5 h_X8_skip rfl rfl ⟨lbz rfl, lbz rfl⟩ rfl rfl hl.1 rfl (lv_room (lbz rfl)) aIN.2.2.2.2.2.2.1 ⟨Nat.zero_le _, Nat.zero_le _⟩) (fun u H locs hp hP hD hS => ?_)
      obtain ⟨bA4, rfl⟩ : ∃ z, z = u := ⟨_, rfl⟩
      have hPD := PDm (ws' := (aJ4 cI cC cZ cB cJ xI uY xO uS tX uR rY tY qL bA4 rX qM pQ qI sY uG pY nJ uW)) hP hD 4 rfl rfl rfl
      have hP := hPD.1
      have hD := hPD.2
      exact ks_X7_readPlainThing_38 C0 v_8 bA4 qI nJ uW H locs ls hp hP hD hS (lv_sub hl [2, 0] rfl)
    · have hp := hp.2 hc
      refine lv_iconst (v := 0) hx hb aIG.2.2.2.2.2.2.2.2.2.2.2.2.2.2.2 aCi ?_
      exact W.zret (v := 0) hx hb hr rfl (fun t ht hW => ⟨⟨0, (aCK, qI, nJ, uW), rfl, hp, by rw [ht]; exact hP, va_K.moved hW.alike hK, hD⟩, hS.F ht⟩) hS.2.2 aIN.1
abbrev aMu (cI cC cZ cB cJ : ClassId) (xI uY xO uS tX uR rY tY : Nat) (qL qJ rX : Int32) (qM : Nat -> Int32) (pQ qI sY uG pY nJ : Int32) (tW uW : Nat -> Int32) : va_W := [(xI, .inr (8, [.ref uY, .int qL, .int qJ, .int rX])), (uY, .inl (cC, 80, .inl qM)), (xO, .inr (7, [.ref uS, .ref tX, .ref uR, .ref rY, .ref tY, .int pQ, .int qI, .int sY, .int uG, .int pY, .int nJ])), (tX, .inl (cI, 40, .inl tW)), (tY, .inl (cI, 40, .inl uW))]
abbrev q_X7_readThing (dC : Nat -> ClassId) (dI : Nat -> Nat -> Nat) (cI cC cZ cB cJ : ClassId) (A : Nat -> Prop) (xI uY xO uS tX uR rY tY : Nat) (qL rX : Int32) (qM : Nat -> Int32) (pQ : Int32) (post : Int32 -> Int32 -> Int32 -> Int32 -> Int32 -> Int32 -> Int32 -> (Nat -> Int32) -> (Nat -> Int32) -> Prop) : Array Value -> State -> Outcome -> State -> Prop := va_Qi (fun (r : Int32) (u : Int32 × Int32 × Int32 × Int32 × Int32 × Int32 × (Nat -> Int32) × (Nat -> Int32)) => post r u.1 u.2.1 u.2.2.1 u.2.2.2.1 u.2.2.2.2.1 u.2.2.2.2.2.1 u.2.2.2.2.2.2.1 u.2.2.2.2.2.2.2) (fun u t => gB (dC, dI) (tyl cI cC cZ cB cJ) A (aMu cI cC cZ cB cJ xI uY xO uS tX uR rY tY qL u.1 rX qM pQ u.2.1 u.2.2.1 u.2.2.2.1 u.2.2.2.2.1 u.2.2.2.2.2.1 u.2.2.2.2.2.2.1 u.2.2.2.2.2.2.2) t) A
abbrev rm_X7_readThing : Room := { frames := 5, cells := 0, slots := 0, locals := 134 }
section S_X7_readThing
variable {p : Program} {l : Launch} {e : Env} {s : State} {m : MethodId} {args : Array Value} {below : List Frame} {meth : Method} {c : Code} {dC : Nat -> ClassId} {dI : Nat -> Nat -> Nat} {cI cC cZ cB cJ : ClassId} {A : Nat -> Prop} {xI uY xO uS tX uR rY tY : Nat} {qL rX : Int32} {qM : Nat -> Int32} {pQ : Int32} {post : Int32 -> Int32 -> Int32 -> Int32 -> Int32 -> Int32 -> Int32 -> (Nat -> Int32) -> (Nat -> Int32) -> Prop}
def ws_X7_readThing_78 (post : Int32 -> Int32 -> Int32 -> Int32 -> Int32 -> Int32 -> Int32 -> (Nat -> Int32) -> (Nat -> Int32) -> Prop) (rX : Int32) (qM : Nat -> Int32) (qJ qI sY uG pY nJ : Int32) (tW uW : Nat -> Int32) : Prop := wp_X8_skip (fun tx_place_12 => post 1 tx_place_12 qI sY uG pY nJ tW uW) qJ rX
set_option maxHeartbeats 4000000 in
set_option maxRecDepth 100000 in
theorem ks_X7_readThing_78 (C0 : gc aDQ (some .boolean) 3 RX7 (dC, dI) (tyl cI cC cZ cB cJ) A p s m args meth c) : ∀ (qJ qI sY uG pY nJ : Int32) (tW uW : Nat -> Int32) (H : Heap) (locs : List Loc) (ls : Array Slot), (ws_X7_readThing_78 post rX qM) qJ qI sY uG pY nJ tW uW -> va_P (dC, dI) classes (aMu cI cC cZ cB cJ xI uY xO uS tX uR rY tY qL qJ rX qM pQ qI sY uG pY nJ tW uW) H -> va_D A (aMu cI cC cZ cB cJ xI uY xO uS tX uR rY tY qL qJ rX qM pQ qI sY uG pY nJ tW uW) -> va_S A s.heap H locs -> lv_has ls 3 [(1, .ref xI)] -> W p l e rm_X7_readThing s m args below meth c H locs 0 0 (MQ below (q_X7_readThing dC dI cI cC cZ cB cJ A xI uY xO uS tX uR rY tY qL rX qM pQ post) args s 0 0 A) (F0 m 78 ls []) := by
  obtain ⟨hx, hb, hr, hml, hown, hts, hlocks, hA, hK, hN, tL, tM, hZL, hTL, hZM, hTM, hZX⟩ := id C0
  intro qJ qI sY uG pY nJ tW uW H locs ls hp hP hD hS hl
  unfold ws_X7_readThing_78 at hp
  refine lv_aload_n hx hb aMi.2.2.2.2.2.2.2.2.2.2.2.2.1 rfl (lv_at hl 0 rfl) ?_
  have hm := mgk (wc := (wd_X8_skip cI cC cZ cB cJ xI uY qL qJ rX)) hP mk_16 5 rfl rfl rfl
  refine aBn hP hD hS hA (yS mk_16) (aAi mk_16) hm.1 hm.2 (aAk _) (zW _) (zF (As := []) (rest := []) C0 hP hD hS (yS mk_16) hm.1 (aAl _) 0 8 rfl rfl (c_X8_skip l dC dI cI cC cZ cB cJ xI uY H.size qL qJ rX _ hp) q_29 q_115 q_30 q_31 q_5 h_X8_skip rfl rfl ⟨lbz rfl, lbz rfl⟩ rfl rfl hl.1 rfl (lv_room (lbz rfl)) aMi.2.2.2.2.2.2.2.2.2.2.2.2.2.1 ⟨Nat.zero_le _, Nat.zero_le _⟩) (fun u H locs hp hP hD hS => ?_)
  obtain ⟨tx_place_12, rfl⟩ : ∃ z, z = u := ⟨_, rfl⟩
  have hPD := PDm (ws' := (aMu cI cC cZ cB cJ xI uY xO uS tX uR rY tY qL tx_place_12 rX qM pQ qI sY uG pY nJ tW uW)) hP hD 5 rfl rfl rfl
  have hP := hPD.1
  have hD := hPD.2
  refine lv_iconst (v := 1) hx hb aMi.2.2.2.2.2.2.2.2.2.2.2.2.2.2.1 aDx ?_
  exact W.zret (v := 1) hx hb hr rfl (fun t ht hW => ⟨⟨1, (tx_place_12, qI, sY, uG, pY, nJ, tW, uW), rfl, hp, by rw [ht]; exact hP, va_K.moved hW.alike hK, hD⟩, hS.F ht⟩) hS.2.2 aMi.2.2.2.2.2.2.2.2.2.2.2.2.2.2.2
end S_X7_readThing
def wp_X7_readThing (post : Int32 -> Int32 -> Int32 -> Int32 -> Int32 -> Int32 -> Int32 -> (Nat -> Int32) -> (Nat -> Int32) -> Prop) (qJ rX : Int32) (qM : Nat -> Int32) (qI sY uG pY nJ : Int32) (tW uW : Nat -> Int32) : Prop := wp_X8_here (fun r_1 => (¬ r_1 = 45 -> (¬ r_1 = 40 -> wp_X7_readPlainThing (fun r_2 tx_place_3 ru_drafted_4 ru_wantsThing_5 ru_draft_6 => narrow .boolean (.int r_2) = .int r_2 /\ post r_2 tx_place_3 ru_drafted_4 sY uG pY ru_wantsThing_5 tW ru_draft_6) qJ rX qM qI nJ uW) /\ (r_1 = 40 -> (uG < 4 -> ∀ v_7 : Int32, v_7 = uG + 1 -> ∀ v_8 : Int32, v_8 = 1 <<< (v_7 &&& 31) -> ∀ v_9 : Int32, v_9 = pY &&& (v_8 ^^^ (-1)) -> wp_X7_hold (fun ru_waits_10 aVL => ws_X7_readThing_78 post rX qM qJ qI ru_waits_10 v_7 v_9 nJ aVL uW) r_1 sY tW) /\ (¬ uG < 4 -> post 0 qJ qI sY uG pY nJ tW uW))) /\ (r_1 = 45 -> wp_X7_hold (fun ru_waits_13 ru_waiting_14 => ws_X7_readThing_78 post rX qM qJ qI ru_waits_13 uG pY nJ ru_waiting_14 uW) 256 sY tW)) qJ rX qM
set_option maxHeartbeats 4000000 in
set_option maxRecDepth 100000 in
theorem c_X7_readThing (l : Launch) (dC : Nat -> ClassId) (dI : Nat -> Nat -> Nat) (cI cC cZ cB cJ : ClassId) (xI uY xO uS tX uR rY tY sz : Nat) (qL qJ rX : Int32) (qM : Nat -> Int32) (pQ qI sY uG pY nJ : Int32) (tW uW : Nat -> Int32) (post : Int32 -> Int32 -> Int32 -> Int32 -> Int32 -> Int32 -> Int32 -> (Nat -> Int32) -> (Nat -> Int32) -> Prop) (hw : wp_X7_readThing post qJ rX qM qI sY uG pY nJ tW uW) : Met l yX7_readThing (gw yX7_readThing aDQ 3 (some .boolean)) rm_X7_readThing (va_Pc [.ref xO, .ref xI] (gPre (dC, dI) (tyl cI cC cZ cB cJ) (aMu cI cC cZ cB cJ xI uY xO uS tX uR rY tY qL qJ rX qM pQ qI sY uG pY nJ tW uW) sz)) (q_X7_readThing dC dI cI cC cZ cB cJ (va_A (aMu cI cC cZ cB cJ xI uY xO uS tX uR rY tY qL qJ rX qM pQ qI sY uG pY nJ tW uW) sz) xI uY xO uS tX uR rY tY qL rX qM pQ post) 0 0 (va_A (aMu cI cC cZ cB cJ xI uY xO uS tX uR rY tY qL qJ rX qM pQ qI sY uG pY nJ tW uW) sz) := by
  refine aBJ (own := RX7) (dC, dI) (tyl cI cC cZ cB cJ) (aMu cI cC cZ cB cJ xI uY xO uS tX uR rY tY qL qJ rX qM pQ qI sY uG pY nJ tW uW) sz [.ref xO, .ref xI] (fun A => q_X7_readThing dC dI cI cC cZ cB cJ A xI uY xO uS tX uR rY tY qL rX qM pQ post) pn_RX7 rfl (lbz rfl) ?_
  intro p e s m args below meth c A H locs ls C0 hP hD hS hl
  have hl : lv_has ls 3 [(0, .ref xO), (1, .ref xI)] := hl
  obtain ⟨hx, hb, hr, hml, hown, hts, hlocks, hA, hK, hN, tL, tM, hZL, hTL, hZM, hTM, hZX⟩ := id C0
  have hp := hw
  unfold wp_X7_readThing at hp
  refine lv_aload_n hx hb aOT.1 rfl (lv_at hl 1 rfl) ?_
  have hm := mgk (wc := (wd_X8_here cI cC cZ cB cJ xI uY qL qJ rX qM)) hP mk_17 5 rfl rfl rfl
  refine yW hP hD hS hA (yS mk_17) (aAi mk_17) hm.1 hm.2 (aAk _) (zW _) (zF (As := []) (rest := []) C0 hP hD hS (yS mk_17) hm.1 (aAl _) 0 8 rfl rfl (c_X8_here l dC dI cI cC cZ cB cJ xI uY H.size qL qJ rX qM _ hp) q_33 q_113 q_34 q_35 q_5 h_X8_here rfl rfl ⟨lbz rfl, lbz rfl⟩ rfl rfl hl.1 rfl (lv_room (lbz rfl)) aOT.2.1 ⟨Nat.zero_le _, Nat.zero_le _⟩) (fun r_1 u H locs hp hP hD hS => ?_)
  have hPD := PDm (ws' := (aMu cI cC cZ cB cJ xI uY xO uS tX uR rY tY qL qJ rX qM pQ qI sY uG pY nJ tW uW)) hP hD 5 rfl rfl rfl
  have hP := hPD.1
  have hD := hPD.2
  refine lv_istore_n (lv' := [(2, .int r_1), (0, .ref xO), (1, .ref xI)]) hx hb aOT.2.2.1 rfl hl (by decide) rfl (fun ls hl => ?_)
  refine lv_iload_n hx hb aOT.2.2.2.1 rfl (lv_at hl 0 rfl) ?_
  refine lv_bipush (v := 45) hx hb aOT.2.2.2.2.1 bp_45 ?_
  refine lv_icmp_ne (tgt := 21) hx hb aOT.2.2.2.2.2.1 (by decide) (fun hc => ?_) (fun hc => ?_)
  · have hp := hp.1 hc
    refine lv_iload_n hx hb aOT.2.2.2.2.2.2.2.2.2.2.1 rfl (lv_at hl 0 rfl) ?_
    refine lv_bipush (v := 40) hx hb aOT.2.2.2.2.2.2.2.2.2.2.2.1 bp_40 ?_
    refine lv_icmp_ne (tgt := 72) hx hb aOT.2.2.2.2.2.2.2.2.2.2.2.2.1 (by decide) (fun hc => ?_) (fun hc => ?_)
    · have hp := hp.1 hc
      refine lv_aload_n hx hb aMi.2.2.2.2.2.2.2.2.1 rfl (lv_at hl 1 rfl) ?_
      refine lv_aload_n hx hb aMi.2.2.2.2.2.2.2.2.2.1 rfl (lv_at hl 2 rfl) ?_
      have hm := mgk (wc := (aJ4 cI cC cZ cB cJ xI uY xO uS tX uR rY tY qL qJ rX qM pQ qI sY uG pY nJ uW)) hP mk_18 5 rfl rfl rfl
      refine yW hP hD hS hA (yS mk_18) (aAi mk_18) hm.1 hm.2 (aAk _) (zW _) (zF (As := [.ref xI]) (rest := []) C0 hP hD hS (yS mk_18) hm.1 (aAl _) 2 7 rfl rfl (c_X7_readPlainThing l dC dI cI cC cZ cB cJ xI uY xO uS tX uR rY tY H.size qL qJ rX qM pQ qI sY uG pY nJ uW _ hp) q_116 q_119 q_117 q_118 q_108 h_X7_readPlainThing rfl rfl ⟨lbz rfl, lbz rfl⟩ rfl rfl hl.1 rfl (lv_room (lbz rfl)) aMi.2.2.2.2.2.2.2.2.2.2.1 ⟨Nat.zero_le _, Nat.zero_le _⟩) (fun r_2 u H locs hp hP hD hS => ?_)
      obtain ⟨tx_place_3, ru_drafted_4, ru_wantsThing_5, ru_draft_6⟩ := u
      have hPD := PDm (ws' := (aMu cI cC cZ cB cJ xI uY xO uS tX uR rY tY qL tx_place_3 rX qM pQ ru_drafted_4 sY uG pY ru_wantsThing_5 tW ru_draft_6)) hP hD 5 rfl rfl rfl
      have hP := hPD.1
      have hD := hPD.2
      have hnz := hp.1
      have hp := hp.2
      exact W.zret (v := r_2) hx hb hr hnz (fun t ht hW => ⟨⟨r_2, (tx_place_3, ru_drafted_4, sY, uG, pY, ru_wantsThing_5, tW, ru_draft_6), rfl, hp, by rw [ht]; exact hP, va_K.moved hW.alike hK, hD⟩, hS.F ht⟩) hS.2.2 aMi.2.2.2.2.2.2.2.2.2.2.2.1
    · have hp := hp.2 hc
      refine lv_aload_n hx hb aOT.2.2.2.2.2.2.2.2.2.2.2.2.2.1 rfl (lv_at hl 1 rfl) ?_
      refine va_get (D := (dC, dI)) (ci := 7) (v := .int uG) (C := RX7) (T := TX7) (N := 11) hx hb hts i_X7 hown hK hP 2 rfl rfl 8 (lbz rfl) (hts _ q_120) (fun _ h9 => h9) rfl aOT.2.2.2.2.2.2.2.2.2.2.2.2.2.2.1 ?_
      refine lv_iconst (v := 4) hx hb aOT.2.2.2.2.2.2.2.2.2.2.2.2.2.2.2 ic_4 ?_
      refine lv_icmp_lt (tgt := 37) hx hb aMh.1 (by decide) (fun hc => ?_) (fun hc => ?_)
      · have hp := hp.1 hc
        refine lv_aload_n hx hb aMh.2.2.2.1 rfl (lv_at hl 1 rfl) ?_
        refine lv_dup hx hb aMh.2.2.2.2.1 rfl ?_
        refine va_get (D := (dC, dI)) (ci := 7) (v := .int uG) (C := RX7) (T := TX7) (N := 11) hx hb hts i_X7 hown hK hP 2 rfl rfl 8 (lbz rfl) (hts _ q_120) (fun _ h9 => h9) rfl aMh.2.2.2.2.2.1 ?_
        refine lv_iconst (v := 1) hx hb aMh.2.2.2.2.2.2.1 aDx ?_
        refine lv_iadd hx hb aMh.2.2.2.2.2.2.2.1 ?_
        refine lv_topi (fun v_7 ev_7 => ?_)
        have hp := hp v_7 ev_7
        refine va_put (D := (dC, dI)) (ci := 7) (v := .int v_7) (ty := .int) (C := RX7) (T := TX7) (N := 11) hx hb hts i_X7 tyX7 aLP nmX7 hown hK hP hD hS 2 rfl rfl 8 (lbz rfl) (hts _ q_120) (fun _ h9 => h9) rfl (aLP 8 (lbz rfl)) rfl rfl (lbz rfl) aMh.2.2.2.2.2.2.2.2.1 (fun H locs hP hD hS => ?_)
        have hPD := PDw (ws' := (aMu cI cC cZ cB cJ xI uY xO uS tX uR rY tY qL qJ rX qM pQ qI sY v_7 pY nJ tW uW)) hP hD rfl
        have hP := hPD.1
        have hD := hPD.2
        refine lv_aload_n hx hb aMh.2.2.2.2.2.2.2.2.2.1 rfl (lv_at hl 1 rfl) ?_
        refine lv_dup hx hb aMh.2.2.2.2.2.2.2.2.2.2.1 rfl ?_
        refine va_get (D := (dC, dI)) (ci := 7) (v := .int pY) (C := RX7) (T := TX7) (N := 11) hx hb hts i_X7 hown hK hP 2 rfl rfl 9 (lbz rfl) (hts _ q_121) (fun _ h9 => h9) rfl aMh.2.2.2.2.2.2.2.2.2.2.2.1 ?_
        refine lv_iconst (v := 1) hx hb aMh.2.2.2.2.2.2.2.2.2.2.2.2.1 aDx ?_
        refine lv_aload_n hx hb aMh.2.2.2.2.2.2.2.2.2.2.2.2.2.1 rfl (lv_at hl 1 rfl) ?_
        refine va_get (D := (dC, dI)) (ci := 7) (v := .int v_7) (C := RX7) (T := TX7) (N := 11) hx hb hts i_X7 hown hK hP 2 rfl rfl 8 (lbz rfl) (hts _ q_120) (fun _ h9 => h9) rfl aMh.2.2.2.2.2.2.2.2.2.2.2.2.2.2.1 ?_
        refine lv_ishl hx hb aMh.2.2.2.2.2.2.2.2.2.2.2.2.2.2.2 ?_
        refine lv_topi (fun v_8 ev_8 => ?_)
        have hp := hp v_8 ev_8
        refine lv_iconst (v := (-1)) hx hb aMi.1 aEJ ?_
        refine lv_ixor hx hb aMi.2.1 ?_
        refine lv_iand hx hb aMi.2.2.1 ?_
        refine lv_topi (fun v_9 ev_9 => ?_)
        have hp := hp v_9 ev_9
        refine va_put (D := (dC, dI)) (ci := 7) (v := .int v_9) (ty := .int) (C := RX7) (T := TX7) (N := 11) hx hb hts i_X7 tyX7 aLP nmX7 hown hK hP hD hS 2 rfl rfl 9 (lbz rfl) (hts _ q_121) (fun _ h9 => h9) rfl (aLP 9 (lbz rfl)) rfl rfl (lbz rfl) aMi.2.2.2.1 (fun H locs hP hD hS => ?_)
        have hPD := PDw (ws' := (aMu cI cC cZ cB cJ xI uY xO uS tX uR rY tY qL qJ rX qM pQ qI sY v_7 v_9 nJ tW uW)) hP hD rfl
        have hP := hPD.1
        have hD := hPD.2
        refine lv_aload_n hx hb aMi.2.2.2.2.1 rfl (lv_at hl 1 rfl) ?_
        refine lv_iload_n hx hb aMi.2.2.2.2.2.1 rfl (lv_at hl 0 rfl) ?_
        have hm := mgk (wc := (wd_X7_hold cI cC cZ cB cJ xO uS tX uR rY tY pQ qI sY v_7 v_9 nJ tW)) hP mk_19 5 rfl rfl rfl
        refine aBn hP hD hS hA (yS mk_19) (aAi mk_19) hm.1 hm.2 (aAk _) (zW _) (zF (As := [.int r_1]) (rest := []) C0 hP hD hS (yS mk_19) hm.1 (aAl _) 2 7 rfl rfl (c_X7_hold l dC dI cI cC cZ cB cJ xO uS tX uR rY tY H.size r_1 pQ qI sY v_7 v_9 nJ tW _ hp) q_122 q_125 q_123 q_124 q_108 h_X7_hold rfl rfl ⟨lbz rfl, lbz rfl⟩ rfl rfl hl.1 rfl (lv_room (lbz rfl)) aMi.2.2.2.2.2.2.1 ⟨Nat.zero_le _, Nat.zero_le _⟩) (fun u H locs hp hP hD hS => ?_)
        obtain ⟨ru_waits_10, aVL⟩ := u
        have hPD := PDm (ws' := (aMu cI cC cZ cB cJ xI uY xO uS tX uR rY tY qL qJ rX qM pQ qI ru_waits_10 v_7 v_9 nJ aVL uW)) hP hD 5 rfl rfl rfl
        have hP := hPD.1
        have hD := hPD.2
        refine lv_goto (tgt := 78) hx hb aMi.2.2.2.2.2.2.2.1 (by decide) ?_
        exact ks_X7_readThing_78 C0 qJ qI ru_waits_10 v_7 v_9 nJ aVL uW H locs ls hp hP hD hS (lv_sub hl [2] rfl)
      · have hp := hp.2 hc
        refine lv_iconst (v := 0) hx hb aMh.2.1 aCi ?_
        exact W.zret (v := 0) hx hb hr rfl (fun t ht hW => ⟨⟨0, (qJ, qI, sY, uG, pY, nJ, tW, uW), rfl, hp, by rw [ht]; exact hP, va_K.moved hW.alike hK, hD⟩, hS.F ht⟩) hS.2.2 aMh.2.2.1
  · have hp := hp.2 hc
    refine lv_aload_n hx hb aOT.2.2.2.2.2.2.1 rfl (lv_at hl 1 rfl) ?_
    refine lv_sipush (v := 256) hx hb aOT.2.2.2.2.2.2.2.1 sp_256 ?_
    have hm := mgk (wc := (wd_X7_hold cI cC cZ cB cJ xO uS tX uR rY tY pQ qI sY uG pY nJ tW)) hP mk_19 5 rfl rfl rfl
    refine aBn hP hD hS hA (yS mk_19) (aAi mk_19) hm.1 hm.2 (aAk _) (zW _) (zF (As := [.int 256]) (rest := []) C0 hP hD hS (yS mk_19) hm.1 (aAl _) 2 7 rfl rfl (c_X7_hold l dC dI cI cC cZ cB cJ xO uS tX uR rY tY H.size 256 pQ qI sY uG pY nJ tW _ hp) q_122 q_125 q_123 q_124 q_108 h_X7_hold rfl rfl ⟨lbz rfl, lbz rfl⟩ rfl rfl hl.1 rfl (lv_room (lbz rfl)) aOT.2.2.2.2.2.2.2.2.1 ⟨Nat.zero_le _, Nat.zero_le _⟩) (fun u H locs hp hP hD hS => ?_)
    obtain ⟨ru_waits_13, ru_waiting_14⟩ := u
    have hPD := PDm (ws' := (aMu cI cC cZ cB cJ xI uY xO uS tX uR rY tY qL qJ rX qM pQ qI ru_waits_13 uG pY nJ ru_waiting_14 uW)) hP hD 5 rfl rfl rfl
    have hP := hPD.1
    have hD := hPD.2
    refine lv_goto (tgt := 78) hx hb aOT.2.2.2.2.2.2.2.2.2.1 (by decide) ?_
    exact ks_X7_readThing_78 C0 qJ qI ru_waits_13 uG pY nJ ru_waiting_14 uW H locs ls hp hP hD hS (lv_sub hl [2] rfl)
abbrev wd_X7_strength (cI cC cZ cB cJ : ClassId) : va_W := []
abbrev q_X7_strength (dC : Nat -> ClassId) (dI : Nat -> Nat -> Nat) (cI cC cZ cB cJ : ClassId) (A : Nat -> Prop) (post : Int32 -> Prop) : Array Value -> State -> Outcome -> State -> Prop := va_Qi (fun (r : Int32) (u : Unit) => post r) (fun u t => gB (dC, dI) (tyl cI cC cZ cB cJ) A (wd_X7_strength cI cC cZ cB cJ) t) A
abbrev rm_X7_strength : Room := { frames := 0, cells := 0, slots := 0, locals := 0 }
def wp_X7_strength (post : Int32 -> Prop) (p0 : Int32) : Prop := (p0 = 42 -> post 3) /\ (p0 = 43 -> post 2) /\ (p0 = 45 -> post 2) /\ (p0 = 47 -> post 3) /\ (p0 = 60 -> post 1) /\ (p0 = 61 -> post 1) /\ (p0 = 62 -> post 1) /\ (p0 = 256 -> post 4) /\ (¬ p0 = 42 -> ¬ p0 = 43 -> ¬ p0 = 45 -> ¬ p0 = 47 -> ¬ p0 = 60 -> ¬ p0 = 61 -> ¬ p0 = 62 -> ¬ p0 = 256 -> post 0)
set_option maxHeartbeats 4000000 in
set_option maxRecDepth 100000 in
theorem c_X7_strength (l : Launch) (dC : Nat -> ClassId) (dI : Nat -> Nat -> Nat) (cI cC cZ cB cJ : ClassId) (sz : Nat) (p0 : Int32) (post : Int32 -> Prop) (hw : wp_X7_strength post p0) : Met l yX7_strength (gw yX7_strength bA8 1 (some .int)) rm_X7_strength (va_Pc [.int p0] (gPre (dC, dI) (tyl cI cC cZ cB cJ) (wd_X7_strength cI cC cZ cB cJ) sz)) (q_X7_strength dC dI cI cC cZ cB cJ (va_A (wd_X7_strength cI cC cZ cB cJ) sz) post) 0 0 (va_A (wd_X7_strength cI cC cZ cB cJ) sz) := by
  refine aBJ (own := RX7) (dC, dI) (tyl cI cC cZ cB cJ) (wd_X7_strength cI cC cZ cB cJ) sz [.int p0] (fun A => q_X7_strength dC dI cI cC cZ cB cJ A post) pn_RX7 rfl (lbz rfl) ?_
  intro p e s m args below meth c A H locs ls C0 hP hD hS hl
  have hl : lv_has ls 1 [(0, .int p0)] := hl
  obtain ⟨hx, hb, hr, hml, hown, hts, hlocks, hA, hK, hN, tL, tM, hZL, hTL, hZM, hTM, hZX⟩ := id C0
  have hp := hw
  unfold wp_X7_strength at hp
  refine lv_iload_n hx hb aG3.1 rfl (lv_at hl 0 rfl) ?_
  by_cases hc0 : p0 = 42
  · have hp := hp.1 hc0
    refine lv_lookup (tgt := 80) hx hb aG3.2.1 (by decide) (by first | (rw [hc0]; done) | (rw [hc0]; rfl)) (by decide) ?_
    refine lv_iconst (v := 3) hx hb aG3.2.2.2.2.2.2.1 ic_3 ?_
    exact W.iret (v := 3) hx hb hr (fun t ht hW => ⟨⟨3, (), rfl, hp, by rw [ht]; exact hP, va_K.moved hW.alike hK, hD⟩, hS.F ht⟩) hS.2.2 aG3.2.2.2.2.2.2.2.1
  by_cases hc1 : p0 = 43
  · have hp := hp.2.1 hc1
    refine lv_lookup (tgt := 78) hx hb aG3.2.1 (by decide) (by first | (rw [hc1]; done) | (rw [hc1]; rfl)) (by decide) ?_
    refine lv_iconst (v := 2) hx hb aG3.2.2.2.2.1 ic_2 ?_
    exact W.iret (v := 2) hx hb hr (fun t ht hW => ⟨⟨2, (), rfl, hp, by rw [ht]; exact hP, va_K.moved hW.alike hK, hD⟩, hS.F ht⟩) hS.2.2 aG3.2.2.2.2.2.1
  by_cases hc2 : p0 = 45
  · have hp := hp.2.2.1 hc2
    refine lv_lookup (tgt := 78) hx hb aG3.2.1 (by decide) (by first | (rw [hc2]; done) | (rw [hc2]; rfl)) (by decide) ?_
    refine lv_iconst (v := 2) hx hb aG3.2.2.2.2.1 ic_2 ?_
    exact W.iret (v := 2) hx hb hr (fun t ht hW => ⟨⟨2, (), rfl, hp, by rw [ht]; exact hP, va_K.moved hW.alike hK, hD⟩, hS.F ht⟩) hS.2.2 aG3.2.2.2.2.2.1
  by_cases hc3 : p0 = 47
  · have hp := hp.2.2.2.1 hc3
    refine lv_lookup (tgt := 80) hx hb aG3.2.1 (by decide) (by first | (rw [hc3]; done) | (rw [hc3]; rfl)) (by decide) ?_
    refine lv_iconst (v := 3) hx hb aG3.2.2.2.2.2.2.1 ic_3 ?_
    exact W.iret (v := 3) hx hb hr (fun t ht hW => ⟨⟨3, (), rfl, hp, by rw [ht]; exact hP, va_K.moved hW.alike hK, hD⟩, hS.F ht⟩) hS.2.2 aG3.2.2.2.2.2.2.2.1
  by_cases hc4 : p0 = 60
  · have hp := hp.2.2.2.2.1 hc4
    refine lv_lookup (tgt := 76) hx hb aG3.2.1 (by decide) (by first | (rw [hc4]; done) | (rw [hc4]; rfl)) (by decide) ?_
    refine lv_iconst (v := 1) hx hb aG3.2.2.1 aDx ?_
    exact W.iret (v := 1) hx hb hr (fun t ht hW => ⟨⟨1, (), rfl, hp, by rw [ht]; exact hP, va_K.moved hW.alike hK, hD⟩, hS.F ht⟩) hS.2.2 aG3.2.2.2.1
  by_cases hc5 : p0 = 61
  · have hp := hp.2.2.2.2.2.1 hc5
    refine lv_lookup (tgt := 76) hx hb aG3.2.1 (by decide) (by first | (rw [hc5]; done) | (rw [hc5]; rfl)) (by decide) ?_
    refine lv_iconst (v := 1) hx hb aG3.2.2.1 aDx ?_
    exact W.iret (v := 1) hx hb hr (fun t ht hW => ⟨⟨1, (), rfl, hp, by rw [ht]; exact hP, va_K.moved hW.alike hK, hD⟩, hS.F ht⟩) hS.2.2 aG3.2.2.2.1
  by_cases hc6 : p0 = 62
  · have hp := hp.2.2.2.2.2.2.1 hc6
    refine lv_lookup (tgt := 76) hx hb aG3.2.1 (by decide) (by first | (rw [hc6]; done) | (rw [hc6]; rfl)) (by decide) ?_
    refine lv_iconst (v := 1) hx hb aG3.2.2.1 aDx ?_
    exact W.iret (v := 1) hx hb hr (fun t ht hW => ⟨⟨1, (), rfl, hp, by rw [ht]; exact hP, va_K.moved hW.alike hK, hD⟩, hS.F ht⟩) hS.2.2 aG3.2.2.2.1
  by_cases hc7 : p0 = 256
  · have hp := hp.2.2.2.2.2.2.2.1 hc7
    refine lv_lookup (tgt := 82) hx hb aG3.2.1 (by decide) (by first | (rw [hc7]; done) | (rw [hc7]; rfl)) (by decide) ?_
    refine lv_iconst (v := 4) hx hb aG3.2.2.2.2.2.2.2.2.1 ic_4 ?_
    exact W.iret (v := 4) hx hb hr (fun t ht hW => ⟨⟨4, (), rfl, hp, by rw [ht]; exact hP, va_K.moved hW.alike hK, hD⟩, hS.F ht⟩) hS.2.2 aG3.2.2.2.2.2.2.2.2.2.1
  have hp := hp.2.2.2.2.2.2.2.2 hc0 hc1 hc2 hc3 hc4 hc5 hc6 hc7
  have key : W p l e rm_X7_strength s m args below meth c H locs 0 0 (MQ below (q_X7_strength dC dI cI cC cZ cB cJ A post) args s 0 0 A) (F0 m 84 ls []) := by
    refine lv_iconst (v := 0) hx hb aG3.2.2.2.2.2.2.2.2.2.2.1 aCi ?_
    exact W.iret (v := 0) hx hb hr (fun t ht hW => ⟨⟨0, (), rfl, hp, by rw [ht]; exact hP, va_K.moved hW.alike hK, hD⟩, hS.F ht⟩) hS.2.2 aG3.2.2.2.2.2.2.2.2.2.2.2
  exact lv_lookup (tgt := 84) (off := 83) hx hb aG3.2.1 (by decide) (by show Op.lookupswitch.offset [(42, 79), (43, 77), (45, 77), (47, 79), (60, 75), (61, 75), (62, 75), (256, 81)] _ _ = _; first | (rw [lv_osw (a := 42) hc0 rfl, lv_osw (a := 43) hc1 rfl, lv_osw (a := 45) hc2 rfl, lv_osw (a := 47) hc3 rfl, lv_osw (a := 60) hc4 rfl, lv_osw (a := 61) hc5 rfl, lv_osw (a := 62) hc6 rfl, lv_osw (a := 256) hc7 rfl]; done) | (rw [lv_osw (a := 42) hc0 rfl, lv_osw (a := 43) hc1 rfl, lv_osw (a := 45) hc2 rfl, lv_osw (a := 47) hc3 rfl, lv_osw (a := 60) hc4 rfl, lv_osw (a := 61) hc5 rfl, lv_osw (a := 62) hc6 rfl, lv_osw (a := 256) hc7 rfl]; rfl)) (by decide) key
abbrev aSO (cI cC cZ cB cJ : ClassId) (xO uS tX uR rY tY : Nat) (pQ qI sY uG pY nJ : Int32) (tW uW : Nat -> Int32) : va_W := [(xO, .inr (7, [.ref uS, .ref tX, .ref uR, .ref rY, .ref tY, .int pQ, .int qI, .int sY, .int uG, .int pY, .int nJ])), (tX, .inl (cI, 40, .inl tW)), (tY, .inl (cI, 40, .inl uW))]
abbrev q_X7_settle (dC : Nat -> ClassId) (dI : Nat -> Nat -> Nat) (cI cC cZ cB cJ : ClassId) (A : Nat -> Prop) (xO uS tX uR rY tY : Nat) (pQ uG pY nJ : Int32) (tW : Nat -> Int32) (post : Int32 -> Int32 -> (Nat -> Int32) -> Prop) : Array Value -> State -> Outcome -> State -> Prop := va_Qv (fun (u : Int32 × Int32 × (Nat -> Int32)) => post u.1 u.2.1 u.2.2) (fun u t => gB (dC, dI) (tyl cI cC cZ cB cJ) A (aSO cI cC cZ cB cJ xO uS tX uR rY tY pQ u.1 u.2.1 uG pY nJ tW u.2.2) t) A
abbrev rm_X7_settle : Room := { frames := 1, cells := 0, slots := 0, locals := 21 }
section S_X7_settle
variable {p : Program} {l : Launch} {e : Env} {s : State} {m : MethodId} {args : Array Value} {below : List Frame} {meth : Method} {c : Code} {dC : Nat -> ClassId} {dI : Nat -> Nat -> Nat} {cI cC cZ cB cJ : ClassId} {A : Nat -> Prop} {xO uS tX uR rY tY : Nat} {pQ uG pY nJ : Int32} {tW : Nat -> Int32} {post : Int32 -> Int32 -> (Nat -> Int32) -> Prop}
def ws_X7_settle_0 (post : Int32 -> Int32 -> (Nat -> Int32) -> Prop) (next : Int32 -> Int32 -> Int32 -> (Nat -> Int32) -> Prop) (tW : Nat -> Int32) (x1 qI sY : Int32) (uW : Nat -> Int32) : Prop := (sY <= 0 -> post qI sY uW) /\ (¬ sY <= 0 -> ∀ v_1 : Int32, v_1 = sY - 1 -> vp_in v_1 40 /\ (∀ v_2 : Int32, v_2 = tW v_1.toNatClampNeg -> wp_X7_strength (fun r_3 => (r_3 < x1 -> post qI sY uW) /\ (¬ r_3 < x1 -> ∀ v_4 : Int32, v_4 = sY - 1 -> vp_in v_4 40 /\ (∀ v_5 : Int32, v_5 = 2000 + (tW v_4.toNatClampNeg) -> wp_X7_emit (fun aW9 ru_draft_7 => next x1 aW9 v_4 ru_draft_7) v_5 qI uW))) v_2))
noncomputable def wb_X7_settle_0 (post : Int32 -> Int32 -> (Nat -> Int32) -> Prop) (tW : Nat -> Int32) : Nat -> Int32 -> Int32 -> Int32 -> (Nat -> Int32) -> Prop := fun n => Nat.rec (motive := fun _ => Int32 -> Int32 -> Int32 -> (Nat -> Int32) -> Prop) (fun _ _ _ _ => False) (fun _ ih => ws_X7_settle_0 post ih tW) n
set_option maxHeartbeats 4000000 in
set_option maxRecDepth 100000 in
theorem ks_X7_settle_0 (C0 : gc aJP none 2 RX7 (dC, dI) (tyl cI cC cZ cB cJ) A p s m args meth c) {next : Int32 -> Int32 -> Int32 -> (Nat -> Int32) -> Prop} (hKn : ∀ (x1 : Int32) (qI : Int32) (sY : Int32) (uW : Nat -> Int32) (H : Heap) (locs : List Loc) (ls : Array Slot), next x1 qI sY uW -> va_P (dC, dI) classes (aSO cI cC cZ cB cJ xO uS tX uR rY tY pQ qI sY uG pY nJ tW uW) H -> va_D A (aSO cI cC cZ cB cJ xO uS tX uR rY tY pQ qI sY uG pY nJ tW uW) -> va_S A s.heap H locs -> lv_has ls 2 [(0, .ref xO), (1, .int x1)] -> W p l e rm_X7_settle s m args below meth c H locs 0 0 (MQ below (q_X7_settle dC dI cI cC cZ cB cJ A xO uS tX uR rY tY pQ uG pY nJ tW post) args s 0 0 A) (F0 m 0 ls [])) : ∀ (x1 qI sY : Int32) (uW : Nat -> Int32) (H : Heap) (locs : List Loc) (ls : Array Slot), (ws_X7_settle_0 post next tW) x1 qI sY uW -> va_P (dC, dI) classes (aSO cI cC cZ cB cJ xO uS tX uR rY tY pQ qI sY uG pY nJ tW uW) H -> va_D A (aSO cI cC cZ cB cJ xO uS tX uR rY tY pQ qI sY uG pY nJ tW uW) -> va_S A s.heap H locs -> lv_has ls 2 [(0, .ref xO), (1, .int x1)] -> W p l e rm_X7_settle s m args below meth c H locs 0 0 (MQ below (q_X7_settle dC dI cI cC cZ cB cJ A xO uS tX uR rY tY pQ uG pY nJ tW post) args s 0 0 A) (F0 m 0 ls []) := by
  obtain ⟨hx, hb, hr, hml, hown, hts, hlocks, hA, hK, hN, tL, tM, hZL, hTL, hZM, hTM, hZX⟩ := id C0
  intro x1 qI sY uW H locs ls hp hP hD hS hl
  unfold ws_X7_settle_0 at hp
  refine lv_aload_n hx hb aWh.1 rfl (lv_at hl 0 rfl) ?_
  refine va_get (D := (dC, dI)) (ci := 7) (v := .int sY) (C := RX7) (T := TX7) (N := 11) hx hb hts i_X7 hown hK hP 0 rfl rfl 7 (lbz rfl) (hts _ q_102) (fun _ h9 => h9) rfl aWh.2.1 ?_
  refine lv_if_le (tgt := 55) hx hb aWh.2.2.1 (by decide) (fun hc => ?_) (fun hc => ?_)
  · have hp := hp.1 hc
    exact W.vret hx hb hr (fun t ht hW => ⟨⟨(qI, sY, uW), rfl, hp, by rw [ht]; exact hP, va_K.moved hW.alike hK, hD⟩, hS.F ht⟩) hS.2.2 aVG.2.2.2.2.2.2.2.2.2.2.2.2.2
  · have hp := hp.2 hc
    refine lv_aload_n hx hb aWh.2.2.2.1 rfl (lv_at hl 0 rfl) ?_
    refine va_get (D := (dC, dI)) (ci := 7) (v := .ref tX) (C := RX7) (T := TX7) (N := 11) hx hb hts i_X7 hown hK hP 0 rfl rfl 1 (lbz rfl) (hts _ q_103) (fun _ h9 => h9) rfl aWh.2.2.2.2.1 ?_
    refine lv_aload_n hx hb aWh.2.2.2.2.2.1 rfl (lv_at hl 0 rfl) ?_
    refine va_get (D := (dC, dI)) (ci := 7) (v := .int sY) (C := RX7) (T := TX7) (N := 11) hx hb hts i_X7 hown hK hP 0 rfl rfl 7 (lbz rfl) (hts _ q_102) (fun _ h9 => h9) rfl aWh.2.2.2.2.2.2.1 ?_
    refine lv_iconst (v := 1) hx hb aWh.2.2.2.2.2.2.2.1 aDx ?_
    refine lv_isub hx hb aWh.2.2.2.2.2.2.2.2.1 ?_
    refine lv_topi (fun v_1 aFJ => ?_)
    have hp := hp v_1 aFJ
    have hin := hp.1
    have hp := hp.2
    refine va_iald hx hb hK hP 1 0 rfl rfl hin aWh.2.2.2.2.2.2.2.2.2.1 ?_
    refine lv_topi (fun v_2 aGO => ?_)
    have hp := hp v_2 aGO
    have hm := mgk (wc := (wd_X7_strength cI cC cZ cB cJ)) hP mk_20 3 rfl rfl rfl
    refine yW hP hD hS hA (yS mk_20) (aAi mk_20) hm.1 hm.2 (aAk _) (zW _) (aDn (As := [.int v_2]) (rest := []) C0 hP hD hS (yS mk_20) hm.1 (aAl _) (c_X7_strength l dC dI cI cC cZ cB cJ H.size v_2 _ hp) q_126 q_128 q_127 q_108 h_X7_strength rfl rfl ⟨lbz rfl, lbz rfl⟩ rfl rfl hl.1 rfl (lv_room (lbz rfl)) aWh.2.2.2.2.2.2.2.2.2.2.1 ⟨Nat.zero_le _, Nat.zero_le _⟩) (fun r_3 u H locs hp hP hD hS => ?_)
    have hPD := PDm (ws' := (aSO cI cC cZ cB cJ xO uS tX uR rY tY pQ qI sY uG pY nJ tW uW)) hP hD 3 rfl rfl rfl
    have hP := hPD.1
    have hD := hPD.2
    refine lv_iload_n hx hb aWh.2.2.2.2.2.2.2.2.2.2.2.1 rfl (lv_at hl 1 rfl) ?_
    refine lv_icmp_lt (tgt := 55) hx hb aWh.2.2.2.2.2.2.2.2.2.2.2.2.1 (by decide) (fun hc => ?_) (fun hc => ?_)
    · have hp := hp.1 hc
      exact W.vret hx hb hr (fun t ht hW => ⟨⟨(qI, sY, uW), rfl, hp, by rw [ht]; exact hP, va_K.moved hW.alike hK, hD⟩, hS.F ht⟩) hS.2.2 aVG.2.2.2.2.2.2.2.2.2.2.2.2.2
    · have hp := hp.2 hc
      refine lv_aload_n hx hb aWh.2.2.2.2.2.2.2.2.2.2.2.2.2.1 rfl (lv_at hl 0 rfl) ?_
      refine lv_dup hx hb aWh.2.2.2.2.2.2.2.2.2.2.2.2.2.2.1 rfl ?_
      refine va_get (D := (dC, dI)) (ci := 7) (v := .int sY) (C := RX7) (T := TX7) (N := 11) hx hb hts i_X7 hown hK hP 0 rfl rfl 7 (lbz rfl) (hts _ q_102) (fun _ h9 => h9) rfl aWh.2.2.2.2.2.2.2.2.2.2.2.2.2.2.2 ?_
      refine lv_iconst (v := 1) hx hb aVG.1 aDx ?_
      refine lv_isub hx hb aVG.2.1 ?_
      refine lv_topi (fun v_4 aHM => ?_)
      have hp := hp v_4 aHM
      refine va_put (D := (dC, dI)) (ci := 7) (v := .int v_4) (ty := .int) (C := RX7) (T := TX7) (N := 11) hx hb hts i_X7 tyX7 aLP nmX7 hown hK hP hD hS 0 rfl rfl 7 (lbz rfl) (hts _ q_102) (fun _ h9 => h9) rfl (aLP 7 (lbz rfl)) rfl rfl (lbz rfl) aVG.2.2.1 (fun H locs hP hD hS => ?_)
      have hPD := PDw (ws' := (aSO cI cC cZ cB cJ xO uS tX uR rY tY pQ qI v_4 uG pY nJ tW uW)) hP hD rfl
      have hP := hPD.1
      have hD := hPD.2
      refine lv_aload_n hx hb aVG.2.2.2.1 rfl (lv_at hl 0 rfl) ?_
      refine lv_sipush (v := 2000) hx hb aVG.2.2.2.2.1 sp_2000 ?_
      refine lv_aload_n hx hb aVG.2.2.2.2.2.1 rfl (lv_at hl 0 rfl) ?_
      refine va_get (D := (dC, dI)) (ci := 7) (v := .ref tX) (C := RX7) (T := TX7) (N := 11) hx hb hts i_X7 hown hK hP 0 rfl rfl 1 (lbz rfl) (hts _ q_103) (fun _ h9 => h9) rfl aVG.2.2.2.2.2.2.1 ?_
      refine lv_aload_n hx hb aVG.2.2.2.2.2.2.2.1 rfl (lv_at hl 0 rfl) ?_
      refine va_get (D := (dC, dI)) (ci := 7) (v := .int v_4) (C := RX7) (T := TX7) (N := 11) hx hb hts i_X7 hown hK hP 0 rfl rfl 7 (lbz rfl) (hts _ q_102) (fun _ h9 => h9) rfl aVG.2.2.2.2.2.2.2.2.1 ?_
      have hin := hp.1
      have hp := hp.2
      refine va_iald hx hb hK hP 1 0 rfl rfl hin aVG.2.2.2.2.2.2.2.2.2.1 ?_
      refine lv_iadd hx hb aVG.2.2.2.2.2.2.2.2.2.2.1 ?_
      refine lv_topi (fun v_5 aJD => ?_)
      have hp := hp v_5 aJD
      have hm := mgk (wc := (wd_X7_emit cI cC cZ cB cJ xO uS tX uR rY tY pQ qI v_4 uG pY nJ uW)) hP mk_21 3 rfl rfl rfl
      refine aBn hP hD hS hA (yS mk_21) (aAi mk_21) hm.1 hm.2 (aAk _) (zW _) (zF (As := [.int v_5]) (rest := []) C0 hP hD hS (yS mk_21) hm.1 (aAl _) 0 7 rfl rfl (c_X7_emit l dC dI cI cC cZ cB cJ xO uS tX uR rY tY H.size v_5 pQ qI v_4 uG pY nJ uW _ hp) q_107 q_111 q_109 q_110 q_108 h_X7_emit rfl rfl ⟨lbz rfl, lbz rfl⟩ rfl rfl hl.1 rfl (lv_room (lbz rfl)) aVG.2.2.2.2.2.2.2.2.2.2.2.1 ⟨Nat.zero_le _, Nat.zero_le _⟩) (fun u H locs hp hP hD hS => ?_)
      obtain ⟨aW9, ru_draft_7⟩ := u
      have hPD := PDm (ws' := (aSO cI cC cZ cB cJ xO uS tX uR rY tY pQ aW9 v_4 uG pY nJ tW ru_draft_7)) hP hD 3 rfl rfl rfl
      have hP := hPD.1
      have hD := hPD.2
      refine lv_goto (tgt := 0) hx hb aVG.2.2.2.2.2.2.2.2.2.2.2.2.1 (by decide) ?_
      exact hKn x1 aW9 v_4 ru_draft_7 H locs ls hp hP hD hS (lv_sub hl [0, 1] rfl)
set_option maxHeartbeats 4000000 in
set_option maxRecDepth 100000 in
theorem kb_X7_settle_0 (C0 : gc aJP none 2 RX7 (dC, dI) (tyl cI cC cZ cB cJ) A p s m args meth c) : ∀ (n : Nat), ∀ (x1 qI sY : Int32) (uW : Nat -> Int32) (H : Heap) (locs : List Loc) (ls : Array Slot), (wb_X7_settle_0 post tW n) x1 qI sY uW -> va_P (dC, dI) classes (aSO cI cC cZ cB cJ xO uS tX uR rY tY pQ qI sY uG pY nJ tW uW) H -> va_D A (aSO cI cC cZ cB cJ xO uS tX uR rY tY pQ qI sY uG pY nJ tW uW) -> va_S A s.heap H locs -> lv_has ls 2 [(0, .ref xO), (1, .int x1)] -> W p l e rm_X7_settle s m args below meth c H locs 0 0 (MQ below (q_X7_settle dC dI cI cC cZ cB cJ A xO uS tX uR rY tY pQ uG pY nJ tW post) args s 0 0 A) (F0 m 0 ls []) := by
  intro n
  induction n with
  | zero =>
    intro x1 qI sY uW H locs ls hp
    exact False.elim hp
  | succ n ih =>
    intro x1 qI sY uW H locs ls hp
    exact ks_X7_settle_0 C0 ih x1 qI sY uW H locs ls hp
end S_X7_settle
def wp_X7_settle (post : Int32 -> Int32 -> (Nat -> Int32) -> Prop) (p0 qI sY : Int32) (tW uW : Nat -> Int32) : Prop := ∃ n : Nat, wb_X7_settle_0 post tW n p0 qI sY uW
set_option maxHeartbeats 4000000 in
set_option maxRecDepth 100000 in
theorem c_X7_settle (l : Launch) (dC : Nat -> ClassId) (dI : Nat -> Nat -> Nat) (cI cC cZ cB cJ : ClassId) (xO uS tX uR rY tY sz : Nat) (p0 pQ qI sY uG pY nJ : Int32) (tW uW : Nat -> Int32) (post : Int32 -> Int32 -> (Nat -> Int32) -> Prop) (hw : wp_X7_settle post p0 qI sY tW uW) : Met l yX7_settle (gw yX7_settle aJP 2 none) rm_X7_settle (va_Pc [.ref xO, .int p0] (gPre (dC, dI) (tyl cI cC cZ cB cJ) (aSO cI cC cZ cB cJ xO uS tX uR rY tY pQ qI sY uG pY nJ tW uW) sz)) (q_X7_settle dC dI cI cC cZ cB cJ (va_A (aSO cI cC cZ cB cJ xO uS tX uR rY tY pQ qI sY uG pY nJ tW uW) sz) xO uS tX uR rY tY pQ uG pY nJ tW post) 0 0 (va_A (aSO cI cC cZ cB cJ xO uS tX uR rY tY pQ qI sY uG pY nJ tW uW) sz) := by
  refine aBJ (own := RX7) (dC, dI) (tyl cI cC cZ cB cJ) (aSO cI cC cZ cB cJ xO uS tX uR rY tY pQ qI sY uG pY nJ tW uW) sz [.ref xO, .int p0] (fun A => q_X7_settle dC dI cI cC cZ cB cJ A xO uS tX uR rY tY pQ uG pY nJ tW post) pn_RX7 rfl (lbz rfl) ?_
  intro p e s m args below meth c A H locs ls C0 hP hD hS hl
  have hl : lv_has ls 2 [(0, .ref xO), (1, .int p0)] := hl
  obtain ⟨hx, hb, hr, hml, hown, hts, hlocks, hA, hK, hN, tL, tM, hZL, hTL, hZM, hTM, hZX⟩ := id C0
  have hp := hw
  unfold wp_X7_settle at hp
  obtain ⟨n9, hp⟩ := hp
  exact kb_X7_settle_0 C0 n9 p0 qI sY uW H locs ls hp hP hD hS (lv_sub hl [0, 1] rfl)
abbrev aD9 (cI cC cZ cB cJ : ClassId) (xI uY xO uS tX uR rY tY : Nat) (qL qJ rX : Int32) (qM : Nat -> Int32) (pQ qI sY uG pY nJ : Int32) (tW uW : Nat -> Int32) : va_W := [(xI, .inr (8, [.ref uY, .int qL, .int qJ, .int rX])), (uY, .inl (cC, 80, .inl qM)), (xO, .inr (7, [.ref uS, .ref tX, .ref uR, .ref rY, .ref tY, .int pQ, .int qI, .int sY, .int uG, .int pY, .int nJ])), (tX, .inl (cI, 40, .inl tW)), (tY, .inl (cI, 40, .inl uW))]
abbrev q_X7_readBehindThing (dC : Nat -> ClassId) (dI : Nat -> Nat -> Nat) (cI cC cZ cB cJ : ClassId) (A : Nat -> Prop) (xI uY xO uS tX uR rY tY : Nat) (qL rX : Int32) (qM : Nat -> Int32) (pQ : Int32) (post : Int32 -> Int32 -> Int32 -> Int32 -> Int32 -> Int32 -> Int32 -> (Nat -> Int32) -> (Nat -> Int32) -> Prop) : Array Value -> State -> Outcome -> State -> Prop := va_Qi (fun (r : Int32) (u : Int32 × Int32 × Int32 × Int32 × Int32 × Int32 × (Nat -> Int32) × (Nat -> Int32)) => post r u.1 u.2.1 u.2.2.1 u.2.2.2.1 u.2.2.2.2.1 u.2.2.2.2.2.1 u.2.2.2.2.2.2.1 u.2.2.2.2.2.2.2) (fun u t => gB (dC, dI) (tyl cI cC cZ cB cJ) A (aD9 cI cC cZ cB cJ xI uY xO uS tX uR rY tY qL u.1 rX qM pQ u.2.1 u.2.2.1 u.2.2.2.1 u.2.2.2.2.1 u.2.2.2.2.2.1 u.2.2.2.2.2.2.1 u.2.2.2.2.2.2.2) t) A
abbrev rm_X7_readBehindThing : Room := { frames := 2, cells := 0, slots := 0, locals := 42 }
section S_X7_readBehindThing
variable {p : Program} {l : Launch} {e : Env} {s : State} {m : MethodId} {args : Array Value} {below : List Frame} {meth : Method} {c : Code} {dC : Nat -> ClassId} {dI : Nat -> Nat -> Nat} {cI cC cZ cB cJ : ClassId} {A : Nat -> Prop} {xI uY xO uS tX uR rY tY : Nat} {qL rX : Int32} {qM : Nat -> Int32} {pQ : Int32} {post : Int32 -> Int32 -> Int32 -> Int32 -> Int32 -> Int32 -> Int32 -> (Nat -> Int32) -> (Nat -> Int32) -> Prop}
def bCe (post : Int32 -> Int32 -> Int32 -> Int32 -> Int32 -> Int32 -> Int32 -> (Nat -> Int32) -> (Nat -> Int32) -> Prop) (rX : Int32) (qM : Nat -> Int32) (x2 x3 qJ qI sY uG pY nJ : Int32) (tW uW : Nat -> Int32) : Prop := wp_X7_settle (fun aUw ru_waits_4 ru_draft_5 => wp_X7_hold (fun ru_waits_6 ru_waiting_7 => wp_X8_skip (fun tx_place_8 => post 1 tx_place_8 aUw ru_waits_6 uG pY 1 ru_waiting_7 ru_draft_5) qJ rX) x2 ru_waits_4 tW) x3 qI sY tW uW
set_option maxHeartbeats 4000000 in
set_option maxRecDepth 100000 in
theorem ks_X7_readBehindThing_105 (C0 : gc aBO (some .boolean) 4 RX7 (dC, dI) (tyl cI cC cZ cB cJ) A p s m args meth c) : ∀ (x2 x3 qJ qI sY uG pY nJ : Int32) (tW uW : Nat -> Int32) (H : Heap) (locs : List Loc) (ls : Array Slot), (bCe post rX qM) x2 x3 qJ qI sY uG pY nJ tW uW -> va_P (dC, dI) classes (aD9 cI cC cZ cB cJ xI uY xO uS tX uR rY tY qL qJ rX qM pQ qI sY uG pY nJ tW uW) H -> va_D A (aD9 cI cC cZ cB cJ xI uY xO uS tX uR rY tY qL qJ rX qM pQ qI sY uG pY nJ tW uW) -> va_S A s.heap H locs -> lv_has ls 4 [(0, .ref xO), (1, .ref xI), (2, .int x2), (3, .int x3)] -> W p l e rm_X7_readBehindThing s m args below meth c H locs 0 0 (MQ below (q_X7_readBehindThing dC dI cI cC cZ cB cJ A xI uY xO uS tX uR rY tY qL rX qM pQ post) args s 0 0 A) (F0 m 105 ls []) := by
  obtain ⟨hx, hb, hr, hml, hown, hts, hlocks, hA, hK, hN, tL, tM, hZL, hTL, hZM, hTM, hZX⟩ := id C0
  intro x2 x3 qJ qI sY uG pY nJ tW uW H locs ls hp hP hD hS hl
  unfold bCe at hp
  refine lv_aload_n hx hb aF8.2.2.2.2.2.2.2.2.2.2.2.2.2.2.1 rfl (lv_at hl 0 rfl) ?_
  refine lv_iload_n hx hb aF8.2.2.2.2.2.2.2.2.2.2.2.2.2.2.2 rfl (lv_at hl 3 rfl) ?_
  have hm := mgk (wc := (aSO cI cC cZ cB cJ xO uS tX uR rY tY pQ qI sY uG pY nJ tW uW)) hP mk_22 5 rfl rfl rfl
  refine aBn hP hD hS hA (yS mk_22) (aAi mk_22) hm.1 hm.2 (aAk _) (zW _) (zF (As := [.int x3]) (rest := []) C0 hP hD hS (yS mk_22) hm.1 (aAl _) 2 7 rfl rfl (c_X7_settle l dC dI cI cC cZ cB cJ xO uS tX uR rY tY H.size x3 pQ qI sY uG pY nJ tW uW _ hp) q_129 q_132 q_130 q_131 q_108 h_X7_settle rfl rfl ⟨lbz rfl, lbz rfl⟩ rfl rfl hl.1 rfl (lv_room (lbz rfl)) aLC.1 ⟨Nat.zero_le _, Nat.zero_le _⟩) (fun u H locs hp hP hD hS => ?_)
  obtain ⟨aUw, ru_waits_4, ru_draft_5⟩ := u
  have hPD := PDm (ws' := (aD9 cI cC cZ cB cJ xI uY xO uS tX uR rY tY qL qJ rX qM pQ aUw ru_waits_4 uG pY nJ tW ru_draft_5)) hP hD 5 rfl rfl rfl
  have hP := hPD.1
  have hD := hPD.2
  refine lv_aload_n hx hb aLC.2.1 rfl (lv_at hl 0 rfl) ?_
  refine lv_iload_n hx hb aLC.2.2.1 rfl (lv_at hl 2 rfl) ?_
  have hm := mgk (wc := (wd_X7_hold cI cC cZ cB cJ xO uS tX uR rY tY pQ aUw ru_waits_4 uG pY nJ tW)) hP mk_19 5 rfl rfl rfl
  refine aBn hP hD hS hA (yS mk_19) (aAi mk_19) hm.1 hm.2 (aAk _) (zW _) (zF (As := [.int x2]) (rest := []) C0 hP hD hS (yS mk_19) hm.1 (aAl _) 2 7 rfl rfl (c_X7_hold l dC dI cI cC cZ cB cJ xO uS tX uR rY tY H.size x2 pQ aUw ru_waits_4 uG pY nJ tW _ hp) q_122 q_125 q_123 q_124 q_108 h_X7_hold rfl rfl ⟨lbz rfl, lbz rfl⟩ rfl rfl hl.1 rfl (lv_room (lbz rfl)) aLC.2.2.2.1 ⟨Nat.zero_le _, Nat.zero_le _⟩) (fun u H locs hp hP hD hS => ?_)
  obtain ⟨ru_waits_6, ru_waiting_7⟩ := u
  have hPD := PDm (ws' := (aD9 cI cC cZ cB cJ xI uY xO uS tX uR rY tY qL qJ rX qM pQ aUw ru_waits_6 uG pY nJ ru_waiting_7 ru_draft_5)) hP hD 5 rfl rfl rfl
  have hP := hPD.1
  have hD := hPD.2
  refine lv_aload_n hx hb aLC.2.2.2.2.1 rfl (lv_at hl 0 rfl) ?_
  refine lv_iconst (v := 1) hx hb aLC.2.2.2.2.2.1 aDx ?_
  refine va_put (D := (dC, dI)) (ci := 7) (v := .int 1) (ty := .boolean) (C := RX7) (T := TX7) (N := 11) hx hb hts i_X7 tyX7 aLP nmX7 hown hK hP hD hS 2 rfl rfl 10 (lbz rfl) (hts _ q_112) (fun _ h9 => h9) rfl (aLP 10 (lbz rfl)) rfl rfl (lbz rfl) aLC.2.2.2.2.2.2.1 (fun H locs hP hD hS => ?_)
  have hPD := PDw (ws' := (aD9 cI cC cZ cB cJ xI uY xO uS tX uR rY tY qL qJ rX qM pQ aUw ru_waits_6 uG pY 1 ru_waiting_7 ru_draft_5)) hP hD rfl
  have hP := hPD.1
  have hD := hPD.2
  refine lv_aload_n hx hb aLC.2.2.2.2.2.2.2.1 rfl (lv_at hl 1 rfl) ?_
  have hm := mgk (wc := (wd_X8_skip cI cC cZ cB cJ xI uY qL qJ rX)) hP mk_16 5 rfl rfl rfl
  refine aBn hP hD hS hA (yS mk_16) (aAi mk_16) hm.1 hm.2 (aAk _) (zW _) (zF (As := []) (rest := []) C0 hP hD hS (yS mk_16) hm.1 (aAl _) 0 8 rfl rfl (c_X8_skip l dC dI cI cC cZ cB cJ xI uY H.size qL qJ rX _ hp) q_29 q_115 q_30 q_31 q_5 h_X8_skip rfl rfl ⟨lbz rfl, lbz rfl⟩ rfl rfl hl.1 rfl (lv_room (lbz rfl)) aLC.2.2.2.2.2.2.2.2.1 ⟨Nat.zero_le _, Nat.zero_le _⟩) (fun u H locs hp hP hD hS => ?_)
  obtain ⟨tx_place_8, rfl⟩ : ∃ z, z = u := ⟨_, rfl⟩
  have hPD := PDm (ws' := (aD9 cI cC cZ cB cJ xI uY xO uS tX uR rY tY qL tx_place_8 rX qM pQ aUw ru_waits_6 uG pY 1 ru_waiting_7 ru_draft_5)) hP hD 5 rfl rfl rfl
  have hP := hPD.1
  have hD := hPD.2
  refine lv_iconst (v := 1) hx hb aLC.2.2.2.2.2.2.2.2.2.1 aDx ?_
  exact W.zret (v := 1) hx hb hr rfl (fun t ht hW => ⟨⟨1, (tx_place_8, aUw, ru_waits_6, uG, pY, 1, ru_waiting_7, ru_draft_5), rfl, hp, by rw [ht]; exact hP, va_K.moved hW.alike hK, hD⟩, hS.F ht⟩) hS.2.2 aLC.2.2.2.2.2.2.2.2.2.2
def ws_X7_readBehindThing_85 (post : Int32 -> Int32 -> Int32 -> Int32 -> Int32 -> Int32 -> Int32 -> (Nat -> Int32) -> (Nat -> Int32) -> Prop) (rX : Int32) (qM : Nat -> Int32) (x2 x3 qJ qI sY uG pY nJ : Int32) (tW uW : Nat -> Int32) : Prop := (¬ x3 = 1 -> bCe post rX qM x2 x3 qJ qI sY uG pY nJ tW uW) /\ (x3 = 1 -> ∀ v_9 : Int32, v_9 = pY ||| (1 <<< (uG &&& 31)) -> bCe post rX qM x2 x3 qJ qI sY uG v_9 nJ tW uW)
set_option maxHeartbeats 4000000 in
set_option maxRecDepth 100000 in
theorem ks_X7_readBehindThing_85 (C0 : gc aBO (some .boolean) 4 RX7 (dC, dI) (tyl cI cC cZ cB cJ) A p s m args meth c) : ∀ (x2 x3 qJ qI sY uG pY nJ : Int32) (tW uW : Nat -> Int32) (H : Heap) (locs : List Loc) (ls : Array Slot), (ws_X7_readBehindThing_85 post rX qM) x2 x3 qJ qI sY uG pY nJ tW uW -> va_P (dC, dI) classes (aD9 cI cC cZ cB cJ xI uY xO uS tX uR rY tY qL qJ rX qM pQ qI sY uG pY nJ tW uW) H -> va_D A (aD9 cI cC cZ cB cJ xI uY xO uS tX uR rY tY qL qJ rX qM pQ qI sY uG pY nJ tW uW) -> va_S A s.heap H locs -> lv_has ls 4 [(0, .ref xO), (1, .ref xI), (2, .int x2), (3, .int x3)] -> W p l e rm_X7_readBehindThing s m args below meth c H locs 0 0 (MQ below (q_X7_readBehindThing dC dI cI cC cZ cB cJ A xI uY xO uS tX uR rY tY qL rX qM pQ post) args s 0 0 A) (F0 m 85 ls []) := by
  obtain ⟨hx, hb, hr, hml, hown, hts, hlocks, hA, hK, hN, tL, tM, hZL, hTL, hZM, hTM, hZX⟩ := id C0
  intro x2 x3 qJ qI sY uG pY nJ tW uW H locs ls hp hP hD hS hl
  unfold ws_X7_readBehindThing_85 at hp
  refine lv_iload_n hx hb aF8.2.2.1 rfl (lv_at hl 3 rfl) ?_
  refine lv_iconst (v := 1) hx hb aF8.2.2.2.1 aDx ?_
  refine lv_icmp_ne (tgt := 105) hx hb aF8.2.2.2.2.1 (by decide) (fun hc => ?_) (fun hc => ?_)
  · have hp := hp.1 hc
    exact ks_X7_readBehindThing_105 C0 x2 x3 qJ qI sY uG pY nJ tW uW H locs ls hp hP hD hS (lv_sub hl [0, 1, 2, 3] rfl)
  · have hp := hp.2 hc
    refine lv_aload_n hx hb aF8.2.2.2.2.2.1 rfl (lv_at hl 0 rfl) ?_
    refine lv_dup hx hb aF8.2.2.2.2.2.2.1 rfl ?_
    refine va_get (D := (dC, dI)) (ci := 7) (v := .int pY) (C := RX7) (T := TX7) (N := 11) hx hb hts i_X7 hown hK hP 2 rfl rfl 9 (lbz rfl) (hts _ q_121) (fun _ h9 => h9) rfl aF8.2.2.2.2.2.2.2.1 ?_
    refine lv_iconst (v := 1) hx hb aF8.2.2.2.2.2.2.2.2.1 aDx ?_
    refine lv_aload_n hx hb aF8.2.2.2.2.2.2.2.2.2.1 rfl (lv_at hl 0 rfl) ?_
    refine va_get (D := (dC, dI)) (ci := 7) (v := .int uG) (C := RX7) (T := TX7) (N := 11) hx hb hts i_X7 hown hK hP 2 rfl rfl 8 (lbz rfl) (hts _ q_120) (fun _ h9 => h9) rfl aF8.2.2.2.2.2.2.2.2.2.2.1 ?_
    refine lv_ishl hx hb aF8.2.2.2.2.2.2.2.2.2.2.2.1 ?_
    refine lv_ior hx hb aF8.2.2.2.2.2.2.2.2.2.2.2.2.1 ?_
    refine lv_topi (fun v_9 ev_9 => ?_)
    have hp := hp v_9 ev_9
    refine va_put (D := (dC, dI)) (ci := 7) (v := .int v_9) (ty := .int) (C := RX7) (T := TX7) (N := 11) hx hb hts i_X7 tyX7 aLP nmX7 hown hK hP hD hS 2 rfl rfl 9 (lbz rfl) (hts _ q_121) (fun _ h9 => h9) rfl (aLP 9 (lbz rfl)) rfl rfl (lbz rfl) aF8.2.2.2.2.2.2.2.2.2.2.2.2.2.1 (fun H locs hP hD hS => ?_)
    have hPD := PDw (ws' := (aD9 cI cC cZ cB cJ xI uY xO uS tX uR rY tY qL qJ rX qM pQ qI sY uG v_9 nJ tW uW)) hP hD rfl
    have hP := hPD.1
    have hD := hPD.2
    exact ks_X7_readBehindThing_105 C0 x2 x3 qJ qI sY uG v_9 nJ tW uW H locs ls hp hP hD hS (lv_sub hl [0, 1, 2, 3] rfl)
end S_X7_readBehindThing
def wp_X7_readBehindThing (post : Int32 -> Int32 -> Int32 -> Int32 -> Int32 -> Int32 -> Int32 -> (Nat -> Int32) -> (Nat -> Int32) -> Prop) (qJ rX : Int32) (qM : Nat -> Int32) (qI sY uG pY nJ : Int32) (tW uW : Nat -> Int32) : Prop := wp_X8_here (fun r_1 => (¬ r_1 = 41 -> wp_X7_strength (fun r_2 => (r_2 = 0 -> post 0 qJ qI sY uG pY nJ tW uW) /\ (¬ r_2 = 0 -> (¬ r_2 = 1 -> ws_X7_readBehindThing_85 post rX qM r_1 r_2 qJ qI sY uG pY nJ tW uW) /\ (r_2 = 1 -> ∀ aEr : Int32, aEr = pY >>> (uG &&& 31) -> ((aEr &&& 1) = 0 -> ws_X7_readBehindThing_85 post rX qM r_1 r_2 qJ qI sY uG pY nJ tW uW) /\ (¬ (aEr &&& 1) = 0 -> post 0 qJ qI sY uG pY nJ tW uW)))) r_1) /\ (r_1 = 41 -> (¬ uG = 0 -> wp_X7_settle (fun ru_drafted_11 ru_waits_12 aSa => ∀ aGC : Int32, aGC = ru_waits_12 - 1 -> ∀ aHe : Int32, aHe = (if 0 < aGC then aGC else 0) -> ∀ aHb : Int32, aHb = uG - 1 -> wp_X8_skip (fun tx_place_17 => post 1 tx_place_17 ru_drafted_11 aHe aHb pY nJ tW aSa) qJ rX) 1 qI sY tW uW) /\ (uG = 0 -> post 0 qJ qI sY uG pY nJ tW uW))) qJ rX qM
set_option maxHeartbeats 4000000 in
set_option maxRecDepth 100000 in
theorem c_X7_readBehindThing (l : Launch) (dC : Nat -> ClassId) (dI : Nat -> Nat -> Nat) (cI cC cZ cB cJ : ClassId) (xI uY xO uS tX uR rY tY sz : Nat) (qL qJ rX : Int32) (qM : Nat -> Int32) (pQ qI sY uG pY nJ : Int32) (tW uW : Nat -> Int32) (post : Int32 -> Int32 -> Int32 -> Int32 -> Int32 -> Int32 -> Int32 -> (Nat -> Int32) -> (Nat -> Int32) -> Prop) (hw : wp_X7_readBehindThing post qJ rX qM qI sY uG pY nJ tW uW) : Met l aUC (gw aUC aBO 4 (some .boolean)) rm_X7_readBehindThing (va_Pc [.ref xO, .ref xI] (gPre (dC, dI) (tyl cI cC cZ cB cJ) (aD9 cI cC cZ cB cJ xI uY xO uS tX uR rY tY qL qJ rX qM pQ qI sY uG pY nJ tW uW) sz)) (q_X7_readBehindThing dC dI cI cC cZ cB cJ (va_A (aD9 cI cC cZ cB cJ xI uY xO uS tX uR rY tY qL qJ rX qM pQ qI sY uG pY nJ tW uW) sz) xI uY xO uS tX uR rY tY qL rX qM pQ post) 0 0 (va_A (aD9 cI cC cZ cB cJ xI uY xO uS tX uR rY tY qL qJ rX qM pQ qI sY uG pY nJ tW uW) sz) := by
  refine aBJ (own := RX7) (dC, dI) (tyl cI cC cZ cB cJ) (aD9 cI cC cZ cB cJ xI uY xO uS tX uR rY tY qL qJ rX qM pQ qI sY uG pY nJ tW uW) sz [.ref xO, .ref xI] (fun A => q_X7_readBehindThing dC dI cI cC cZ cB cJ A xI uY xO uS tX uR rY tY qL rX qM pQ post) pn_RX7 rfl (lbz rfl) ?_
  intro p e s m args below meth c A H locs ls C0 hP hD hS hl
  have hl : lv_has ls 4 [(0, .ref xO), (1, .ref xI)] := hl
  obtain ⟨hx, hb, hr, hml, hown, hts, hlocks, hA, hK, hN, tL, tM, hZL, hTL, hZM, hTM, hZX⟩ := id C0
  have hp := hw
  unfold wp_X7_readBehindThing at hp
  refine lv_aload_n hx hb aHo.1 rfl (lv_at hl 1 rfl) ?_
  have hm := mgk (wc := (wd_X8_here cI cC cZ cB cJ xI uY qL qJ rX qM)) hP mk_17 5 rfl rfl rfl
  refine yW hP hD hS hA (yS mk_17) (aAi mk_17) hm.1 hm.2 (aAk _) (zW _) (zF (As := []) (rest := []) C0 hP hD hS (yS mk_17) hm.1 (aAl _) 0 8 rfl rfl (c_X8_here l dC dI cI cC cZ cB cJ xI uY H.size qL qJ rX qM _ hp) q_33 q_113 q_34 q_35 q_5 h_X8_here rfl rfl ⟨lbz rfl, lbz rfl⟩ rfl rfl hl.1 rfl (lv_room (lbz rfl)) aHo.2.1 ⟨Nat.zero_le _, Nat.zero_le _⟩) (fun r_1 u H locs hp hP hD hS => ?_)
  have hPD := PDm (ws' := (aD9 cI cC cZ cB cJ xI uY xO uS tX uR rY tY qL qJ rX qM pQ qI sY uG pY nJ tW uW)) hP hD 5 rfl rfl rfl
  have hP := hPD.1
  have hD := hPD.2
  refine lv_istore_n (lv' := [(2, .int r_1), (0, .ref xO), (1, .ref xI)]) hx hb aHo.2.2.1 rfl hl (by decide) rfl (fun ls hl => ?_)
  refine lv_iload_n hx hb aHo.2.2.2.1 rfl (lv_at hl 0 rfl) ?_
  refine lv_bipush (v := 41) hx hb aHo.2.2.2.2.1 bp_41 ?_
  refine lv_icmp_ne (tgt := 55) hx hb aHo.2.2.2.2.2.1 (by decide) (fun hc => ?_) (fun hc => ?_)
  · have hp := hp.1 hc
    refine lv_iload_n hx hb aHD.1 rfl (lv_at hl 0 rfl) ?_
    have hm := mgk (wc := (wd_X7_strength cI cC cZ cB cJ)) hP mk_23 5 rfl rfl rfl
    refine yW hP hD hS hA (yS mk_23) (aAi mk_23) hm.1 hm.2 (aAk _) (zW _) (aDn (As := [.int r_1]) (rest := []) C0 hP hD hS (yS mk_23) hm.1 (aAl _) (c_X7_strength l dC dI cI cC cZ cB cJ H.size r_1 _ hp) q_126 q_128 q_127 q_108 h_X7_strength rfl rfl ⟨lbz rfl, lbz rfl⟩ rfl rfl hl.1 rfl (lv_room (lbz rfl)) aHD.2.1 ⟨Nat.zero_le _, Nat.zero_le _⟩) (fun r_2 u H locs hp hP hD hS => ?_)
    have hPD := PDm (ws' := (aD9 cI cC cZ cB cJ xI uY xO uS tX uR rY tY qL qJ rX qM pQ qI sY uG pY nJ tW uW)) hP hD 5 rfl rfl rfl
    have hP := hPD.1
    have hD := hPD.2
    refine lv_istore_n (lv' := [(3, .int r_2), (2, .int r_1), (0, .ref xO), (1, .ref xI)]) hx hb aHD.2.2.1 rfl hl (by decide) rfl (fun ls hl => ?_)
    refine lv_iload_n hx hb aHD.2.2.2.1 rfl (lv_at hl 0 rfl) ?_
    refine lv_if_eq (tgt := 83) hx hb aHD.2.2.2.2.1 (by decide) (fun hc => ?_) (fun hc => ?_)
    · have hp := hp.1 hc
      refine lv_iconst (v := 0) hx hb aF8.1 aCi ?_
      exact W.zret (v := 0) hx hb hr rfl (fun t ht hW => ⟨⟨0, (qJ, qI, sY, uG, pY, nJ, tW, uW), rfl, hp, by rw [ht]; exact hP, va_K.moved hW.alike hK, hD⟩, hS.F ht⟩) hS.2.2 aF8.2.1
    · have hp := hp.2 hc
      refine lv_iload_n hx hb aHD.2.2.2.2.2.1 rfl (lv_at hl 0 rfl) ?_
      refine lv_iconst (v := 1) hx hb aHD.2.2.2.2.2.2.1 aDx ?_
      refine lv_icmp_ne (tgt := 85) hx hb aHD.2.2.2.2.2.2.2.1 (by decide) (fun hc => ?_) (fun hc => ?_)
      · have hp := hp.1 hc
        exact ks_X7_readBehindThing_85 C0 r_1 r_2 qJ qI sY uG pY nJ tW uW H locs ls hp hP hD hS (lv_sub hl [2, 3, 1, 0] rfl)
      · have hp := hp.2 hc
        refine lv_aload_n hx hb aHD.2.2.2.2.2.2.2.2.1 rfl (lv_at hl 2 rfl) ?_
        refine va_get (D := (dC, dI)) (ci := 7) (v := .int pY) (C := RX7) (T := TX7) (N := 11) hx hb hts i_X7 hown hK hP 2 rfl rfl 9 (lbz rfl) (hts _ q_121) (fun _ h9 => h9) rfl aHD.2.2.2.2.2.2.2.2.2.1 ?_
        refine lv_aload_n hx hb aHD.2.2.2.2.2.2.2.2.2.2.1 rfl (lv_at hl 2 rfl) ?_
        refine va_get (D := (dC, dI)) (ci := 7) (v := .int uG) (C := RX7) (T := TX7) (N := 11) hx hb hts i_X7 hown hK hP 2 rfl rfl 8 (lbz rfl) (hts _ q_120) (fun _ h9 => h9) rfl aHD.2.2.2.2.2.2.2.2.2.2.2.1 ?_
        refine lv_ishr hx hb aHD.2.2.2.2.2.2.2.2.2.2.2.2.1 ?_
        refine lv_topi (fun aEr aNB => ?_)
        have hp := hp aEr aNB
        refine lv_iconst (v := 1) hx hb aHD.2.2.2.2.2.2.2.2.2.2.2.2.2.1 aDx ?_
        refine lv_iand hx hb aHD.2.2.2.2.2.2.2.2.2.2.2.2.2.2.1 ?_
        refine lv_if_eq (tgt := 85) hx hb aHD.2.2.2.2.2.2.2.2.2.2.2.2.2.2.2 (by decide) (fun hc => ?_) (fun hc => ?_)
        · have hp := hp.1 hc
          exact ks_X7_readBehindThing_85 C0 r_1 r_2 qJ qI sY uG pY nJ tW uW H locs ls hp hP hD hS (lv_sub hl [2, 3, 1, 0] rfl)
        · have hp := hp.2 hc
          refine lv_iconst (v := 0) hx hb aF8.1 aCi ?_
          exact W.zret (v := 0) hx hb hr rfl (fun t ht hW => ⟨⟨0, (qJ, qI, sY, uG, pY, nJ, tW, uW), rfl, hp, by rw [ht]; exact hP, va_K.moved hW.alike hK, hD⟩, hS.F ht⟩) hS.2.2 aF8.2.1
  · have hp := hp.2 hc
    refine lv_aload_n hx hb aHo.2.2.2.2.2.2.1 rfl (lv_at hl 1 rfl) ?_
    refine va_get (D := (dC, dI)) (ci := 7) (v := .int uG) (C := RX7) (T := TX7) (N := 11) hx hb hts i_X7 hown hK hP 2 rfl rfl 8 (lbz rfl) (hts _ q_120) (fun _ h9 => h9) rfl aHo.2.2.2.2.2.2.2.1 ?_
    refine lv_if_ne (tgt := 20) hx hb aHo.2.2.2.2.2.2.2.2.1 (by decide) (fun hc => ?_) (fun hc => ?_)
    · have hp := hp.1 hc
      refine lv_aload_n hx hb aHo.2.2.2.2.2.2.2.2.2.2.2.1 rfl (lv_at hl 1 rfl) ?_
      refine lv_iconst (v := 1) hx hb aHo.2.2.2.2.2.2.2.2.2.2.2.2.1 aDx ?_
      have hm := mgk (wc := (aSO cI cC cZ cB cJ xO uS tX uR rY tY pQ qI sY uG pY nJ tW uW)) hP mk_22 5 rfl rfl rfl
      refine aBn hP hD hS hA (yS mk_22) (aAi mk_22) hm.1 hm.2 (aAk _) (zW _) (zF (As := [.int 1]) (rest := []) C0 hP hD hS (yS mk_22) hm.1 (aAl _) 2 7 rfl rfl (c_X7_settle l dC dI cI cC cZ cB cJ xO uS tX uR rY tY H.size 1 pQ qI sY uG pY nJ tW uW _ hp) q_129 q_132 q_130 q_131 q_108 h_X7_settle rfl rfl ⟨lbz rfl, lbz rfl⟩ rfl rfl hl.1 rfl (lv_room (lbz rfl)) aHo.2.2.2.2.2.2.2.2.2.2.2.2.2.1 ⟨Nat.zero_le _, Nat.zero_le _⟩) (fun u H locs hp hP hD hS => ?_)
      obtain ⟨ru_drafted_11, ru_waits_12, aSa⟩ := u
      have hPD := PDm (ws' := (aD9 cI cC cZ cB cJ xI uY xO uS tX uR rY tY qL qJ rX qM pQ ru_drafted_11 ru_waits_12 uG pY nJ tW aSa)) hP hD 5 rfl rfl rfl
      have hP := hPD.1
      have hD := hPD.2
      refine lv_aload_n hx hb aHo.2.2.2.2.2.2.2.2.2.2.2.2.2.2.1 rfl (lv_at hl 1 rfl) ?_
      refine lv_iconst (v := 0) hx hb aHo.2.2.2.2.2.2.2.2.2.2.2.2.2.2.2 aCi ?_
      refine lv_aload_n hx hb aHC.1 rfl (lv_at hl 1 rfl) ?_
      refine va_get (D := (dC, dI)) (ci := 7) (v := .int ru_waits_12) (C := RX7) (T := TX7) (N := 11) hx hb hts i_X7 hown hK hP 2 rfl rfl 7 (lbz rfl) (hts _ q_102) (fun _ h9 => h9) rfl aHC.2.1 ?_
      refine lv_iconst (v := 1) hx hb aHC.2.2.1 aDx ?_
      refine lv_isub hx hb aHC.2.2.2.1 ?_
      refine lv_topi (fun aGC ev_14 => ?_)
      have hp := hp aGC ev_14
      refine va_mmax hx hb (by rw [hml]; exact hl.1.symm) hown (hts _ q_133) (hts _ q_134) (hts _ q_16) (hts _ q_135) (lbz rfl) (lbz rfl) (Nat.zero_le _) (Nat.zero_le _) aHC.2.2.2.2.1 ?_
      refine lv_topi (fun aHe ev_15 => ?_)
      have hp := hp aHe ev_15
      refine va_put (D := (dC, dI)) (ci := 7) (v := .int aHe) (ty := .int) (C := RX7) (T := TX7) (N := 11) hx hb hts i_X7 tyX7 aLP nmX7 hown hK hP hD hS 2 rfl rfl 7 (lbz rfl) (hts _ q_102) (fun _ h9 => h9) rfl (aLP 7 (lbz rfl)) rfl rfl (lbz rfl) aHC.2.2.2.2.2.1 (fun H locs hP hD hS => ?_)
      have hPD := PDw (ws' := (aD9 cI cC cZ cB cJ xI uY xO uS tX uR rY tY qL qJ rX qM pQ ru_drafted_11 aHe uG pY nJ tW aSa)) hP hD rfl
      have hP := hPD.1
      have hD := hPD.2
      refine lv_aload_n hx hb aHC.2.2.2.2.2.2.1 rfl (lv_at hl 1 rfl) ?_
      refine lv_dup hx hb aHC.2.2.2.2.2.2.2.1 rfl ?_
      refine va_get (D := (dC, dI)) (ci := 7) (v := .int uG) (C := RX7) (T := TX7) (N := 11) hx hb hts i_X7 hown hK hP 2 rfl rfl 8 (lbz rfl) (hts _ q_120) (fun _ h9 => h9) rfl aHC.2.2.2.2.2.2.2.2.1 ?_
      refine lv_iconst (v := 1) hx hb aHC.2.2.2.2.2.2.2.2.2.1 aDx ?_
      refine lv_isub hx hb aHC.2.2.2.2.2.2.2.2.2.2.1 ?_
      refine lv_topi (fun aHb ev_16 => ?_)
      have hp := hp aHb ev_16
      refine va_put (D := (dC, dI)) (ci := 7) (v := .int aHb) (ty := .int) (C := RX7) (T := TX7) (N := 11) hx hb hts i_X7 tyX7 aLP nmX7 hown hK hP hD hS 2 rfl rfl 8 (lbz rfl) (hts _ q_120) (fun _ h9 => h9) rfl (aLP 8 (lbz rfl)) rfl rfl (lbz rfl) aHC.2.2.2.2.2.2.2.2.2.2.2.1 (fun H locs hP hD hS => ?_)
      have hPD := PDw (ws' := (aD9 cI cC cZ cB cJ xI uY xO uS tX uR rY tY qL qJ rX qM pQ ru_drafted_11 aHe aHb pY nJ tW aSa)) hP hD rfl
      have hP := hPD.1
      have hD := hPD.2
      refine lv_aload_n hx hb aHC.2.2.2.2.2.2.2.2.2.2.2.2.1 rfl (lv_at hl 2 rfl) ?_
      have hm := mgk (wc := (wd_X8_skip cI cC cZ cB cJ xI uY qL qJ rX)) hP mk_16 5 rfl rfl rfl
      refine aBn hP hD hS hA (yS mk_16) (aAi mk_16) hm.1 hm.2 (aAk _) (zW _) (zF (As := []) (rest := []) C0 hP hD hS (yS mk_16) hm.1 (aAl _) 0 8 rfl rfl (c_X8_skip l dC dI cI cC cZ cB cJ xI uY H.size qL qJ rX _ hp) q_29 q_115 q_30 q_31 q_5 h_X8_skip rfl rfl ⟨lbz rfl, lbz rfl⟩ rfl rfl hl.1 rfl (lv_room (lbz rfl)) aHC.2.2.2.2.2.2.2.2.2.2.2.2.2.1 ⟨Nat.zero_le _, Nat.zero_le _⟩) (fun u H locs hp hP hD hS => ?_)
      obtain ⟨tx_place_17, rfl⟩ : ∃ z, z = u := ⟨_, rfl⟩
      have hPD := PDm (ws' := (aD9 cI cC cZ cB cJ xI uY xO uS tX uR rY tY qL tx_place_17 rX qM pQ ru_drafted_11 aHe aHb pY nJ tW aSa)) hP hD 5 rfl rfl rfl
      have hP := hPD.1
      have hD := hPD.2
      refine lv_iconst (v := 1) hx hb aHC.2.2.2.2.2.2.2.2.2.2.2.2.2.2.1 aDx ?_
      exact W.zret (v := 1) hx hb hr rfl (fun t ht hW => ⟨⟨1, (tx_place_17, ru_drafted_11, aHe, aHb, pY, nJ, tW, aSa), rfl, hp, by rw [ht]; exact hP, va_K.moved hW.alike hK, hD⟩, hS.F ht⟩) hS.2.2 aHC.2.2.2.2.2.2.2.2.2.2.2.2.2.2.2
    · have hp := hp.2 hc
      refine lv_iconst (v := 0) hx hb aHo.2.2.2.2.2.2.2.2.2.1 aCi ?_
      exact W.zret (v := 0) hx hb hr rfl (fun t ht hW => ⟨⟨0, (qJ, qI, sY, uG, pY, nJ, tW, uW), rfl, hp, by rw [ht]; exact hP, va_K.moved hW.alike hK, hD⟩, hS.F ht⟩) hS.2.2 aHo.2.2.2.2.2.2.2.2.2.2.1
abbrev aJX (cI cC cZ cB cJ : ClassId) (xI uY xO uS tX uR rY tY : Nat) (qL qJ rX : Int32) (qM : Nat -> Int32) (pQ qI sY uG pY nJ : Int32) (tW pN uW : Nat -> Int32) : va_W := [(xI, .inr (8, [.ref uY, .int qL, .int qJ, .int rX])), (uY, .inl (cC, 80, .inl qM)), (xO, .inr (7, [.ref uS, .ref tX, .ref uR, .ref rY, .ref tY, .int pQ, .int qI, .int sY, .int uG, .int pY, .int nJ])), (tX, .inl (cI, 40, .inl tW)), (rY, .inl (cI, 40, .inl pN)), (tY, .inl (cI, 40, .inl uW))]
abbrev q_X7_read (dC : Nat -> ClassId) (dI : Nat -> Nat -> Nat) (cI cC cZ cB cJ : ClassId) (A : Nat -> Prop) (xI uY xO uS tX uR : Nat) (qL rX : Int32) (qM : Nat -> Int32) (post : Int32 -> Int32 -> Int32 -> Int32 -> Int32 -> Int32 -> Int32 -> Int32 -> (Nat -> Int32) -> (Nat -> Int32) -> (Nat -> Int32) -> Prop) : Array Value -> State -> Outcome -> State -> Prop := va_Qi (fun (r : Int32) (u : Int32 × Int32 × Int32 × Int32 × Int32 × Int32 × Int32 × (Nat -> Int32) × (Nat -> Int32) × (Nat -> Int32) × Nat × Nat) => post r u.1 u.2.1 u.2.2.1 u.2.2.2.1 u.2.2.2.2.1 u.2.2.2.2.2.1 u.2.2.2.2.2.2.1 u.2.2.2.2.2.2.2.1 u.2.2.2.2.2.2.2.2.1 u.2.2.2.2.2.2.2.2.2.1) (fun u t => gB (dC, dI) (tyl cI cC cZ cB cJ) A (aJX cI cC cZ cB cJ xI uY xO uS tX uR u.2.2.2.2.2.2.2.2.2.2.2 u.2.2.2.2.2.2.2.2.2.2.1 qL u.1 rX qM u.2.1 u.2.2.1 u.2.2.2.1 u.2.2.2.2.1 u.2.2.2.2.2.1 u.2.2.2.2.2.2.1 u.2.2.2.2.2.2.2.1 u.2.2.2.2.2.2.2.2.1 u.2.2.2.2.2.2.2.2.2.1) t) A
abbrev rm_X7_read : Room := { frames := 6, cells := 0, slots := 0, locals := 156 }
section S_X7_read
variable {p : Program} {l : Launch} {e : Env} {s : State} {m : MethodId} {args : Array Value} {below : List Frame} {meth : Method} {c : Code} {dC : Nat -> ClassId} {dI : Nat -> Nat -> Nat} {cI cC cZ cB cJ : ClassId} {A : Nat -> Prop} {xI uY xO uS tX uR : Nat} {qL rX : Int32} {qM : Nat -> Int32} {post : Int32 -> Int32 -> Int32 -> Int32 -> Int32 -> Int32 -> Int32 -> Int32 -> (Nat -> Int32) -> (Nat -> Int32) -> (Nat -> Int32) -> Prop}
def ws_X7_read_75 (post : Int32 -> Int32 -> Int32 -> Int32 -> Int32 -> Int32 -> Int32 -> Int32 -> (Nat -> Int32) -> (Nat -> Int32) -> (Nat -> Int32) -> Prop) (qL rX : Int32) (qM : Nat -> Int32) (qJ pQ qI sY uG pY nJ : Int32) (tW pN uW : Nat -> Int32) : Prop := (¬ nJ = 0 -> post 0 qJ pQ qI sY uG pY nJ tW pN uW) /\ (nJ = 0 -> (0 < uG -> post 0 qJ pQ qI sY uG pY nJ tW pN uW) /\ (¬ 0 < uG -> bCL (fun r_1 => (¬ r_1 = 0 -> wp_X7_settle (fun aSK ru_waits_3 bA2 => post 1 qJ aSK aSK ru_waits_3 uG pY nJ tW bA2 pN) 1 qI sY tW uW) /\ (r_1 = 0 -> post 0 qJ pQ qI sY uG pY nJ tW pN uW)) qL qJ))
set_option maxHeartbeats 4000000 in
set_option maxRecDepth 100000 in
theorem ks_X7_read_75 (C0 : gc aEh (some .boolean) 3 RX7 (dC, dI) (tyl cI cC cZ cB cJ) A p s m args meth c) : ∀ (qJ pQ qI sY uG pY nJ : Int32) (tW pN uW : Nat -> Int32) (tY rY : Nat) (H : Heap) (locs : List Loc) (ls : Array Slot), (ws_X7_read_75 post qL rX qM) qJ pQ qI sY uG pY nJ tW pN uW -> va_P (dC, dI) classes (aJX cI cC cZ cB cJ xI uY xO uS tX uR rY tY qL qJ rX qM pQ qI sY uG pY nJ tW pN uW) H -> va_D A (aJX cI cC cZ cB cJ xI uY xO uS tX uR rY tY qL qJ rX qM pQ qI sY uG pY nJ tW pN uW) -> va_S A s.heap H locs -> lv_has ls 3 [(0, .ref xO), (1, .ref xI)] -> W p l e rm_X7_read s m args below meth c H locs 0 0 (MQ below (q_X7_read dC dI cI cC cZ cB cJ A xI uY xO uS tX uR qL rX qM post) args s 0 0 A) (F0 m 75 ls []) := by
  obtain ⟨hx, hb, hr, hml, hown, hts, hlocks, hA, hK, hN, tL, tM, hZL, hTL, hZM, hTM, hZX⟩ := id C0
  intro qJ pQ qI sY uG pY nJ tW pN uW tY rY H locs ls hp hP hD hS hl
  unfold ws_X7_read_75 at hp
  refine lv_aload_n hx hb aVa.2.2.2.2.2.2.2.2.1 rfl (lv_at hl 0 rfl) ?_
  refine va_get (D := (dC, dI)) (ci := 7) (v := .int nJ) (C := RX7) (T := TX7) (N := 11) hx hb hts i_X7 hown hK hP 2 rfl rfl 10 (lbz rfl) (hts _ q_112) (fun _ h9 => h9) rfl aVa.2.2.2.2.2.2.2.2.2.1 ?_
  refine lv_if_ne (tgt := 96) hx hb aVa.2.2.2.2.2.2.2.2.2.2.1 (by decide) (fun hc => ?_) (fun hc => ?_)
  · have hp := hp.1 hc
    refine lv_iconst (v := 0) hx hb aSX.2.1 aCi ?_
    exact W.zret (v := 0) hx hb hr rfl (fun t ht hW => ⟨⟨0, (qJ, pQ, qI, sY, uG, pY, nJ, tW, pN, uW, tY, rY), rfl, hp, by rw [ht]; exact hP, va_K.moved hW.alike hK, hD⟩, hS.F ht⟩) hS.2.2 aSX.2.2.1
  · have hp := hp.2 hc
    refine lv_aload_n hx hb aVa.2.2.2.2.2.2.2.2.2.2.2.1 rfl (lv_at hl 0 rfl) ?_
    refine va_get (D := (dC, dI)) (ci := 7) (v := .int uG) (C := RX7) (T := TX7) (N := 11) hx hb hts i_X7 hown hK hP 2 rfl rfl 8 (lbz rfl) (hts _ q_120) (fun _ h9 => h9) rfl aVa.2.2.2.2.2.2.2.2.2.2.2.2.1 ?_
    refine lv_if_gt (tgt := 96) hx hb aVa.2.2.2.2.2.2.2.2.2.2.2.2.2.1 (by decide) (fun hc => ?_) (fun hc => ?_)
    · have hp := hp.1 hc
      refine lv_iconst (v := 0) hx hb aSX.2.1 aCi ?_
      exact W.zret (v := 0) hx hb hr rfl (fun t ht hW => ⟨⟨0, (qJ, pQ, qI, sY, uG, pY, nJ, tW, pN, uW, tY, rY), rfl, hp, by rw [ht]; exact hP, va_K.moved hW.alike hK, hD⟩, hS.F ht⟩) hS.2.2 aSX.2.2.1
    · have hp := hp.2 hc
      refine lv_aload_n hx hb aVa.2.2.2.2.2.2.2.2.2.2.2.2.2.2.1 rfl (lv_at hl 1 rfl) ?_
      have hm := mgk (wc := (wd_X8_isThrough cI cC cZ cB cJ xI uY qL qJ rX)) hP mk_24 6 rfl rfl rfl
      refine yW hP hD hS hA (yS mk_24) (aAi mk_24) hm.1 hm.2 (aAk _) (zW _) (zF (As := []) (rest := []) C0 hP hD hS (yS mk_24) hm.1 (aAl _) 0 8 rfl rfl (c_X8_isThrough l dC dI cI cC cZ cB cJ xI uY H.size qL qJ rX _ hp) q_97 q_136 q_98 q_99 q_5 h_X8_isThrough rfl rfl ⟨lbz rfl, lbz rfl⟩ rfl rfl hl.1 rfl (lv_room (lbz rfl)) aVa.2.2.2.2.2.2.2.2.2.2.2.2.2.2.2 ⟨Nat.zero_le _, Nat.zero_le _⟩) (fun r_1 u H locs hp hP hD hS => ?_)
      have hPD := PDm (ws' := (aJX cI cC cZ cB cJ xI uY xO uS tX uR rY tY qL qJ rX qM pQ qI sY uG pY nJ tW pN uW)) hP hD 6 rfl rfl rfl
      have hP := hPD.1
      have hD := hPD.2
      refine lv_if_ne (tgt := 98) hx hb aSX.1 (by decide) (fun hc => ?_) (fun hc => ?_)
      · have hp := hp.1 hc
        refine lv_aload_n hx hb aSX.2.2.2.1 rfl (lv_at hl 0 rfl) ?_
        refine lv_iconst (v := 1) hx hb aSX.2.2.2.2.1 aDx ?_
        have hm := mgk (wc := (aSO cI cC cZ cB cJ xO uS tX uR rY tY pQ qI sY uG pY nJ tW uW)) hP mk_25 6 rfl rfl rfl
        refine aBn hP hD hS hA (yS mk_25) (aAi mk_25) hm.1 hm.2 (aAk _) (zW _) (zF (As := [.int 1]) (rest := []) C0 hP hD hS (yS mk_25) hm.1 (aAl _) 2 7 rfl rfl (c_X7_settle l dC dI cI cC cZ cB cJ xO uS tX uR rY tY H.size 1 pQ qI sY uG pY nJ tW uW _ hp) q_129 q_132 q_130 q_131 q_108 h_X7_settle rfl rfl ⟨lbz rfl, lbz rfl⟩ rfl rfl hl.1 rfl (lv_room (lbz rfl)) aSX.2.2.2.2.2.1 ⟨Nat.zero_le _, Nat.zero_le _⟩) (fun u H locs hp hP hD hS => ?_)
        obtain ⟨aSK, ru_waits_3, bA2⟩ := u
        have hPD := PDm (ws' := (aJX cI cC cZ cB cJ xI uY xO uS tX uR rY tY qL qJ rX qM pQ aSK ru_waits_3 uG pY nJ tW pN bA2)) hP hD 6 rfl rfl rfl
        have hP := hPD.1
        have hD := hPD.2
        refine lv_aload_n hx hb aSX.2.2.2.2.2.2.1 rfl (lv_at hl 0 rfl) ?_
        refine va_get (D := (dC, dI)) (ci := 7) (v := .ref rY) (C := RX7) (T := TX7) (N := 11) hx hb hts i_X7 hown hK hP 2 rfl rfl 3 (lbz rfl) (hts _ q_137) (fun _ h9 => h9) rfl aSX.2.2.2.2.2.2.2.1 ?_
        refine lv_astore_n (lv' := [(2, .ref rY), (0, .ref xO), (1, .ref xI)]) hx hb aSX.2.2.2.2.2.2.2.2.1 rfl hl (by decide) rfl (fun ls hl => ?_)
        refine lv_aload_n hx hb aSX.2.2.2.2.2.2.2.2.2.1 rfl (lv_at hl 1 rfl) ?_
        refine lv_aload_n hx hb aSX.2.2.2.2.2.2.2.2.2.2.1 rfl (lv_at hl 1 rfl) ?_
        refine va_get (D := (dC, dI)) (ci := 7) (v := .ref tY) (C := RX7) (T := TX7) (N := 11) hx hb hts i_X7 hown hK hP 2 rfl rfl 4 (lbz rfl) (hts _ q_105) (fun _ h9 => h9) rfl aSX.2.2.2.2.2.2.2.2.2.2.2.1 ?_
        refine va_put (D := (dC, dI)) (ci := 7) (v := .ref tY) (ty := .array .int) (C := RX7) (T := TX7) (N := 11) hx hb hts i_X7 tyX7 aLP nmX7 hown hK hP hD hS 2 rfl rfl 3 (lbz rfl) (hts _ q_137) (fun _ h9 => h9) rfl (aLP 3 (lbz rfl)) rfl rfl (lbz rfl) aSX.2.2.2.2.2.2.2.2.2.2.2.2.1 (fun H locs hP hD hS => ?_)
        have hPD := PDw (ws' := [(xI, .inr (8, [.ref uY, .int qL, .int qJ, .int rX])), (uY, .inl (cC, 80, .inl qM)), (xO, .inr (7, [.ref uS, .ref tX, .ref uR, .ref tY, .ref tY, .int pQ, .int aSK, .int ru_waits_3, .int uG, .int pY, .int nJ])), (tX, .inl (cI, 40, .inl tW)), (rY, .inl (cI, 40, .inl pN)), (tY, .inl (cI, 40, .inl bA2))]) hP hD rfl
        have hP := hPD.1
        have hD := hPD.2
        refine lv_aload_n hx hb aSX.2.2.2.2.2.2.2.2.2.2.2.2.2.1 rfl (lv_at hl 1 rfl) ?_
        refine lv_aload_n hx hb aSX.2.2.2.2.2.2.2.2.2.2.2.2.2.2.1 rfl (lv_at hl 0 rfl) ?_
        refine va_put (D := (dC, dI)) (ci := 7) (v := .ref rY) (ty := .array .int) (C := RX7) (T := TX7) (N := 11) hx hb hts i_X7 tyX7 aLP nmX7 hown hK hP hD hS 2 rfl rfl 4 (lbz rfl) (hts _ q_105) (fun _ h9 => h9) rfl (aLP 4 (lbz rfl)) rfl rfl (lbz rfl) aSX.2.2.2.2.2.2.2.2.2.2.2.2.2.2.2 (fun H locs hP hD hS => ?_)
        have hPD := PDw (ws' := [(xI, .inr (8, [.ref uY, .int qL, .int qJ, .int rX])), (uY, .inl (cC, 80, .inl qM)), (xO, .inr (7, [.ref uS, .ref tX, .ref uR, .ref tY, .ref rY, .int pQ, .int aSK, .int ru_waits_3, .int uG, .int pY, .int nJ])), (tX, .inl (cI, 40, .inl tW)), (rY, .inl (cI, 40, .inl pN)), (tY, .inl (cI, 40, .inl bA2))]) hP hD rfl
        have hP := hPD.1
        have hD := hPD.2
        refine lv_aload_n hx hb eX7_read_121.1 rfl (lv_at hl 1 rfl) ?_
        refine lv_aload_n hx hb eX7_read_121.2.1 rfl (lv_at hl 1 rfl) ?_
        refine va_get (D := (dC, dI)) (ci := 7) (v := .int aSK) (C := RX7) (T := TX7) (N := 11) hx hb hts i_X7 hown hK hP 2 rfl rfl 6 (lbz rfl) (hts _ q_104) (fun _ h9 => h9) rfl eX7_read_121.2.2.1 ?_
        refine va_put (D := (dC, dI)) (ci := 7) (v := .int aSK) (ty := .int) (C := RX7) (T := TX7) (N := 11) hx hb hts i_X7 tyX7 aLP nmX7 hown hK hP hD hS 2 rfl rfl 5 (lbz rfl) (hts _ q_101) (fun _ h9 => h9) rfl (aLP 5 (lbz rfl)) rfl rfl (lbz rfl) eX7_read_121.2.2.2.1 (fun H locs hP hD hS => ?_)
        have hPD := PDw (ws' := [(xI, .inr (8, [.ref uY, .int qL, .int qJ, .int rX])), (uY, .inl (cC, 80, .inl qM)), (xO, .inr (7, [.ref uS, .ref tX, .ref uR, .ref tY, .ref rY, .int aSK, .int aSK, .int ru_waits_3, .int uG, .int pY, .int nJ])), (tX, .inl (cI, 40, .inl tW)), (rY, .inl (cI, 40, .inl pN)), (tY, .inl (cI, 40, .inl bA2))]) hP hD rfl
        have hP := hPD.1
        have hD := hPD.2
        refine lv_iconst (v := 1) hx hb eX7_read_121.2.2.2.2.1 aDx ?_
        have hPD := PDs (ws' := aJX cI cC cZ cB cJ xI uY xO uS tX uR tY rY qL qJ rX qM aSK aSK ru_waits_3 uG pY nJ tW bA2 pN) hP hD [0, 1, 2, 3, 5, 4] (by decide) rfl
        have hP := hPD.1
        have hD := hPD.2
        exact W.zret (v := 1) hx hb hr rfl (fun t ht hW => ⟨⟨1, (qJ, aSK, aSK, ru_waits_3, uG, pY, nJ, tW, bA2, pN, rY, tY), rfl, hp, by rw [ht]; exact hP, va_K.moved hW.alike hK, hD⟩, hS.F ht⟩) hS.2.2 eX7_read_121.2.2.2.2.2
      · have hp := hp.2 hc
        refine lv_iconst (v := 0) hx hb aSX.2.1 aCi ?_
        exact W.zret (v := 0) hx hb hr rfl (fun t ht hW => ⟨⟨0, (qJ, pQ, qI, sY, uG, pY, nJ, tW, pN, uW, tY, rY), rfl, hp, by rw [ht]; exact hP, va_K.moved hW.alike hK, hD⟩, hS.F ht⟩) hS.2.2 aSX.2.2.1
def ws_X7_read_69 (post K27 : Int32 -> Int32 -> Int32 -> Int32 -> Int32 -> Int32 -> Int32 -> Int32 -> (Nat -> Int32) -> (Nat -> Int32) -> (Nat -> Int32) -> Prop) (qL rX : Int32) (qM : Nat -> Int32) (x2 qJ pQ qI sY uG pY nJ : Int32) (tW pN uW : Nat -> Int32) : Prop := ∀ aHe : Int32, aHe = x2 + 1 -> K27 aHe qJ pQ qI sY uG pY nJ tW pN uW
set_option maxHeartbeats 4000000 in
set_option maxRecDepth 100000 in
theorem ks_X7_read_69 (C0 : gc aEh (some .boolean) 3 RX7 (dC, dI) (tyl cI cC cZ cB cJ) A p s m args meth c) {K27 : Int32 -> Int32 -> Int32 -> Int32 -> Int32 -> Int32 -> Int32 -> Int32 -> (Nat -> Int32) -> (Nat -> Int32) -> (Nat -> Int32) -> Prop} (hK27 : ∀ (x2 : Int32) (qJ : Int32) (pQ : Int32) (qI : Int32) (sY : Int32) (uG : Int32) (pY : Int32) (nJ : Int32) (tW : Nat -> Int32) (pN : Nat -> Int32) (uW : Nat -> Int32) (tY : Nat) (rY : Nat) (H : Heap) (locs : List Loc) (ls : Array Slot), K27 x2 qJ pQ qI sY uG pY nJ tW pN uW -> va_P (dC, dI) classes (aJX cI cC cZ cB cJ xI uY xO uS tX uR rY tY qL qJ rX qM pQ qI sY uG pY nJ tW pN uW) H -> va_D A (aJX cI cC cZ cB cJ xI uY xO uS tX uR rY tY qL qJ rX qM pQ qI sY uG pY nJ tW pN uW) -> va_S A s.heap H locs -> lv_has ls 3 [(0, .ref xO), (1, .ref xI), (2, .int x2)] -> W p l e rm_X7_read s m args below meth c H locs 0 0 (MQ below (q_X7_read dC dI cI cC cZ cB cJ A xI uY xO uS tX uR qL rX qM post) args s 0 0 A) (F0 m 27 ls [])) : ∀ (x2 qJ pQ qI sY uG pY nJ : Int32) (tW pN uW : Nat -> Int32) (tY rY : Nat) (H : Heap) (locs : List Loc) (ls : Array Slot), (ws_X7_read_69 post K27 qL rX qM) x2 qJ pQ qI sY uG pY nJ tW pN uW -> va_P (dC, dI) classes (aJX cI cC cZ cB cJ xI uY xO uS tX uR rY tY qL qJ rX qM pQ qI sY uG pY nJ tW pN uW) H -> va_D A (aJX cI cC cZ cB cJ xI uY xO uS tX uR rY tY qL qJ rX qM pQ qI sY uG pY nJ tW pN uW) -> va_S A s.heap H locs -> lv_has ls 3 [(0, .ref xO), (1, .ref xI), (2, .int x2)] -> W p l e rm_X7_read s m args below meth c H locs 0 0 (MQ below (q_X7_read dC dI cI cC cZ cB cJ A xI uY xO uS tX uR qL rX qM post) args s 0 0 A) (F0 m 69 ls []) := by
  obtain ⟨hx, hb, hr, hml, hown, hts, hlocks, hA, hK, hN, tL, tM, hZL, hTL, hZM, hTM, hZX⟩ := id C0
  intro x2 qJ pQ qI sY uG pY nJ tW pN uW tY rY H locs ls hp hP hD hS hl
  unfold ws_X7_read_69 at hp
  obtain ⟨aHe, ev_15⟩ : ∃ y : Int32, y = x2 + 1 := ⟨_, rfl⟩
  refine lv_iinc (v := aHe) (lv' := [(2, .int aHe), (0, .ref xO), (1, .ref xI)]) hx hb aVa.2.2.2.2.2.2.1 hl (k := 2) rfl (by rw [ev_15]; rfl) (by decide) rfl (fun ls hl => ?_)
  have hp := hp aHe ev_15
  refine lv_goto (tgt := 27) hx hb aVa.2.2.2.2.2.2.2.1 (by decide) ?_
  exact hK27 aHe qJ pQ qI sY uG pY nJ tW pN uW tY rY H locs ls hp hP hD hS (lv_sub hl [1, 2, 0] rfl)
def ws_X7_read_27 (post next : Int32 -> Int32 -> Int32 -> Int32 -> Int32 -> Int32 -> Int32 -> Int32 -> (Nat -> Int32) -> (Nat -> Int32) -> (Nat -> Int32) -> Prop) (qL rX : Int32) (qM : Nat -> Int32) (x2 qJ pQ qI sY uG pY nJ : Int32) (tW pN uW : Nat -> Int32) : Prop := (40 <= x2 -> ws_X7_read_75 post qL rX qM qJ pQ qI sY uG pY nJ tW pN uW) /\ (¬ 40 <= x2 -> wp_X8_here (fun r_5 => (r_5 = (-1) -> ws_X7_read_75 post qL rX qM qJ pQ qI sY uG pY nJ tW pN uW) /\ (¬ r_5 = (-1) -> (nJ = 0 -> wp_X7_readBehindThing (fun r_6 tx_place_7 ru_drafted_8 ru_waits_9 ru_open_10 ru_compared_11 ru_wantsThing_12 ru_waiting_13 ru_draft_14 => (¬ r_6 = 0 -> ws_X7_read_69 post next qL rX qM x2 tx_place_7 pQ ru_drafted_8 ru_waits_9 ru_open_10 ru_compared_11 ru_wantsThing_12 ru_waiting_13 pN ru_draft_14) /\ (r_6 = 0 -> post 0 tx_place_7 pQ ru_drafted_8 ru_waits_9 ru_open_10 ru_compared_11 ru_wantsThing_12 ru_waiting_13 pN ru_draft_14)) qJ rX qM qI sY uG pY nJ tW uW) /\ (¬ nJ = 0 -> wp_X7_readThing (fun r_16 tx_place_17 ru_drafted_18 ru_waits_19 ru_open_20 ru_compared_21 ru_wantsThing_22 ru_waiting_23 ru_draft_24 => (r_16 = 0 -> post 0 tx_place_17 pQ ru_drafted_18 ru_waits_19 ru_open_20 ru_compared_21 ru_wantsThing_22 ru_waiting_23 pN ru_draft_24) /\ (¬ r_16 = 0 -> ws_X7_read_69 post next qL rX qM x2 tx_place_17 pQ ru_drafted_18 ru_waits_19 ru_open_20 ru_compared_21 ru_wantsThing_22 ru_waiting_23 pN ru_draft_24)) qJ rX qM qI sY uG pY nJ tW uW))) qJ rX qM)
noncomputable def wb_X7_read_27 (post : Int32 -> Int32 -> Int32 -> Int32 -> Int32 -> Int32 -> Int32 -> Int32 -> (Nat -> Int32) -> (Nat -> Int32) -> (Nat -> Int32) -> Prop) (qL rX : Int32) (qM : Nat -> Int32) : Nat -> Int32 -> Int32 -> Int32 -> Int32 -> Int32 -> Int32 -> Int32 -> Int32 -> (Nat -> Int32) -> (Nat -> Int32) -> (Nat -> Int32) -> Prop := fun n => Nat.rec (motive := fun _ => Int32 -> Int32 -> Int32 -> Int32 -> Int32 -> Int32 -> Int32 -> Int32 -> (Nat -> Int32) -> (Nat -> Int32) -> (Nat -> Int32) -> Prop) (fun _ _ _ _ _ _ _ _ _ _ _ => False) (fun _ ih => ws_X7_read_27 post ih qL rX qM) n
set_option maxHeartbeats 4000000 in
set_option maxRecDepth 100000 in
theorem ks_X7_read_27 (C0 : gc aEh (some .boolean) 3 RX7 (dC, dI) (tyl cI cC cZ cB cJ) A p s m args meth c) {next : Int32 -> Int32 -> Int32 -> Int32 -> Int32 -> Int32 -> Int32 -> Int32 -> (Nat -> Int32) -> (Nat -> Int32) -> (Nat -> Int32) -> Prop} (hKn : ∀ (x2 : Int32) (qJ : Int32) (pQ : Int32) (qI : Int32) (sY : Int32) (uG : Int32) (pY : Int32) (nJ : Int32) (tW : Nat -> Int32) (pN : Nat -> Int32) (uW : Nat -> Int32) (tY : Nat) (rY : Nat) (H : Heap) (locs : List Loc) (ls : Array Slot), next x2 qJ pQ qI sY uG pY nJ tW pN uW -> va_P (dC, dI) classes (aJX cI cC cZ cB cJ xI uY xO uS tX uR rY tY qL qJ rX qM pQ qI sY uG pY nJ tW pN uW) H -> va_D A (aJX cI cC cZ cB cJ xI uY xO uS tX uR rY tY qL qJ rX qM pQ qI sY uG pY nJ tW pN uW) -> va_S A s.heap H locs -> lv_has ls 3 [(0, .ref xO), (1, .ref xI), (2, .int x2)] -> W p l e rm_X7_read s m args below meth c H locs 0 0 (MQ below (q_X7_read dC dI cI cC cZ cB cJ A xI uY xO uS tX uR qL rX qM post) args s 0 0 A) (F0 m 27 ls [])) : ∀ (x2 qJ pQ qI sY uG pY nJ : Int32) (tW pN uW : Nat -> Int32) (tY rY : Nat) (H : Heap) (locs : List Loc) (ls : Array Slot), (ws_X7_read_27 post next qL rX qM) x2 qJ pQ qI sY uG pY nJ tW pN uW -> va_P (dC, dI) classes (aJX cI cC cZ cB cJ xI uY xO uS tX uR rY tY qL qJ rX qM pQ qI sY uG pY nJ tW pN uW) H -> va_D A (aJX cI cC cZ cB cJ xI uY xO uS tX uR rY tY qL qJ rX qM pQ qI sY uG pY nJ tW pN uW) -> va_S A s.heap H locs -> lv_has ls 3 [(0, .ref xO), (1, .ref xI), (2, .int x2)] -> W p l e rm_X7_read s m args below meth c H locs 0 0 (MQ below (q_X7_read dC dI cI cC cZ cB cJ A xI uY xO uS tX uR qL rX qM post) args s 0 0 A) (F0 m 27 ls []) := by
  obtain ⟨hx, hb, hr, hml, hown, hts, hlocks, hA, hK, hN, tL, tM, hZL, hTL, hZM, hTM, hZX⟩ := id C0
  intro x2 qJ pQ qI sY uG pY nJ tW pN uW tY rY H locs ls hp hP hD hS hl
  unfold ws_X7_read_27 at hp
  refine lv_iload_n hx hb bAY.2.1 rfl (lv_at hl 2 rfl) ?_
  refine lv_bipush (v := 40) hx hb bAY.2.2.1 bp_40 ?_
  refine lv_icmp_ge (tgt := 75) hx hb bAY.2.2.2.1 (by decide) (fun hc => ?_) (fun hc => ?_)
  · have hp := hp.1 hc
    exact ks_X7_read_75 C0 qJ pQ qI sY uG pY nJ tW pN uW tY rY H locs ls hp hP hD hS (lv_sub hl [0, 1] rfl)
  · have hp := hp.2 hc
    refine lv_aload_n hx hb bAY.2.2.2.2.1 rfl (lv_at hl 1 rfl) ?_
    have hm := mgk (wc := (wd_X8_here cI cC cZ cB cJ xI uY qL qJ rX qM)) hP mk_26 6 rfl rfl rfl
    refine yW hP hD hS hA (yS mk_26) (aAi mk_26) hm.1 hm.2 (aAk _) (zW _) (zF (As := []) (rest := []) C0 hP hD hS (yS mk_26) hm.1 (aAl _) 0 8 rfl rfl (c_X8_here l dC dI cI cC cZ cB cJ xI uY H.size qL qJ rX qM _ hp) q_33 q_113 q_34 q_35 q_5 h_X8_here rfl rfl ⟨lbz rfl, lbz rfl⟩ rfl rfl hl.1 rfl (lv_room (lbz rfl)) bAY.2.2.2.2.2.1 ⟨Nat.zero_le _, Nat.zero_le _⟩) (fun r_5 u H locs hp hP hD hS => ?_)
    have hPD := PDm (ws' := (aJX cI cC cZ cB cJ xI uY xO uS tX uR rY tY qL qJ rX qM pQ qI sY uG pY nJ tW pN uW)) hP hD 6 rfl rfl rfl
    have hP := hPD.1
    have hD := hPD.2
    refine lv_iconst (v := (-1)) hx hb bAY.2.2.2.2.2.2.1 aEJ ?_
    refine lv_icmp_eq (tgt := 75) hx hb bAY.2.2.2.2.2.2.2.1 (by decide) (fun hc => ?_) (fun hc => ?_)
    · have hp := hp.1 hc
      exact ks_X7_read_75 C0 qJ pQ qI sY uG pY nJ tW pN uW tY rY H locs ls hp hP hD hS (lv_sub hl [0, 1] rfl)
    · have hp := hp.2 hc
      refine lv_aload_n hx hb bAY.2.2.2.2.2.2.2.2.1 rfl (lv_at hl 0 rfl) ?_
      refine va_get (D := (dC, dI)) (ci := 7) (v := .int nJ) (C := RX7) (T := TX7) (N := 11) hx hb hts i_X7 hown hK hP 2 rfl rfl 10 (lbz rfl) (hts _ q_112) (fun _ h9 => h9) rfl bAY.2.2.2.2.2.2.2.2.2.1 ?_
      refine lv_if_eq (tgt := 59) hx hb bAY.2.2.2.2.2.2.2.2.2.2.1 (by decide) (fun hc => ?_) (fun hc => ?_)
      · have hp := hp.1 hc
        refine lv_aload_n hx hb aVa.1 rfl (lv_at hl 0 rfl) ?_
        refine lv_aload_n hx hb aVa.2.1 rfl (lv_at hl 1 rfl) ?_
        have hm := mgk (wc := (aD9 cI cC cZ cB cJ xI uY xO uS tX uR rY tY qL qJ rX qM pQ qI sY uG pY nJ tW uW)) hP mk_27 6 rfl rfl rfl
        refine yW hP hD hS hA (yS mk_27) (aAi mk_27) hm.1 hm.2 (aAk _) (zW _) (zF (As := [.ref xI]) (rest := []) C0 hP hD hS (yS mk_27) hm.1 (aAl _) 2 7 rfl rfl (c_X7_readBehindThing l dC dI cI cC cZ cB cJ xI uY xO uS tX uR rY tY H.size qL qJ rX qM pQ qI sY uG pY nJ tW uW _ hp) q_138 q_141 q_139 q_140 q_108 h_X7_readBehindThing rfl rfl ⟨lbz rfl, lbz rfl⟩ rfl rfl hl.1 rfl (lv_room (lbz rfl)) aVa.2.2.1 ⟨Nat.zero_le _, Nat.zero_le _⟩) (fun r_6 u H locs hp hP hD hS => ?_)
        obtain ⟨tx_place_7, ru_drafted_8, ru_waits_9, ru_open_10, ru_compared_11, ru_wantsThing_12, ru_waiting_13, ru_draft_14⟩ := u
        have hPD := PDm (ws' := (aJX cI cC cZ cB cJ xI uY xO uS tX uR rY tY qL tx_place_7 rX qM pQ ru_drafted_8 ru_waits_9 ru_open_10 ru_compared_11 ru_wantsThing_12 ru_waiting_13 pN ru_draft_14)) hP hD 6 rfl rfl rfl
        have hP := hPD.1
        have hD := hPD.2
        refine lv_if_ne (tgt := 69) hx hb aVa.2.2.2.1 (by decide) (fun hc => ?_) (fun hc => ?_)
        · have hp := hp.1 hc
          exact ks_X7_read_69 C0 hKn x2 tx_place_7 pQ ru_drafted_8 ru_waits_9 ru_open_10 ru_compared_11 ru_wantsThing_12 ru_waiting_13 pN ru_draft_14 tY rY H locs ls hp hP hD hS (lv_sub hl [0, 1, 2] rfl)
        · have hp := hp.2 hc
          refine lv_iconst (v := 0) hx hb aVa.2.2.2.2.1 aCi ?_
          exact W.zret (v := 0) hx hb hr rfl (fun t ht hW => ⟨⟨0, (tx_place_7, pQ, ru_drafted_8, ru_waits_9, ru_open_10, ru_compared_11, ru_wantsThing_12, ru_waiting_13, pN, ru_draft_14, tY, rY), rfl, hp, by rw [ht]; exact hP, va_K.moved hW.alike hK, hD⟩, hS.F ht⟩) hS.2.2 aVa.2.2.2.2.2.1
      · have hp := hp.2 hc
        refine lv_aload_n hx hb bAY.2.2.2.2.2.2.2.2.2.2.2.1 rfl (lv_at hl 0 rfl) ?_
        refine lv_aload_n hx hb bAY.2.2.2.2.2.2.2.2.2.2.2.2.1 rfl (lv_at hl 1 rfl) ?_
        have hm := mgk (wc := (aMu cI cC cZ cB cJ xI uY xO uS tX uR rY tY qL qJ rX qM pQ qI sY uG pY nJ tW uW)) hP mk_27 6 rfl rfl rfl
        refine yW hP hD hS hA (yS mk_27) (aAi mk_27) hm.1 hm.2 (aAk _) (zW _) (zF (As := [.ref xI]) (rest := []) C0 hP hD hS (yS mk_27) hm.1 (aAl _) 2 7 rfl rfl (c_X7_readThing l dC dI cI cC cZ cB cJ xI uY xO uS tX uR rY tY H.size qL qJ rX qM pQ qI sY uG pY nJ tW uW _ hp) q_142 q_145 q_143 q_144 q_108 h_X7_readThing rfl rfl ⟨lbz rfl, lbz rfl⟩ rfl rfl hl.1 rfl (lv_room (lbz rfl)) bAY.2.2.2.2.2.2.2.2.2.2.2.2.2.1 ⟨Nat.zero_le _, Nat.zero_le _⟩) (fun r_16 u H locs hp hP hD hS => ?_)
        obtain ⟨tx_place_17, ru_drafted_18, ru_waits_19, ru_open_20, ru_compared_21, ru_wantsThing_22, ru_waiting_23, ru_draft_24⟩ := u
        have hPD := PDm (ws' := (aJX cI cC cZ cB cJ xI uY xO uS tX uR rY tY qL tx_place_17 rX qM pQ ru_drafted_18 ru_waits_19 ru_open_20 ru_compared_21 ru_wantsThing_22 ru_waiting_23 pN ru_draft_24)) hP hD 6 rfl rfl rfl
        have hP := hPD.1
        have hD := hPD.2
        refine lv_if_eq (tgt := 67) hx hb bAY.2.2.2.2.2.2.2.2.2.2.2.2.2.2.1 (by decide) (fun hc => ?_) (fun hc => ?_)
        · have hp := hp.1 hc
          refine lv_iconst (v := 0) hx hb aVa.2.2.2.2.1 aCi ?_
          exact W.zret (v := 0) hx hb hr rfl (fun t ht hW => ⟨⟨0, (tx_place_17, pQ, ru_drafted_18, ru_waits_19, ru_open_20, ru_compared_21, ru_wantsThing_22, ru_waiting_23, pN, ru_draft_24, tY, rY), rfl, hp, by rw [ht]; exact hP, va_K.moved hW.alike hK, hD⟩, hS.F ht⟩) hS.2.2 aVa.2.2.2.2.2.1
        · have hp := hp.2 hc
          refine lv_goto (tgt := 69) hx hb bAY.2.2.2.2.2.2.2.2.2.2.2.2.2.2.2 (by decide) ?_
          exact ks_X7_read_69 C0 hKn x2 tx_place_17 pQ ru_drafted_18 ru_waits_19 ru_open_20 ru_compared_21 ru_wantsThing_22 ru_waiting_23 pN ru_draft_24 tY rY H locs ls hp hP hD hS (lv_sub hl [0, 1, 2] rfl)
set_option maxHeartbeats 4000000 in
set_option maxRecDepth 100000 in
theorem kb_X7_read_27 (C0 : gc aEh (some .boolean) 3 RX7 (dC, dI) (tyl cI cC cZ cB cJ) A p s m args meth c) : ∀ (n : Nat), ∀ (x2 qJ pQ qI sY uG pY nJ : Int32) (tW pN uW : Nat -> Int32) (tY rY : Nat) (H : Heap) (locs : List Loc) (ls : Array Slot), (wb_X7_read_27 post qL rX qM n) x2 qJ pQ qI sY uG pY nJ tW pN uW -> va_P (dC, dI) classes (aJX cI cC cZ cB cJ xI uY xO uS tX uR rY tY qL qJ rX qM pQ qI sY uG pY nJ tW pN uW) H -> va_D A (aJX cI cC cZ cB cJ xI uY xO uS tX uR rY tY qL qJ rX qM pQ qI sY uG pY nJ tW pN uW) -> va_S A s.heap H locs -> lv_has ls 3 [(0, .ref xO), (1, .ref xI), (2, .int x2)] -> W p l e rm_X7_read s m args below meth c H locs 0 0 (MQ below (q_X7_read dC dI cI cC cZ cB cJ A xI uY xO uS tX uR qL rX qM post) args s 0 0 A) (F0 m 27 ls []) := by
  intro n
  induction n with
  | zero =>
    intro x2 qJ pQ qI sY uG pY nJ tW pN uW tY rY H locs ls hp
    exact False.elim hp
  | succ n ih =>
    intro x2 qJ pQ qI sY uG pY nJ tW pN uW tY rY H locs ls hp
    exact ks_X7_read_27 C0 ih x2 qJ pQ qI sY uG pY nJ tW pN uW tY rY H locs ls hp
end S_X7_read
def wp_X7_read (post : Int32 -> Int32 -> Int32 -> Int32 -> Int32 -> Int32 -> Int32 -> Int32 -> (Nat -> Int32) -> (Nat -> Int32) -> (Nat -> Int32) -> Prop) (qL qJ rX : Int32) (qM : Nat -> Int32) (pQ qI sY uG pY nJ : Int32) (tW pN uW : Nat -> Int32) : Prop := ∃ n : Nat, wb_X7_read_27 post qL rX qM n 0 qJ pQ 0 0 0 0 1 tW pN uW
set_option maxHeartbeats 4000000 in
set_option maxRecDepth 100000 in
theorem c_X7_read (l : Launch) (dC : Nat -> ClassId) (dI : Nat -> Nat -> Nat) (cI cC cZ cB cJ : ClassId) (xI uY xO uS tX uR rY tY sz : Nat) (qL qJ rX : Int32) (qM : Nat -> Int32) (pQ qI sY uG pY nJ : Int32) (tW pN uW : Nat -> Int32) (post : Int32 -> Int32 -> Int32 -> Int32 -> Int32 -> Int32 -> Int32 -> Int32 -> (Nat -> Int32) -> (Nat -> Int32) -> (Nat -> Int32) -> Prop) (hw : wp_X7_read post qL qJ rX qM pQ qI sY uG pY nJ tW pN uW) : Met l yX7_read (gw yX7_read aEh 3 (some .boolean)) rm_X7_read (va_Pc [.ref xO, .ref xI] (gPre (dC, dI) (tyl cI cC cZ cB cJ) (aJX cI cC cZ cB cJ xI uY xO uS tX uR rY tY qL qJ rX qM pQ qI sY uG pY nJ tW pN uW) sz)) (q_X7_read dC dI cI cC cZ cB cJ (va_A (aJX cI cC cZ cB cJ xI uY xO uS tX uR rY tY qL qJ rX qM pQ qI sY uG pY nJ tW pN uW) sz) xI uY xO uS tX uR qL rX qM post) 0 0 (va_A (aJX cI cC cZ cB cJ xI uY xO uS tX uR rY tY qL qJ rX qM pQ qI sY uG pY nJ tW pN uW) sz) := by
  refine aBJ (own := RX7) (dC, dI) (tyl cI cC cZ cB cJ) (aJX cI cC cZ cB cJ xI uY xO uS tX uR rY tY qL qJ rX qM pQ qI sY uG pY nJ tW pN uW) sz [.ref xO, .ref xI] (fun A => q_X7_read dC dI cI cC cZ cB cJ A xI uY xO uS tX uR qL rX qM post) pn_RX7 rfl (lbz rfl) ?_
  intro p e s m args below meth c A H locs ls C0 hP hD hS hl
  have hl : lv_has ls 3 [(0, .ref xO), (1, .ref xI)] := hl
  obtain ⟨hx, hb, hr, hml, hown, hts, hlocks, hA, hK, hN, tL, tM, hZL, hTL, hZM, hTM, hZX⟩ := id C0
  have hp := hw
  unfold wp_X7_read at hp
  refine lv_aload_n hx hb eX7_read_0.1 rfl (lv_at hl 0 rfl) ?_
  refine lv_iconst (v := 0) hx hb eX7_read_0.2.1 aCi ?_
  refine va_put (D := (dC, dI)) (ci := 7) (v := .int 0) (ty := .int) (C := RX7) (T := TX7) (N := 11) hx hb hts i_X7 tyX7 aLP nmX7 hown hK hP hD hS 2 rfl rfl 6 (lbz rfl) (hts _ q_104) (fun _ h9 => h9) rfl (aLP 6 (lbz rfl)) rfl rfl (lbz rfl) eX7_read_0.2.2.1 (fun H locs hP hD hS => ?_)
  have hPD := PDw (ws' := (aJX cI cC cZ cB cJ xI uY xO uS tX uR rY tY qL qJ rX qM pQ 0 sY uG pY nJ tW pN uW)) hP hD rfl
  have hP := hPD.1
  have hD := hPD.2
  refine lv_aload_n hx hb eX7_read_0.2.2.2.1 rfl (lv_at hl 0 rfl) ?_
  refine lv_iconst (v := 0) hx hb eX7_read_0.2.2.2.2.1 aCi ?_
  refine va_put (D := (dC, dI)) (ci := 7) (v := .int 0) (ty := .int) (C := RX7) (T := TX7) (N := 11) hx hb hts i_X7 tyX7 aLP nmX7 hown hK hP hD hS 2 rfl rfl 7 (lbz rfl) (hts _ q_102) (fun _ h9 => h9) rfl (aLP 7 (lbz rfl)) rfl rfl (lbz rfl) eX7_read_0.2.2.2.2.2.1 (fun H locs hP hD hS => ?_)
  have hPD := PDw (ws' := (aJX cI cC cZ cB cJ xI uY xO uS tX uR rY tY qL qJ rX qM pQ 0 0 uG pY nJ tW pN uW)) hP hD rfl
  have hP := hPD.1
  have hD := hPD.2
  refine lv_aload_n hx hb eX7_read_0.2.2.2.2.2.2.1 rfl (lv_at hl 0 rfl) ?_
  refine lv_iconst (v := 0) hx hb eX7_read_0.2.2.2.2.2.2.2.1 aCi ?_
  refine va_put (D := (dC, dI)) (ci := 7) (v := .int 0) (ty := .int) (C := RX7) (T := TX7) (N := 11) hx hb hts i_X7 tyX7 aLP nmX7 hown hK hP hD hS 2 rfl rfl 8 (lbz rfl) (hts _ q_120) (fun _ h9 => h9) rfl (aLP 8 (lbz rfl)) rfl rfl (lbz rfl) eX7_read_0.2.2.2.2.2.2.2.2.1 (fun H locs hP hD hS => ?_)
  have hPD := PDw (ws' := (aJX cI cC cZ cB cJ xI uY xO uS tX uR rY tY qL qJ rX qM pQ 0 0 0 pY nJ tW pN uW)) hP hD rfl
  have hP := hPD.1
  have hD := hPD.2
  refine lv_aload_n hx hb eX7_read_0.2.2.2.2.2.2.2.2.2.1 rfl (lv_at hl 0 rfl) ?_
  refine lv_iconst (v := 0) hx hb eX7_read_0.2.2.2.2.2.2.2.2.2.2.1 aCi ?_
  refine va_put (D := (dC, dI)) (ci := 7) (v := .int 0) (ty := .int) (C := RX7) (T := TX7) (N := 11) hx hb hts i_X7 tyX7 aLP nmX7 hown hK hP hD hS 2 rfl rfl 9 (lbz rfl) (hts _ q_121) (fun _ h9 => h9) rfl (aLP 9 (lbz rfl)) rfl rfl (lbz rfl) eX7_read_0.2.2.2.2.2.2.2.2.2.2.2.1 (fun H locs hP hD hS => ?_)
  have hPD := PDw (ws' := (aJX cI cC cZ cB cJ xI uY xO uS tX uR rY tY qL qJ rX qM pQ 0 0 0 0 nJ tW pN uW)) hP hD rfl
  have hP := hPD.1
  have hD := hPD.2
  refine lv_aload_n hx hb eX7_read_0.2.2.2.2.2.2.2.2.2.2.2.2.1 rfl (lv_at hl 0 rfl) ?_
  refine lv_iconst (v := 1) hx hb eX7_read_0.2.2.2.2.2.2.2.2.2.2.2.2.2.1 aDx ?_
  refine va_put (D := (dC, dI)) (ci := 7) (v := .int 1) (ty := .boolean) (C := RX7) (T := TX7) (N := 11) hx hb hts i_X7 tyX7 aLP nmX7 hown hK hP hD hS 2 rfl rfl 10 (lbz rfl) (hts _ q_112) (fun _ h9 => h9) rfl (aLP 10 (lbz rfl)) rfl rfl (lbz rfl) eX7_read_0.2.2.2.2.2.2.2.2.2.2.2.2.2.2.1 (fun H locs hP hD hS => ?_)
  have hPD := PDw (ws' := (aJX cI cC cZ cB cJ xI uY xO uS tX uR rY tY qL qJ rX qM pQ 0 0 0 0 1 tW pN uW)) hP hD rfl
  have hP := hPD.1
  have hD := hPD.2
  refine lv_iconst (v := 0) hx hb eX7_read_0.2.2.2.2.2.2.2.2.2.2.2.2.2.2.2 aCi ?_
  refine lv_istore_n (lv' := [(2, .int 0), (0, .ref xO), (1, .ref xI)]) hx hb bAY.1 rfl hl (by decide) rfl (fun ls hl => ?_)
  obtain ⟨n9, hp⟩ := hp
  exact kb_X7_read_27 C0 n9 0 qJ pQ 0 0 0 0 1 tW pN uW tY rY H locs ls hp hP hD hS (lv_sub hl [1, 2, 0] rfl)
abbrev wd_X9_rule (cI cC cZ cB cJ : ClassId) (a_x xI xH xB vI wY xX yA xY uD uY xO uS tX uR rY tY : Nat) (qL qJ rX : Int32) (qM : Nat -> Int32) (pQ qI sY uG pY nJ : Int32) (tW pN uW : Nat -> Int32) : va_W := [(a_x, .inr (9, [.ref xI, .ref xH, .ref xB, .ref vI, .ref wY, .ref xX, .ref yA, .ref xY, .ref uD])), (xI, .inr (8, [.ref uY, .int qL, .int qJ, .int rX])), (uY, .inl (cC, 80, .inl qM)), (xB, .inr (0, [.ref vI, .ref wY, .ref xO])), (xO, .inr (7, [.ref uS, .ref tX, .ref uR, .ref rY, .ref tY, .int pQ, .int qI, .int sY, .int uG, .int pY, .int nJ])), (tX, .inl (cI, 40, .inl tW)), (rY, .inl (cI, 40, .inl pN)), (tY, .inl (cI, 40, .inl uW))]
abbrev q_X9_rule (dC : Nat -> ClassId) (dI : Nat -> Nat -> Nat) (cI cC cZ cB cJ : ClassId) (A : Nat -> Prop) (a_x xI xH xB vI wY xX yA xY uD uY xO uS tX uR : Nat) (qM : Nat -> Int32) (post : Int32 -> Int32 -> Int32 -> Int32 -> Int32 -> Int32 -> Int32 -> Int32 -> Int32 -> Int32 -> (Nat -> Int32) -> (Nat -> Int32) -> (Nat -> Int32) -> Prop) : Array Value -> State -> Outcome -> State -> Prop := va_Qi (fun (r : Int32) (u : Int32 × Int32 × Int32 × Int32 × Int32 × Int32 × Int32 × Int32 × Int32 × (Nat -> Int32) × (Nat -> Int32) × (Nat -> Int32) × Nat × Nat) => post r u.1 u.2.1 u.2.2.1 u.2.2.2.1 u.2.2.2.2.1 u.2.2.2.2.2.1 u.2.2.2.2.2.2.1 u.2.2.2.2.2.2.2.1 u.2.2.2.2.2.2.2.2.1 u.2.2.2.2.2.2.2.2.2.1 u.2.2.2.2.2.2.2.2.2.2.1 u.2.2.2.2.2.2.2.2.2.2.2.1) (fun u t => gB (dC, dI) (tyl cI cC cZ cB cJ) A (wd_X9_rule cI cC cZ cB cJ a_x xI xH xB vI wY xX yA xY uD uY xO uS tX uR u.2.2.2.2.2.2.2.2.2.2.2.2.2 u.2.2.2.2.2.2.2.2.2.2.2.2.1 u.1 u.2.1 u.2.2.1 qM u.2.2.2.1 u.2.2.2.2.1 u.2.2.2.2.2.1 u.2.2.2.2.2.2.1 u.2.2.2.2.2.2.2.1 u.2.2.2.2.2.2.2.2.1 u.2.2.2.2.2.2.2.2.2.1 u.2.2.2.2.2.2.2.2.2.2.1 u.2.2.2.2.2.2.2.2.2.2.2.1) t) A
abbrev rm_X9_rule : Room := { frames := 7, cells := 0, slots := 0, locals := 178 }
section S_X9_rule
variable {p : Program} {l : Launch} {e : Env} {s : State} {m : MethodId} {args : Array Value} {below : List Frame} {meth : Method} {c : Code} {dC : Nat -> ClassId} {dI : Nat -> Nat -> Nat} {cI cC cZ cB cJ : ClassId} {A : Nat -> Prop} {a_x xI xH xB vI wY xX yA xY uD uY xO uS tX uR : Nat} {qM : Nat -> Int32} {post : Int32 -> Int32 -> Int32 -> Int32 -> Int32 -> Int32 -> Int32 -> Int32 -> Int32 -> Int32 -> (Nat -> Int32) -> (Nat -> Int32) -> (Nat -> Int32) -> Prop}
def ws_X9_rule_59 (post : Int32 -> Int32 -> Int32 -> Int32 -> Int32 -> Int32 -> Int32 -> Int32 -> Int32 -> Int32 -> (Nat -> Int32) -> (Nat -> Int32) -> (Nat -> Int32) -> Prop) (qM : Nat -> Int32) (x1 qL qJ rX pQ qI sY uG pY nJ : Int32) (tW pN uW : Nat -> Int32) : Prop := wp_X8_clear (fun tx_length_16 => post x1 tx_length_16 qJ rX pQ qI sY uG pY nJ tW pN uW) qL
set_option maxHeartbeats 4000000 in
set_option maxRecDepth 100000 in
theorem ks_X9_rule_59 (C0 : gc aOy (some .int) 2 RX9 (dC, dI) (tyl cI cC cZ cB cJ) A p s m args meth c) : ∀ (x1 qL qJ rX pQ qI sY uG pY nJ : Int32) (tW pN uW : Nat -> Int32) (tY rY : Nat) (H : Heap) (locs : List Loc) (ls : Array Slot), (ws_X9_rule_59 post qM) x1 qL qJ rX pQ qI sY uG pY nJ tW pN uW -> va_P (dC, dI) classes (wd_X9_rule cI cC cZ cB cJ a_x xI xH xB vI wY xX yA xY uD uY xO uS tX uR rY tY qL qJ rX qM pQ qI sY uG pY nJ tW pN uW) H -> va_D A (wd_X9_rule cI cC cZ cB cJ a_x xI xH xB vI wY xX yA xY uD uY xO uS tX uR rY tY qL qJ rX qM pQ qI sY uG pY nJ tW pN uW) -> va_S A s.heap H locs -> lv_has ls 2 [(0, .ref a_x), (1, .int x1)] -> W p l e rm_X9_rule s m args below meth c H locs 0 0 (MQ below (q_X9_rule dC dI cI cC cZ cB cJ A a_x xI xH xB vI wY xX yA xY uD uY xO uS tX uR qM post) args s 0 0 A) (F0 m 59 ls []) := by
  obtain ⟨hx, hb, hr, hml, hown, hts, hlocks, hA, hK, hN, tL, tM, hZL, hTL, hZM, hTM, hZX⟩ := id C0
  intro x1 qL qJ rX pQ qI sY uG pY nJ tW pN uW tY rY H locs ls hp hP hD hS hl
  unfold ws_X9_rule_59 at hp
  refine lv_aload_n hx hb eX9_rule_35.2.2.2.2.2.2.2.2.2.2.1 rfl (lv_at hl 0 rfl) ?_
  refine va_get (D := (dC, dI)) (ci := 9) (v := .ref xI) (C := RX9) (T := TX9) (N := 9) hx hb hts aC3 hown hK hP 0 rfl rfl 0 (lbz rfl) (hts _ q_3) (fun _ h9 => h9) rfl eX9_rule_35.2.2.2.2.2.2.2.2.2.2.2.1 ?_
  have hm := mgk (wc := (wd_X8_clear cI cC cZ cB cJ xI uY qL qJ rX)) hP mk_28 8 rfl rfl rfl
  refine aBn hP hD hS hA (yS mk_28) (aAi mk_28) hm.1 hm.2 (aAk _) (zW _) (zF (As := []) (rest := []) C0 hP hD hS (yS mk_28) hm.1 (aAl _) 1 8 rfl rfl (c_X8_clear l dC dI cI cC cZ cB cJ xI uY H.size qL qJ rX _ hp) q_83 q_86 q_84 q_85 q_5 h_X8_clear rfl rfl ⟨lbz rfl, lbz rfl⟩ rfl rfl hl.1 rfl (lv_room (lbz rfl)) eX9_rule_35.2.2.2.2.2.2.2.2.2.2.2.2.1 ⟨Nat.zero_le _, Nat.zero_le _⟩) (fun u H locs hp hP hD hS => ?_)
  obtain ⟨tx_length_16, rfl⟩ : ∃ z, z = u := ⟨_, rfl⟩
  have hPD := PDm (ws' := (wd_X9_rule cI cC cZ cB cJ a_x xI xH xB vI wY xX yA xY uD uY xO uS tX uR rY tY tx_length_16 qJ rX qM pQ qI sY uG pY nJ tW pN uW)) hP hD 8 rfl rfl rfl
  have hP := hPD.1
  have hD := hPD.2
  refine lv_iload_n hx hb eX9_rule_35.2.2.2.2.2.2.2.2.2.2.2.2.2.1 rfl (lv_at hl 1 rfl) ?_
  exact W.iret (v := x1) hx hb hr (fun t ht hW => ⟨⟨x1, (tx_length_16, qJ, rX, pQ, qI, sY, uG, pY, nJ, tW, pN, uW, tY, rY), rfl, hp, by rw [ht]; exact hP, va_K.moved hW.alike hK, hD⟩, hS.F ht⟩) hS.2.2 eX9_rule_35.2.2.2.2.2.2.2.2.2.2.2.2.2.2
end S_X9_rule
def wp_X9_rule (post : Int32 -> Int32 -> Int32 -> Int32 -> Int32 -> Int32 -> Int32 -> Int32 -> Int32 -> Int32 -> (Nat -> Int32) -> (Nat -> Int32) -> (Nat -> Int32) -> Prop) (qL qJ rX : Int32) (qM : Nat -> Int32) (pQ qI sY uG pY nJ : Int32) (tW pN uW : Nat -> Int32) : Prop := wp_X8_open (fun aRK aJl => (¬ qL = 0 -> wp_X7_read (fun r_3 aDB ru_length_5 aW9 ru_waits_7 ru_open_8 ru_compared_9 aZc aVL ru_program_12 aSa => (¬ r_3 = 0 -> ws_X9_rule_59 post qM 0 qL aDB aJl ru_length_5 aW9 ru_waits_7 ru_open_8 ru_compared_9 aZc aVL ru_program_12 aSa) /\ (r_3 = 0 -> wp_X8_wrong (fun r_17 => ws_X9_rule_59 post qM r_17 qL aDB aJl ru_length_5 aW9 ru_waits_7 ru_open_8 ru_compared_9 aZc aVL ru_program_12 aSa) aDB)) qL aRK aJl qM pQ qI sY uG pY nJ tW pN uW) /\ (qL = 0 -> wp_X7_drop (fun ru_length_18 => ws_X9_rule_59 post qM 0 qL aRK aJl ru_length_18 qI sY uG pY nJ tW pN uW) pQ)) 40 qL qJ rX
set_option maxHeartbeats 4000000 in
set_option maxRecDepth 100000 in
theorem c_X9_rule (l : Launch) (dC : Nat -> ClassId) (dI : Nat -> Nat -> Nat) (cI cC cZ cB cJ : ClassId) (a_x xI xH xB vI wY xX yA xY uD uY xO uS tX uR rY tY sz : Nat) (qL qJ rX : Int32) (qM : Nat -> Int32) (pQ qI sY uG pY nJ : Int32) (tW pN uW : Nat -> Int32) (post : Int32 -> Int32 -> Int32 -> Int32 -> Int32 -> Int32 -> Int32 -> Int32 -> Int32 -> Int32 -> (Nat -> Int32) -> (Nat -> Int32) -> (Nat -> Int32) -> Prop) (hw : wp_X9_rule post qL qJ rX qM pQ qI sY uG pY nJ tW pN uW) : Met l yX9_rule (gw yX9_rule aOy 2 (some .int)) rm_X9_rule (va_Pc [.ref a_x] (gPre (dC, dI) (tyl cI cC cZ cB cJ) (wd_X9_rule cI cC cZ cB cJ a_x xI xH xB vI wY xX yA xY uD uY xO uS tX uR rY tY qL qJ rX qM pQ qI sY uG pY nJ tW pN uW) sz)) (q_X9_rule dC dI cI cC cZ cB cJ (va_A (wd_X9_rule cI cC cZ cB cJ a_x xI xH xB vI wY xX yA xY uD uY xO uS tX uR rY tY qL qJ rX qM pQ qI sY uG pY nJ tW pN uW) sz) a_x xI xH xB vI wY xX yA xY uD uY xO uS tX uR qM post) 0 0 (va_A (wd_X9_rule cI cC cZ cB cJ a_x xI xH xB vI wY xX yA xY uD uY xO uS tX uR rY tY qL qJ rX qM pQ qI sY uG pY nJ tW pN uW) sz) := by
  refine aBJ (own := RX9) (dC, dI) (tyl cI cC cZ cB cJ) (wd_X9_rule cI cC cZ cB cJ a_x xI xH xB vI wY xX yA xY uD uY xO uS tX uR rY tY qL qJ rX qM pQ qI sY uG pY nJ tW pN uW) sz [.ref a_x] (fun A => q_X9_rule dC dI cI cC cZ cB cJ A a_x xI xH xB vI wY xX yA xY uD uY xO uS tX uR qM post) pn_RX9 rfl (lbz rfl) ?_
  intro p e s m args below meth c A H locs ls C0 hP hD hS hl
  have hl : lv_has ls 2 [(0, .ref a_x)] := hl
  obtain ⟨hx, hb, hr, hml, hown, hts, hlocks, hA, hK, hN, tL, tM, hZL, hTL, hZM, hTM, hZX⟩ := id C0
  have hp := hw
  unfold wp_X9_rule at hp
  refine lv_aload_n hx hb eX9_rule_0.1 rfl (lv_at hl 0 rfl) ?_
  refine va_get (D := (dC, dI)) (ci := 9) (v := .ref xI) (C := RX9) (T := TX9) (N := 9) hx hb hts aC3 hown hK hP 0 rfl rfl 0 (lbz rfl) (hts _ q_3) (fun _ h9 => h9) rfl eX9_rule_0.2.1 ?_
  refine lv_bipush (v := 40) hx hb eX9_rule_0.2.2.1 bp_40 ?_
  have hm := mgk (wc := (wd_X8_open cI cC cZ cB cJ xI uY qL qJ rX)) hP mk_28 8 rfl rfl rfl
  refine aBn hP hD hS hA (yS mk_28) (aAi mk_28) hm.1 hm.2 (aAk _) (zW _) (zF (As := [.int 40]) (rest := []) C0 hP hD hS (yS mk_28) hm.1 (aAl _) 1 8 rfl rfl (c_X8_open l dC dI cI cC cZ cB cJ xI uY H.size 40 qL qJ rX _ hp) q_69 q_72 q_70 q_71 q_5 h_X8_open rfl rfl ⟨lbz rfl, lbz rfl⟩ rfl rfl hl.1 rfl (lv_room (lbz rfl)) eX9_rule_0.2.2.2.1 ⟨Nat.zero_le _, Nat.zero_le _⟩) (fun u H locs hp hP hD hS => ?_)
  obtain ⟨aRK, aJl⟩ := u
  have hPD := PDm (ws' := (wd_X9_rule cI cC cZ cB cJ a_x xI xH xB vI wY xX yA xY uD uY xO uS tX uR rY tY qL aRK aJl qM pQ qI sY uG pY nJ tW pN uW)) hP hD 8 rfl rfl rfl
  have hP := hPD.1
  have hD := hPD.2
  refine lv_iconst (v := 0) hx hb eX9_rule_0.2.2.2.2.1 aCi ?_
  refine lv_istore_n (lv' := [(1, .int 0), (0, .ref a_x)]) hx hb eX9_rule_0.2.2.2.2.2.1 rfl hl (by decide) rfl (fun ls hl => ?_)
  refine lv_aload_n hx hb eX9_rule_0.2.2.2.2.2.2.1 rfl (lv_at hl 1 rfl) ?_
  refine va_get (D := (dC, dI)) (ci := 9) (v := .ref xI) (C := RX9) (T := TX9) (N := 9) hx hb hts aC3 hown hK hP 0 rfl rfl 0 (lbz rfl) (hts _ q_3) (fun _ h9 => h9) rfl eX9_rule_0.2.2.2.2.2.2.2.1 ?_
  refine va_get (D := (dC, dI)) (ci := 8) (v := .int qL) (C := RX8) (T := TX8) (N := 4) hx hb hts i_X8 hown hK hP 1 rfl rfl 1 (lbz rfl) (hts _ q_73) (fun _ h9 => h9) rfl eX9_rule_0.2.2.2.2.2.2.2.2.1 ?_
  refine lv_if_ne (tgt := 34) hx hb eX9_rule_0.2.2.2.2.2.2.2.2.2.1 (by decide) (fun hc => ?_) (fun hc => ?_)
  · have hp := hp.1 hc
    refine lv_aload_n hx hb eX9_rule_0.2.2.2.2.2.2.2.2.2.2.2.2.2.2.2 rfl (lv_at hl 1 rfl) ?_
    refine va_get (D := (dC, dI)) (ci := 9) (v := .ref xB) (C := RX9) (T := TX9) (N := 9) hx hb hts aC3 hown hK hP 0 rfl rfl 2 (lbz rfl) (hts _ q_146) (fun _ h9 => h9) rfl eX9_rule_35.1 ?_
    refine va_get (D := (dC, dI)) (ci := 0) (v := .ref xO) (C := RX0) (T := TX0) (N := 3) hx hb hts i_X0 hown hK hP 3 rfl rfl 2 (lbz rfl) (hts _ q_147) (fun _ h9 => h9) rfl eX9_rule_35.2.1 ?_
    refine lv_aload_n hx hb eX9_rule_35.2.2.1 rfl (lv_at hl 1 rfl) ?_
    refine va_get (D := (dC, dI)) (ci := 9) (v := .ref xI) (C := RX9) (T := TX9) (N := 9) hx hb hts aC3 hown hK hP 0 rfl rfl 0 (lbz rfl) (hts _ q_3) (fun _ h9 => h9) rfl eX9_rule_35.2.2.2.1 ?_
    have hm := mgk (wc := (aJX cI cC cZ cB cJ xI uY xO uS tX uR rY tY qL aRK aJl qM pQ qI sY uG pY nJ tW pN uW)) hP mk_29 8 rfl rfl rfl
    refine yW hP hD hS hA (yS mk_29) (aAi mk_29) hm.1 hm.2 (aAk _) (zW _) (zF (As := [.ref xI]) (rest := []) C0 hP hD hS (yS mk_29) hm.1 (aAl _) 4 7 rfl rfl (c_X7_read l dC dI cI cC cZ cB cJ xI uY xO uS tX uR rY tY H.size qL aRK aJl qM pQ qI sY uG pY nJ tW pN uW _ hp) q_148 q_151 q_149 q_150 q_108 h_X7_read rfl rfl ⟨lbz rfl, lbz rfl⟩ rfl rfl hl.1 rfl (lv_room (lbz rfl)) eX9_rule_35.2.2.2.2.1 ⟨Nat.zero_le _, Nat.zero_le _⟩) (fun r_3 u H locs hp hP hD hS => ?_)
    obtain ⟨aDB, ru_length_5, aW9, ru_waits_7, ru_open_8, ru_compared_9, aZc, aVL, ru_program_12, aSa, a_ru_draft_14, a_ru_program_15⟩ := u
    have hPD := PDm (ws' := (wd_X9_rule cI cC cZ cB cJ a_x xI xH xB vI wY xX yA xY uD uY xO uS tX uR a_ru_program_15 a_ru_draft_14 qL aDB aJl qM ru_length_5 aW9 ru_waits_7 ru_open_8 ru_compared_9 aZc aVL ru_program_12 aSa)) hP hD 8 rfl rfl rfl
    have hP := hPD.1
    have hD := hPD.2
    refine lv_if_ne (tgt := 59) hx hb eX9_rule_35.2.2.2.2.2.1 (by decide) (fun hc => ?_) (fun hc => ?_)
    · have hp := hp.1 hc
      exact ks_X9_rule_59 C0 0 qL aDB aJl ru_length_5 aW9 ru_waits_7 ru_open_8 ru_compared_9 aZc aVL ru_program_12 aSa a_ru_draft_14 a_ru_program_15 H locs ls hp hP hD hS (lv_sub hl [1, 0] rfl)
    · have hp := hp.2 hc
      refine lv_aload_n hx hb eX9_rule_35.2.2.2.2.2.2.1 rfl (lv_at hl 1 rfl) ?_
      refine va_get (D := (dC, dI)) (ci := 9) (v := .ref xI) (C := RX9) (T := TX9) (N := 9) hx hb hts aC3 hown hK hP 0 rfl rfl 0 (lbz rfl) (hts _ q_3) (fun _ h9 => h9) rfl eX9_rule_35.2.2.2.2.2.2.2.1 ?_
      have hm := mgk (wc := (wd_X8_wrong cI cC cZ cB cJ xI uY qL aDB aJl)) hP mk_28 8 rfl rfl rfl
      refine yW hP hD hS hA (yS mk_28) (aAi mk_28) hm.1 hm.2 (aAk _) (zW _) (zF (As := []) (rest := []) C0 hP hD hS (yS mk_28) hm.1 (aAl _) 1 8 rfl rfl (c_X8_wrong l dC dI cI cC cZ cB cJ xI uY H.size qL aDB aJl _ hp) q_79 q_82 q_80 q_81 q_5 h_X8_wrong rfl rfl ⟨lbz rfl, lbz rfl⟩ rfl rfl hl.1 rfl (lv_room (lbz rfl)) eX9_rule_35.2.2.2.2.2.2.2.2.1 ⟨Nat.zero_le _, Nat.zero_le _⟩) (fun r_17 u H locs hp hP hD hS => ?_)
      have hPD := PDm (ws' := (wd_X9_rule cI cC cZ cB cJ a_x xI xH xB vI wY xX yA xY uD uY xO uS tX uR a_ru_program_15 a_ru_draft_14 qL aDB aJl qM ru_length_5 aW9 ru_waits_7 ru_open_8 ru_compared_9 aZc aVL ru_program_12 aSa)) hP hD 8 rfl rfl rfl
      have hP := hPD.1
      have hD := hPD.2
      refine lv_istore_n (lv' := [(1, .int r_17), (0, .ref a_x)]) hx hb eX9_rule_35.2.2.2.2.2.2.2.2.2.1 rfl hl (by decide) rfl (fun ls hl => ?_)
      exact ks_X9_rule_59 C0 r_17 qL aDB aJl ru_length_5 aW9 ru_waits_7 ru_open_8 ru_compared_9 aZc aVL ru_program_12 aSa a_ru_draft_14 a_ru_program_15 H locs ls hp hP hD hS (lv_sub hl [1, 0] rfl)
  · have hp := hp.2 hc
    refine lv_aload_n hx hb eX9_rule_0.2.2.2.2.2.2.2.2.2.2.1 rfl (lv_at hl 1 rfl) ?_
    refine va_get (D := (dC, dI)) (ci := 9) (v := .ref xB) (C := RX9) (T := TX9) (N := 9) hx hb hts aC3 hown hK hP 0 rfl rfl 2 (lbz rfl) (hts _ q_146) (fun _ h9 => h9) rfl eX9_rule_0.2.2.2.2.2.2.2.2.2.2.2.1 ?_
    refine va_get (D := (dC, dI)) (ci := 0) (v := .ref xO) (C := RX0) (T := TX0) (N := 3) hx hb hts i_X0 hown hK hP 3 rfl rfl 2 (lbz rfl) (hts _ q_147) (fun _ h9 => h9) rfl eX9_rule_0.2.2.2.2.2.2.2.2.2.2.2.2.1 ?_
    have hm := mgk (wc := (wd_X7_drop cI cC cZ cB cJ xO uS tX uR rY tY pQ qI sY uG pY nJ)) hP mk_30 8 rfl rfl rfl
    refine aBn hP hD hS hA (yS mk_30) (aAi mk_30) hm.1 hm.2 (aAk _) (zW _) (zF (As := []) (rest := []) C0 hP hD hS (yS mk_30) hm.1 (aAl _) 4 7 rfl rfl (c_X7_drop l dC dI cI cC cZ cB cJ xO uS tX uR rY tY H.size pQ qI sY uG pY nJ _ hp) q_152 q_155 q_153 q_154 q_108 h_X7_drop rfl rfl ⟨lbz rfl, lbz rfl⟩ rfl rfl hl.1 rfl (lv_room (lbz rfl)) eX9_rule_0.2.2.2.2.2.2.2.2.2.2.2.2.2.1 ⟨Nat.zero_le _, Nat.zero_le _⟩) (fun u H locs hp hP hD hS => ?_)
    obtain ⟨ru_length_18, rfl⟩ : ∃ z, z = u := ⟨_, rfl⟩
    have hPD := PDm (ws' := (wd_X9_rule cI cC cZ cB cJ a_x xI xH xB vI wY xX yA xY uD uY xO uS tX uR rY tY qL aRK aJl qM ru_length_18 qI sY uG pY nJ tW pN uW)) hP hD 8 rfl rfl rfl
    have hP := hPD.1
    have hD := hPD.2
    refine lv_goto (tgt := 59) hx hb eX9_rule_0.2.2.2.2.2.2.2.2.2.2.2.2.2.2.1 (by decide) ?_
    exact ks_X9_rule_59 C0 0 qL aRK aJl ru_length_18 qI sY uG pY nJ tW pN uW tY rY H locs ls hp hP hD hS (lv_sub hl [1, 0] rfl)
abbrev bBr (cI cC cZ cB cJ : ClassId) (vI tJ jJ mY pG pD pE eO : Nat) (dN bD bJ aI : Int32) : va_W := [(vI, .inr (3, [.ref tJ, .ref jJ, .ref mY, .ref pG, .ref pD, .ref pE, .ref eO, .int dN, .int bD, .int bJ, .int aI]))]
abbrev q_X3_hasFruit (dC : Nat -> ClassId) (dI : Nat -> Nat -> Nat) (cI cC cZ cB cJ : ClassId) (A : Nat -> Prop) (vI tJ jJ mY pG pD pE eO : Nat) (dN bD bJ aI : Int32) (post : Int32 -> Prop) : Array Value -> State -> Outcome -> State -> Prop := va_Qi (fun (r : Int32) (u : Unit) => post r) (fun u t => gB (dC, dI) (tyl cI cC cZ cB cJ) A (bBr cI cC cZ cB cJ vI tJ jJ mY pG pD pE eO dN bD bJ aI) t) A
abbrev rm_X3_hasFruit : Room := { frames := 0, cells := 0, slots := 0, locals := 0 }
def aY8 (post : Int32 -> Prop) (p0 dN : Int32) : Prop := (p0 < 0 -> post 0) /\ (¬ p0 < 0 -> (dN <= p0 -> post 0) /\ (¬ dN <= p0 -> post 1))
set_option maxHeartbeats 4000000 in
set_option maxRecDepth 100000 in
theorem c_X3_hasFruit (l : Launch) (dC : Nat -> ClassId) (dI : Nat -> Nat -> Nat) (cI cC cZ cB cJ : ClassId) (vI tJ jJ mY pG pD pE eO sz : Nat) (p0 dN bD bJ aI : Int32) (post : Int32 -> Prop) (hw : aY8 post p0 dN) : Met l yX3_hasFruit (gw yX3_hasFruit cX3_hasFruit 2 (some .boolean)) rm_X3_hasFruit (va_Pc [.ref vI, .int p0] (gPre (dC, dI) (tyl cI cC cZ cB cJ) (bBr cI cC cZ cB cJ vI tJ jJ mY pG pD pE eO dN bD bJ aI) sz)) (q_X3_hasFruit dC dI cI cC cZ cB cJ (va_A (bBr cI cC cZ cB cJ vI tJ jJ mY pG pD pE eO dN bD bJ aI) sz) vI tJ jJ mY pG pD pE eO dN bD bJ aI post) 0 0 (va_A (bBr cI cC cZ cB cJ vI tJ jJ mY pG pD pE eO dN bD bJ aI) sz) := by
  refine aBJ (own := RX3) (dC, dI) (tyl cI cC cZ cB cJ) (bBr cI cC cZ cB cJ vI tJ jJ mY pG pD pE eO dN bD bJ aI) sz [.ref vI, .int p0] (fun A => q_X3_hasFruit dC dI cI cC cZ cB cJ A vI tJ jJ mY pG pD pE eO dN bD bJ aI post) pn_RX3 rfl (lbz rfl) ?_
  intro p e s m args below meth c A H locs ls C0 hP hD hS hl
  have hl : lv_has ls 2 [(0, .ref vI), (1, .int p0)] := hl
  obtain ⟨hx, hb, hr, hml, hown, hts, hlocks, hA, hK, hN, tL, tM, hZL, hTL, hZM, hTM, hZX⟩ := id C0
  have hp := hw
  unfold aY8 at hp
  refine lv_iload_n hx hb aXc.1 rfl (lv_at hl 1 rfl) ?_
  refine lv_if_lt (tgt := 16) hx hb aXc.2.1 (by decide) (fun hc => ?_) (fun hc => ?_)
  · have hp := hp.1 hc
    refine lv_iconst (v := 0) hx hb aXc.2.2.2.2.2.2.2.2.1 aCi ?_
    exact W.zret (v := 0) hx hb hr rfl (fun t ht hW => ⟨⟨0, (), rfl, hp, by rw [ht]; exact hP, va_K.moved hW.alike hK, hD⟩, hS.F ht⟩) hS.2.2 aXc.2.2.2.2.2.2.2.2.2
  · have hp := hp.2 hc
    refine lv_iload_n hx hb aXc.2.2.1 rfl (lv_at hl 1 rfl) ?_
    refine lv_aload_n hx hb aXc.2.2.2.1 rfl (lv_at hl 0 rfl) ?_
    refine va_get (D := (dC, dI)) (ci := 3) (v := .int dN) (C := RX3) (T := TX3) (N := 11) hx hb hts i_X3 hown hK hP 0 rfl rfl 7 (lbz rfl) (hts _ q_20) (fun _ h9 => h9) rfl aXc.2.2.2.2.1 ?_
    refine lv_icmp_ge (tgt := 16) hx hb aXc.2.2.2.2.2.1 (by decide) (fun hc => ?_) (fun hc => ?_)
    · have hp := hp.1 hc
      refine lv_iconst (v := 0) hx hb aXc.2.2.2.2.2.2.2.2.1 aCi ?_
      exact W.zret (v := 0) hx hb hr rfl (fun t ht hW => ⟨⟨0, (), rfl, hp, by rw [ht]; exact hP, va_K.moved hW.alike hK, hD⟩, hS.F ht⟩) hS.2.2 aXc.2.2.2.2.2.2.2.2.2
    · have hp := hp.2 hc
      refine lv_iconst (v := 1) hx hb aXc.2.2.2.2.2.2.1 aDx ?_
      refine lv_goto (tgt := 17) hx hb aXc.2.2.2.2.2.2.2.1 (by decide) ?_
      exact W.zret (v := 1) hx hb hr rfl (fun t ht hW => ⟨⟨1, (), rfl, hp, by rw [ht]; exact hP, va_K.moved hW.alike hK, hD⟩, hS.F ht⟩) hS.2.2 aXc.2.2.2.2.2.2.2.2.2
abbrev wd_X3_allFruits (cI cC cZ cB cJ : ClassId) (vI tJ jJ mY pG pD pE eO : Nat) (dN bD bJ aI : Int32) : va_W := [(vI, .inr (3, [.ref tJ, .ref jJ, .ref mY, .ref pG, .ref pD, .ref pE, .ref eO, .int dN, .int bD, .int bJ, .int aI]))]
abbrev q_X3_allFruits (dC : Nat -> ClassId) (dI : Nat -> Nat -> Nat) (cI cC cZ cB cJ : ClassId) (A : Nat -> Prop) (vI tJ jJ mY pG pD pE eO : Nat) (dN bD bJ aI : Int32) (post : Int32 -> Prop) : Array Value -> State -> Outcome -> State -> Prop := va_Qi (fun (r : Int32) (u : Unit) => post r) (fun u t => gB (dC, dI) (tyl cI cC cZ cB cJ) A (wd_X3_allFruits cI cC cZ cB cJ vI tJ jJ mY pG pD pE eO dN bD bJ aI) t) A
abbrev rm_X3_allFruits : Room := { frames := 0, cells := 0, slots := 0, locals := 0 }
def wp_X3_allFruits (post : Int32 -> Prop) (dN : Int32) : Prop := ∀ v_1 : Int32, v_1 = 1 <<< (dN &&& 31) -> post (v_1 - 1)
set_option maxHeartbeats 4000000 in
set_option maxRecDepth 100000 in
theorem c_X3_allFruits (l : Launch) (dC : Nat -> ClassId) (dI : Nat -> Nat -> Nat) (cI cC cZ cB cJ : ClassId) (vI tJ jJ mY pG pD pE eO sz : Nat) (dN bD bJ aI : Int32) (post : Int32 -> Prop) (hw : wp_X3_allFruits post dN) : Met l yX3_allFruits (gw yX3_allFruits cX3_allFruits 1 (some .int)) rm_X3_allFruits (va_Pc [.ref vI] (gPre (dC, dI) (tyl cI cC cZ cB cJ) (wd_X3_allFruits cI cC cZ cB cJ vI tJ jJ mY pG pD pE eO dN bD bJ aI) sz)) (q_X3_allFruits dC dI cI cC cZ cB cJ (va_A (wd_X3_allFruits cI cC cZ cB cJ vI tJ jJ mY pG pD pE eO dN bD bJ aI) sz) vI tJ jJ mY pG pD pE eO dN bD bJ aI post) 0 0 (va_A (wd_X3_allFruits cI cC cZ cB cJ vI tJ jJ mY pG pD pE eO dN bD bJ aI) sz) := by
  refine aBJ (own := RX3) (dC, dI) (tyl cI cC cZ cB cJ) (wd_X3_allFruits cI cC cZ cB cJ vI tJ jJ mY pG pD pE eO dN bD bJ aI) sz [.ref vI] (fun A => q_X3_allFruits dC dI cI cC cZ cB cJ A vI tJ jJ mY pG pD pE eO dN bD bJ aI post) pn_RX3 rfl (lbz rfl) ?_
  intro p e s m args below meth c A H locs ls C0 hP hD hS hl
  have hl : lv_has ls 1 [(0, .ref vI)] := hl
  obtain ⟨hx, hb, hr, hml, hown, hts, hlocks, hA, hK, hN, tL, tM, hZL, hTL, hZM, hTM, hZX⟩ := id C0
  have hp := hw
  unfold wp_X3_allFruits at hp
  refine lv_iconst (v := 1) hx hb eX3_allFruits_0.1 aDx ?_
  refine lv_aload_n hx hb eX3_allFruits_0.2.1 rfl (lv_at hl 0 rfl) ?_
  refine va_get (D := (dC, dI)) (ci := 3) (v := .int dN) (C := RX3) (T := TX3) (N := 11) hx hb hts i_X3 hown hK hP 0 rfl rfl 7 (lbz rfl) (hts _ q_20) (fun _ h9 => h9) rfl eX3_allFruits_0.2.2.1 ?_
  refine lv_ishl hx hb eX3_allFruits_0.2.2.2.1 ?_
  refine lv_topi (fun v_1 aFJ => ?_)
  have hp := hp v_1 aFJ
  refine lv_iconst (v := 1) hx hb eX3_allFruits_0.2.2.2.2.1 aDx ?_
  refine lv_isub hx hb eX3_allFruits_0.2.2.2.2.2.1 ?_
  exact W.iret (v := v_1 - 1) hx hb hr (fun t ht hW => ⟨⟨v_1 - 1, (), rfl, hp, by rw [ht]; exact hP, va_K.moved hW.alike hK, hD⟩, hS.F ht⟩) hS.2.2 eX3_allFruits_0.2.2.2.2.2.2
abbrev aOf (cI cC cZ cB cJ : ClassId) (xB vI wY xO tJ jJ mY pG pD pE eO : Nat) (dN bD bJ aI jE eW eY dU fY gJ jG nU : Int32) : va_W := [(xB, .inr (0, [.ref vI, .ref wY, .ref xO])), (vI, .inr (3, [.ref tJ, .ref jJ, .ref mY, .ref pG, .ref pD, .ref pE, .ref eO, .int dN, .int bD, .int bJ, .int aI])), (wY, .inr (2, [.int jE, .int eW, .int eY, .int dU, .int fY, .int gJ, .int jG, .int nU]))]
abbrev q_X0_hanging (dC : Nat -> ClassId) (dI : Nat -> Nat -> Nat) (cI cC cZ cB cJ : ClassId) (A : Nat -> Prop) (xB vI wY xO tJ jJ mY pG pD pE eO : Nat) (dN bD bJ aI jE eW eY dU fY gJ jG nU : Int32) (post : Int32 -> Prop) : Array Value -> State -> Outcome -> State -> Prop := va_Qi (fun (r : Int32) (u : Unit) => post r) (fun u t => gB (dC, dI) (tyl cI cC cZ cB cJ) A (aOf cI cC cZ cB cJ xB vI wY xO tJ jJ mY pG pD pE eO dN bD bJ aI jE eW eY dU fY gJ jG nU) t) A
abbrev rm_X0_hanging : Room := { frames := 1, cells := 0, slots := 0, locals := 20 }
def aOu (post : Int32 -> Prop) (dN jE eW eY : Int32) : Prop := wp_X3_allFruits (fun r_1 => ∀ v_2 : Int32, v_2 = jE ||| eW -> ∀ v_3 : Int32, v_3 = v_2 ||| eY -> post (r_1 &&& (v_3 ^^^ (-1)))) dN
set_option maxHeartbeats 4000000 in
set_option maxRecDepth 100000 in
theorem c_X0_hanging (l : Launch) (dC : Nat -> ClassId) (dI : Nat -> Nat -> Nat) (cI cC cZ cB cJ : ClassId) (xB vI wY xO tJ jJ mY pG pD pE eO sz : Nat) (dN bD bJ aI jE eW eY dU fY gJ jG nU : Int32) (post : Int32 -> Prop) (hw : aOu post dN jE eW eY) : Met l yX0_hanging (gw yX0_hanging aSS 1 (some .int)) rm_X0_hanging (va_Pc [.ref xB] (gPre (dC, dI) (tyl cI cC cZ cB cJ) (aOf cI cC cZ cB cJ xB vI wY xO tJ jJ mY pG pD pE eO dN bD bJ aI jE eW eY dU fY gJ jG nU) sz)) (q_X0_hanging dC dI cI cC cZ cB cJ (va_A (aOf cI cC cZ cB cJ xB vI wY xO tJ jJ mY pG pD pE eO dN bD bJ aI jE eW eY dU fY gJ jG nU) sz) xB vI wY xO tJ jJ mY pG pD pE eO dN bD bJ aI jE eW eY dU fY gJ jG nU post) 0 0 (va_A (aOf cI cC cZ cB cJ xB vI wY xO tJ jJ mY pG pD pE eO dN bD bJ aI jE eW eY dU fY gJ jG nU) sz) := by
  refine aBJ (own := RX0) (dC, dI) (tyl cI cC cZ cB cJ) (aOf cI cC cZ cB cJ xB vI wY xO tJ jJ mY pG pD pE eO dN bD bJ aI jE eW eY dU fY gJ jG nU) sz [.ref xB] (fun A => q_X0_hanging dC dI cI cC cZ cB cJ A xB vI wY xO tJ jJ mY pG pD pE eO dN bD bJ aI jE eW eY dU fY gJ jG nU post) pn_RX0 rfl (lbz rfl) ?_
  intro p e s m args below meth c A H locs ls C0 hP hD hS hl
  have hl : lv_has ls 1 [(0, .ref xB)] := hl
  obtain ⟨hx, hb, hr, hml, hown, hts, hlocks, hA, hK, hN, tL, tM, hZL, hTL, hZM, hTM, hZX⟩ := id C0
  have hp := hw
  unfold aOu at hp
  refine lv_aload_n hx hb aSb.1 rfl (lv_at hl 0 rfl) ?_
  refine va_get (D := (dC, dI)) (ci := 0) (v := .ref vI) (C := RX0) (T := TX0) (N := 3) hx hb hts i_X0 hown hK hP 0 rfl rfl 0 (lbz rfl) (hts _ q_156) (fun _ h9 => h9) rfl aSb.2.1 ?_
  have hm := mgk (wc := (wd_X3_allFruits cI cC cZ cB cJ vI tJ jJ mY pG pD pE eO dN bD bJ aI)) hP mk_31 3 rfl rfl rfl
  refine yW hP hD hS hA (yS mk_31) (aAi mk_31) hm.1 hm.2 (aAk _) (zW _) (zF (As := []) (rest := []) C0 hP hD hS (yS mk_31) hm.1 (aAl _) 1 3 rfl rfl (c_X3_allFruits l dC dI cI cC cZ cB cJ vI tJ jJ mY pG pD pE eO H.size dN bD bJ aI _ hp) q_157 q_160 q_158 q_159 q_48 h_X3_allFruits rfl rfl ⟨lbz rfl, lbz rfl⟩ rfl rfl hl.1 rfl (lv_room (lbz rfl)) aSb.2.2.1 ⟨Nat.zero_le _, Nat.zero_le _⟩) (fun r_1 u H locs hp hP hD hS => ?_)
  have hPD := PDm (ws' := (aOf cI cC cZ cB cJ xB vI wY xO tJ jJ mY pG pD pE eO dN bD bJ aI jE eW eY dU fY gJ jG nU)) hP hD 3 rfl rfl rfl
  have hP := hPD.1
  have hD := hPD.2
  refine lv_aload_n hx hb aSb.2.2.2.1 rfl (lv_at hl 0 rfl) ?_
  refine va_get (D := (dC, dI)) (ci := 0) (v := .ref wY) (C := RX0) (T := TX0) (N := 3) hx hb hts i_X0 hown hK hP 0 rfl rfl 1 (lbz rfl) (hts _ q_161) (fun _ h9 => h9) rfl aSb.2.2.2.2.1 ?_
  refine va_get (D := (dC, dI)) (ci := 2) (v := .int jE) (C := RX2) (T := TX2) (N := 8) hx hb hts i_X2 hown hK hP 2 rfl rfl 0 (lbz rfl) (hts _ q_162) (fun _ h9 => h9) rfl aSb.2.2.2.2.2.1 ?_
  refine lv_aload_n hx hb aSb.2.2.2.2.2.2.1 rfl (lv_at hl 0 rfl) ?_
  refine va_get (D := (dC, dI)) (ci := 0) (v := .ref wY) (C := RX0) (T := TX0) (N := 3) hx hb hts i_X0 hown hK hP 0 rfl rfl 1 (lbz rfl) (hts _ q_161) (fun _ h9 => h9) rfl aSb.2.2.2.2.2.2.2.1 ?_
  refine va_get (D := (dC, dI)) (ci := 2) (v := .int eW) (C := RX2) (T := TX2) (N := 8) hx hb hts i_X2 hown hK hP 2 rfl rfl 1 (lbz rfl) (hts _ q_163) (fun _ h9 => h9) rfl aSb.2.2.2.2.2.2.2.2.1 ?_
  refine lv_ior hx hb aSb.2.2.2.2.2.2.2.2.2.1 ?_
  refine lv_topi (fun v_2 aGO => ?_)
  have hp := hp v_2 aGO
  refine lv_aload_n hx hb aSb.2.2.2.2.2.2.2.2.2.2.1 rfl (lv_at hl 0 rfl) ?_
  refine va_get (D := (dC, dI)) (ci := 0) (v := .ref wY) (C := RX0) (T := TX0) (N := 3) hx hb hts i_X0 hown hK hP 0 rfl rfl 1 (lbz rfl) (hts _ q_161) (fun _ h9 => h9) rfl aSb.2.2.2.2.2.2.2.2.2.2.2.1 ?_
  refine va_get (D := (dC, dI)) (ci := 2) (v := .int eY) (C := RX2) (T := TX2) (N := 8) hx hb hts i_X2 hown hK hP 2 rfl rfl 2 (lbz rfl) (hts _ q_164) (fun _ h9 => h9) rfl aSb.2.2.2.2.2.2.2.2.2.2.2.2.1 ?_
  refine lv_ior hx hb aSb.2.2.2.2.2.2.2.2.2.2.2.2.2.1 ?_
  refine lv_topi (fun v_3 aGW => ?_)
  have hp := hp v_3 aGW
  refine lv_iconst (v := (-1)) hx hb aSb.2.2.2.2.2.2.2.2.2.2.2.2.2.2.1 aEJ ?_
  refine lv_ixor hx hb aSb.2.2.2.2.2.2.2.2.2.2.2.2.2.2.2 ?_
  refine lv_iand hx hb eX0_hanging_32.1 ?_
  exact W.iret (v := r_1 &&& (v_3 ^^^ (-1))) hx hb hr (fun t ht hW => ⟨⟨r_1 &&& (v_3 ^^^ (-1)), (), rfl, hp, by rw [ht]; exact hP, va_K.moved hW.alike hK, hD⟩, hS.F ht⟩) hS.2.2 eX0_hanging_32.2
abbrev aGD (cI cC cZ cB cJ : ClassId) (vI tJ jJ mY pG pD pE eO : Nat) (dN bD bJ aI : Int32) (uU gF : Nat -> Int32) : va_W := [(vI, .inr (3, [.ref tJ, .ref jJ, .ref mY, .ref pG, .ref pD, .ref pE, .ref eO, .int dN, .int bD, .int bJ, .int aI])), (tJ, .inl (cI, 16, .inl uU)), (jJ, .inl (cI, 16, .inl gF))]
abbrev bBn (dC : Nat -> ClassId) (dI : Nat -> Nat -> Nat) (cI cC cZ cB cJ : ClassId) (A : Nat -> Prop) (vI tJ jJ mY pG pD pE eO : Nat) (dN bD bJ aI : Int32) (uU gF : Nat -> Int32) (post : Int32 -> Prop) : Array Value -> State -> Outcome -> State -> Prop := va_Qi (fun (r : Int32) (u : Unit) => post r) (fun u t => gB (dC, dI) (tyl cI cC cZ cB cJ) A (aGD cI cC cZ cB cJ vI tJ jJ mY pG pD pE eO dN bD bJ aI uU gF) t) A
abbrev bCD : Room := { frames := 1, cells := 0, slots := 0, locals := 21 }
section S_X3_lowerThan
variable {p : Program} {l : Launch} {e : Env} {s : State} {m : MethodId} {args : Array Value} {below : List Frame} {meth : Method} {c : Code} {dC : Nat -> ClassId} {dI : Nat -> Nat -> Nat} {cI cC cZ cB cJ : ClassId} {A : Nat -> Prop} {vI tJ jJ mY pG pD pE eO : Nat} {dN bD bJ aI : Int32} {uU gF : Nat -> Int32} {post : Int32 -> Prop}
def aPW (post : Int32 -> Prop) (K15 : Int32 -> Int32 -> Int32 -> Int32 -> Prop) (dN : Int32) (uU gF : Nat -> Int32) (x1 x2 x3 x4 : Int32) : Prop := ∀ v_5 : Int32, v_5 = x4 + 1 -> K15 x1 x2 x3 v_5
set_option maxHeartbeats 4000000 in
set_option maxRecDepth 100000 in
theorem ks_X3_lowerThan_89 (C0 : gc aCf (some .int) 6 RX3 (dC, dI) (tyl cI cC cZ cB cJ) A p s m args meth c) {K15 : Int32 -> Int32 -> Int32 -> Int32 -> Prop} (hK15 : ∀ (x1 : Int32) (x2 : Int32) (x3 : Int32) (x4 : Int32) (H : Heap) (locs : List Loc) (ls : Array Slot), K15 x1 x2 x3 x4 -> va_P (dC, dI) classes (aGD cI cC cZ cB cJ vI tJ jJ mY pG pD pE eO dN bD bJ aI uU gF) H -> va_D A (aGD cI cC cZ cB cJ vI tJ jJ mY pG pD pE eO dN bD bJ aI uU gF) -> va_S A s.heap H locs -> lv_has ls 6 [(0, .ref vI), (1, .int x1), (2, .int x2), (3, .int x3), (4, .int x4)] -> W p l e bCD s m args below meth c H locs 0 0 (MQ below (bBn dC dI cI cC cZ cB cJ A vI tJ jJ mY pG pD pE eO dN bD bJ aI uU gF post) args s 0 0 A) (F0 m 15 ls [])) : ∀ (x1 x2 x3 x4 : Int32) (H : Heap) (locs : List Loc) (ls : Array Slot), (aPW post K15 dN uU gF) x1 x2 x3 x4 -> va_P (dC, dI) classes (aGD cI cC cZ cB cJ vI tJ jJ mY pG pD pE eO dN bD bJ aI uU gF) H -> va_D A (aGD cI cC cZ cB cJ vI tJ jJ mY pG pD pE eO dN bD bJ aI uU gF) -> va_S A s.heap H locs -> lv_has ls 6 [(0, .ref vI), (1, .int x1), (2, .int x2), (3, .int x3), (4, .int x4)] -> W p l e bCD s m args below meth c H locs 0 0 (MQ below (bBn dC dI cI cC cZ cB cJ A vI tJ jJ mY pG pD pE eO dN bD bJ aI uU gF post) args s 0 0 A) (F0 m 89 ls []) := by
  obtain ⟨hx, hb, hr, hml, hown, hts, hlocks, hA, hK, hN, tL, tM, hZL, hTL, hZM, hTM, hZX⟩ := id C0
  intro x1 x2 x3 x4 H locs ls hp hP hD hS hl
  unfold aPW at hp
  obtain ⟨v_5, aJD⟩ : ∃ y : Int32, y = x4 + 1 := ⟨_, rfl⟩
  refine lv_iinc (v := v_5) (lv' := [(4, .int v_5), (0, .ref vI), (1, .int x1), (2, .int x2), (3, .int x3)]) hx hb aXd.2.2.2.2.2.2.2.1 hl (k := 4) rfl (by rw [aJD]; rfl) (by decide) rfl (fun ls hl => ?_)
  have hp := hp v_5 aJD
  refine lv_goto (tgt := 15) hx hb aXd.2.2.2.2.2.2.2.2.1 (by decide) ?_
  exact hK15 x1 x2 x3 v_5 H locs ls hp hP hD hS (lv_sub hl [1, 2, 3, 4, 0] rfl)
def ws_X3_lowerThan_66 (post : Int32 -> Prop) (K15 : Int32 -> Int32 -> Int32 -> Int32 -> Prop) (dN : Int32) (uU gF : Nat -> Int32) (x1 x2 x3 x4 k0 : Int32) : Prop := (k0 = 0 -> aPW post K15 dN uU gF x1 x2 x3 x4) /\ (¬ k0 = 0 -> ∀ v_6 : Int32, v_6 = x2 >>> (x4 &&& 31) -> ((v_6 &&& 1) = 0 -> aPW post K15 dN uU gF x1 x2 x3 x4) /\ (¬ (v_6 &&& 1) = 0 -> ∀ v_7 : Int32, v_7 = x3 ||| (1 <<< (x4 &&& 31)) -> aPW post K15 dN uU gF x1 x2 v_7 x4))
set_option maxHeartbeats 4000000 in
set_option maxRecDepth 100000 in
theorem ks_X3_lowerThan_66 (C0 : gc aCf (some .int) 6 RX3 (dC, dI) (tyl cI cC cZ cB cJ) A p s m args meth c) {K15 : Int32 -> Int32 -> Int32 -> Int32 -> Prop} (hK15 : ∀ (x1 : Int32) (x2 : Int32) (x3 : Int32) (x4 : Int32) (H : Heap) (locs : List Loc) (ls : Array Slot), K15 x1 x2 x3 x4 -> va_P (dC, dI) classes (aGD cI cC cZ cB cJ vI tJ jJ mY pG pD pE eO dN bD bJ aI uU gF) H -> va_D A (aGD cI cC cZ cB cJ vI tJ jJ mY pG pD pE eO dN bD bJ aI uU gF) -> va_S A s.heap H locs -> lv_has ls 6 [(0, .ref vI), (1, .int x1), (2, .int x2), (3, .int x3), (4, .int x4)] -> W p l e bCD s m args below meth c H locs 0 0 (MQ below (bBn dC dI cI cC cZ cB cJ A vI tJ jJ mY pG pD pE eO dN bD bJ aI uU gF post) args s 0 0 A) (F0 m 15 ls [])) : ∀ (x1 x2 x3 x4 k0 : Int32) (H : Heap) (locs : List Loc) (ls : Array Slot), (ws_X3_lowerThan_66 post K15 dN uU gF) x1 x2 x3 x4 k0 -> va_P (dC, dI) classes (aGD cI cC cZ cB cJ vI tJ jJ mY pG pD pE eO dN bD bJ aI uU gF) H -> va_D A (aGD cI cC cZ cB cJ vI tJ jJ mY pG pD pE eO dN bD bJ aI uU gF) -> va_S A s.heap H locs -> lv_has ls 6 [(0, .ref vI), (1, .int x1), (2, .int x2), (3, .int x3), (4, .int x4)] -> W p l e bCD s m args below meth c H locs 0 0 (MQ below (bBn dC dI cI cC cZ cB cJ A vI tJ jJ mY pG pD pE eO dN bD bJ aI uU gF post) args s 0 0 A) (F0 m 66 ls [.int k0]) := by
  obtain ⟨hx, hb, hr, hml, hown, hts, hlocks, hA, hK, hN, tL, tM, hZL, hTL, hZM, hTM, hZX⟩ := id C0
  intro x1 x2 x3 x4 k0 H locs ls hp hP hD hS hl
  unfold ws_X3_lowerThan_66 at hp
  refine lv_istore (lv' := [(5, .int k0), (0, .ref vI), (1, .int x1), (2, .int x2), (3, .int x3), (4, .int x4)]) hx hb aMZ.2.2.2.2.2.2.2.2.1 hl (by decide) rfl (fun ls hl => ?_)
  refine lv_iload hx hb aMZ.2.2.2.2.2.2.2.2.2.1 (lv_at hl 0 rfl) ?_
  refine lv_if_eq (tgt := 89) hx hb aMZ.2.2.2.2.2.2.2.2.2.2.1 (by decide) (fun hc => ?_) (fun hc => ?_)
  · have hp := hp.1 hc
    exact ks_X3_lowerThan_89 C0 hK15 x1 x2 x3 x4 H locs ls hp hP hD hS (lv_sub hl [1, 2, 3, 4, 5] rfl)
  · have hp := hp.2 hc
    refine lv_iload_n hx hb aMZ.2.2.2.2.2.2.2.2.2.2.2.1 rfl (lv_at hl 3 rfl) ?_
    refine lv_iload hx hb aMZ.2.2.2.2.2.2.2.2.2.2.2.2.1 (lv_at hl 5 rfl) ?_
    refine lv_ishr hx hb aMZ.2.2.2.2.2.2.2.2.2.2.2.2.2.1 ?_
    refine lv_topi (fun v_6 ev_6 => ?_)
    have hp := hp v_6 ev_6
    refine lv_iconst (v := 1) hx hb aMZ.2.2.2.2.2.2.2.2.2.2.2.2.2.2.1 aDx ?_
    refine lv_iand hx hb aMZ.2.2.2.2.2.2.2.2.2.2.2.2.2.2.2 ?_
    refine lv_if_eq (tgt := 89) hx hb aXd.1 (by decide) (fun hc => ?_) (fun hc => ?_)
    · have hp := hp.1 hc
      exact ks_X3_lowerThan_89 C0 hK15 x1 x2 x3 x4 H locs ls hp hP hD hS (lv_sub hl [1, 2, 3, 4, 5] rfl)
    · have hp := hp.2 hc
      refine lv_iload_n hx hb aXd.2.1 rfl (lv_at hl 4 rfl) ?_
      refine lv_iconst (v := 1) hx hb aXd.2.2.1 aDx ?_
      refine lv_iload hx hb aXd.2.2.2.1 (lv_at hl 5 rfl) ?_
      refine lv_ishl hx hb aXd.2.2.2.2.1 ?_
      refine lv_ior hx hb aXd.2.2.2.2.2.1 ?_
      refine lv_topi (fun v_7 ev_7 => ?_)
      have hp := hp v_7 ev_7
      refine lv_istore_n (lv' := [(3, .int v_7), (5, .int k0), (0, .ref vI), (1, .int x1), (2, .int x2), (4, .int x4)]) hx hb aXd.2.2.2.2.2.2.1 rfl hl (by decide) rfl (fun ls hl => ?_)
      exact ks_X3_lowerThan_89 C0 hK15 x1 x2 v_7 x4 H locs ls hp hP hD hS (lv_sub hl [2, 3, 4, 0, 5] rfl)
def ws_X3_lowerThan_65 (post : Int32 -> Prop) (K15 : Int32 -> Int32 -> Int32 -> Int32 -> Prop) (dN : Int32) (uU gF : Nat -> Int32) (x1 x2 x3 x4 : Int32) : Prop := ws_X3_lowerThan_66 post K15 dN uU gF x1 x2 x3 x4 0
set_option maxHeartbeats 4000000 in
set_option maxRecDepth 100000 in
theorem ks_X3_lowerThan_65 (C0 : gc aCf (some .int) 6 RX3 (dC, dI) (tyl cI cC cZ cB cJ) A p s m args meth c) {K15 : Int32 -> Int32 -> Int32 -> Int32 -> Prop} (hK15 : ∀ (x1 : Int32) (x2 : Int32) (x3 : Int32) (x4 : Int32) (H : Heap) (locs : List Loc) (ls : Array Slot), K15 x1 x2 x3 x4 -> va_P (dC, dI) classes (aGD cI cC cZ cB cJ vI tJ jJ mY pG pD pE eO dN bD bJ aI uU gF) H -> va_D A (aGD cI cC cZ cB cJ vI tJ jJ mY pG pD pE eO dN bD bJ aI uU gF) -> va_S A s.heap H locs -> lv_has ls 6 [(0, .ref vI), (1, .int x1), (2, .int x2), (3, .int x3), (4, .int x4)] -> W p l e bCD s m args below meth c H locs 0 0 (MQ below (bBn dC dI cI cC cZ cB cJ A vI tJ jJ mY pG pD pE eO dN bD bJ aI uU gF post) args s 0 0 A) (F0 m 15 ls [])) : ∀ (x1 x2 x3 x4 : Int32) (H : Heap) (locs : List Loc) (ls : Array Slot), (ws_X3_lowerThan_65 post K15 dN uU gF) x1 x2 x3 x4 -> va_P (dC, dI) classes (aGD cI cC cZ cB cJ vI tJ jJ mY pG pD pE eO dN bD bJ aI uU gF) H -> va_D A (aGD cI cC cZ cB cJ vI tJ jJ mY pG pD pE eO dN bD bJ aI uU gF) -> va_S A s.heap H locs -> lv_has ls 6 [(0, .ref vI), (1, .int x1), (2, .int x2), (3, .int x3), (4, .int x4)] -> W p l e bCD s m args below meth c H locs 0 0 (MQ below (bBn dC dI cI cC cZ cB cJ A vI tJ jJ mY pG pD pE eO dN bD bJ aI uU gF post) args s 0 0 A) (F0 m 65 ls []) := by
  obtain ⟨hx, hb, hr, hml, hown, hts, hlocks, hA, hK, hN, tL, tM, hZL, hTL, hZM, hTM, hZX⟩ := id C0
  intro x1 x2 x3 x4 H locs ls hp hP hD hS hl
  unfold ws_X3_lowerThan_65 at hp
  refine lv_iconst (v := 0) hx hb aMZ.2.2.2.2.2.2.2.1 aCi ?_
  exact ks_X3_lowerThan_66 C0 hK15 x1 x2 x3 x4 0 H locs ls hp hP hD hS (lv_sub hl [0, 1, 2, 3, 4] rfl)
def ws_X3_lowerThan_15 (post : Int32 -> Prop) (next : Int32 -> Int32 -> Int32 -> Int32 -> Prop) (dN : Int32) (uU gF : Nat -> Int32) (x1 x2 x3 x4 : Int32) : Prop := (dN <= x4 -> post x3) /\ (¬ dN <= x4 -> vp_in x4 16 /\ (∀ v_2 : Int32, v_2 = uU x4.toNatClampNeg -> vp_in x1 16 /\ (∀ v_3 : Int32, v_3 = v_2 - (uU x1.toNatClampNeg) -> ∀ v_4 : Int32, v_4 = (if 0 <= v_3 then v_3 else 0 - v_3) -> (1 < v_4 -> ws_X3_lowerThan_65 post next dN uU gF x1 x2 x3 x4) /\ (¬ 1 < v_4 -> vp_in x4 16 /\ (∀ v_8 : Int32, v_8 = gF x4.toNatClampNeg -> vp_in x1 16 /\ (((gF x1.toNatClampNeg) <= v_8 -> ws_X3_lowerThan_65 post next dN uU gF x1 x2 x3 x4) /\ (¬ (gF x1.toNatClampNeg) <= v_8 -> ws_X3_lowerThan_66 post next dN uU gF x1 x2 x3 x4 1)))))))
noncomputable def wb_X3_lowerThan_15 (post : Int32 -> Prop) (dN : Int32) (uU gF : Nat -> Int32) : Nat -> Int32 -> Int32 -> Int32 -> Int32 -> Prop := fun n => Nat.rec (motive := fun _ => Int32 -> Int32 -> Int32 -> Int32 -> Prop) (fun _ _ _ _ => False) (fun _ ih => ws_X3_lowerThan_15 post ih dN uU gF) n
set_option maxHeartbeats 4000000 in
set_option maxRecDepth 100000 in
theorem ks_X3_lowerThan_15 (C0 : gc aCf (some .int) 6 RX3 (dC, dI) (tyl cI cC cZ cB cJ) A p s m args meth c) {next : Int32 -> Int32 -> Int32 -> Int32 -> Prop} (hKn : ∀ (x1 : Int32) (x2 : Int32) (x3 : Int32) (x4 : Int32) (H : Heap) (locs : List Loc) (ls : Array Slot), next x1 x2 x3 x4 -> va_P (dC, dI) classes (aGD cI cC cZ cB cJ vI tJ jJ mY pG pD pE eO dN bD bJ aI uU gF) H -> va_D A (aGD cI cC cZ cB cJ vI tJ jJ mY pG pD pE eO dN bD bJ aI uU gF) -> va_S A s.heap H locs -> lv_has ls 6 [(0, .ref vI), (1, .int x1), (2, .int x2), (3, .int x3), (4, .int x4)] -> W p l e bCD s m args below meth c H locs 0 0 (MQ below (bBn dC dI cI cC cZ cB cJ A vI tJ jJ mY pG pD pE eO dN bD bJ aI uU gF post) args s 0 0 A) (F0 m 15 ls [])) : ∀ (x1 x2 x3 x4 : Int32) (H : Heap) (locs : List Loc) (ls : Array Slot), (ws_X3_lowerThan_15 post next dN uU gF) x1 x2 x3 x4 -> va_P (dC, dI) classes (aGD cI cC cZ cB cJ vI tJ jJ mY pG pD pE eO dN bD bJ aI uU gF) H -> va_D A (aGD cI cC cZ cB cJ vI tJ jJ mY pG pD pE eO dN bD bJ aI uU gF) -> va_S A s.heap H locs -> lv_has ls 6 [(0, .ref vI), (1, .int x1), (2, .int x2), (3, .int x3), (4, .int x4)] -> W p l e bCD s m args below meth c H locs 0 0 (MQ below (bBn dC dI cI cC cZ cB cJ A vI tJ jJ mY pG pD pE eO dN bD bJ aI uU gF post) args s 0 0 A) (F0 m 15 ls []) := by
  obtain ⟨hx, hb, hr, hml, hown, hts, hlocks, hA, hK, hN, tL, tM, hZL, hTL, hZM, hTM, hZX⟩ := id C0
  intro x1 x2 x3 x4 H locs ls hp hP hD hS hl
  unfold ws_X3_lowerThan_15 at hp
  refine lv_iload hx hb aOE.2.2.2.2.2.2.2.2.2.2.2.2.1 (lv_at hl 4 rfl) ?_
  refine lv_aload_n hx hb aOE.2.2.2.2.2.2.2.2.2.2.2.2.2.1 rfl (lv_at hl 0 rfl) ?_
  refine va_get (D := (dC, dI)) (ci := 3) (v := .int dN) (C := RX3) (T := TX3) (N := 11) hx hb hts i_X3 hown hK hP 0 rfl rfl 7 (lbz rfl) (hts _ q_20) (fun _ h9 => h9) rfl aOE.2.2.2.2.2.2.2.2.2.2.2.2.2.2.1 ?_
  refine lv_icmp_ge (tgt := 95) hx hb aOE.2.2.2.2.2.2.2.2.2.2.2.2.2.2.2 (by decide) (fun hc => ?_) (fun hc => ?_)
  · have hp := hp.1 hc
    refine lv_iload_n hx hb aXd.2.2.2.2.2.2.2.2.2.1 rfl (lv_at hl 3 rfl) ?_
    exact W.iret (v := x3) hx hb hr (fun t ht hW => ⟨⟨x3, (), rfl, hp, by rw [ht]; exact hP, va_K.moved hW.alike hK, hD⟩, hS.F ht⟩) hS.2.2 aXd.2.2.2.2.2.2.2.2.2.2
  · have hp := hp.2 hc
    refine lv_aload_n hx hb aMY.1 rfl (lv_at hl 0 rfl) ?_
    refine va_get (D := (dC, dI)) (ci := 3) (v := .ref tJ) (C := RX3) (T := TX3) (N := 11) hx hb hts i_X3 hown hK hP 0 rfl rfl 0 (lbz rfl) (hts _ q_45) (fun _ h9 => h9) rfl aMY.2.1 ?_
    refine lv_iload hx hb aMY.2.2.1 (lv_at hl 4 rfl) ?_
    have hin := hp.1
    have hp := hp.2
    refine va_iald hx hb hK hP 1 0 rfl rfl hin aMY.2.2.2.1 ?_
    refine lv_topi (fun v_2 aGO => ?_)
    have hp := hp v_2 aGO
    refine lv_aload_n hx hb aMY.2.2.2.2.1 rfl (lv_at hl 0 rfl) ?_
    refine va_get (D := (dC, dI)) (ci := 3) (v := .ref tJ) (C := RX3) (T := TX3) (N := 11) hx hb hts i_X3 hown hK hP 0 rfl rfl 0 (lbz rfl) (hts _ q_45) (fun _ h9 => h9) rfl aMY.2.2.2.2.2.1 ?_
    refine lv_iload_n hx hb aMY.2.2.2.2.2.2.1 rfl (lv_at hl 1 rfl) ?_
    have hin := hp.1
    have hp := hp.2
    refine va_iald hx hb hK hP 1 0 rfl rfl hin aMY.2.2.2.2.2.2.2.1 ?_
    refine lv_isub hx hb aMY.2.2.2.2.2.2.2.2.1 ?_
    refine lv_topi (fun v_3 aGW => ?_)
    have hp := hp v_3 aGW
    refine va_mabs hx hb (by rw [hml]; exact hl.1.symm) hown (hts _ q_165) (hts _ q_166) (hts _ q_16) (hts _ q_167) (lbz rfl) (lbz rfl) (Nat.zero_le _) (Nat.zero_le _) aMY.2.2.2.2.2.2.2.2.2.1 ?_
    refine lv_topi (fun v_4 aHM => ?_)
    have hp := hp v_4 aHM
    refine lv_iconst (v := 1) hx hb aMY.2.2.2.2.2.2.2.2.2.2.1 aDx ?_
    refine lv_icmp_gt (tgt := 65) hx hb aMY.2.2.2.2.2.2.2.2.2.2.2.1 (by decide) (fun hc => ?_) (fun hc => ?_)
    · have hp := hp.1 hc
      exact ks_X3_lowerThan_65 C0 hKn x1 x2 x3 x4 H locs ls hp hP hD hS (lv_sub hl [0, 1, 2, 3, 4] rfl)
    · have hp := hp.2 hc
      refine lv_aload_n hx hb aMY.2.2.2.2.2.2.2.2.2.2.2.2.1 rfl (lv_at hl 0 rfl) ?_
      refine va_get (D := (dC, dI)) (ci := 3) (v := .ref jJ) (C := RX3) (T := TX3) (N := 11) hx hb hts i_X3 hown hK hP 0 rfl rfl 1 (lbz rfl) (hts _ q_46) (fun _ h9 => h9) rfl aMY.2.2.2.2.2.2.2.2.2.2.2.2.2.1 ?_
      refine lv_iload hx hb aMY.2.2.2.2.2.2.2.2.2.2.2.2.2.2.1 (lv_at hl 4 rfl) ?_
      have hin := hp.1
      have hp := hp.2
      refine va_iald hx hb hK hP 2 0 rfl rfl hin aMY.2.2.2.2.2.2.2.2.2.2.2.2.2.2.2 ?_
      refine lv_topi (fun v_8 ev_8 => ?_)
      have hp := hp v_8 ev_8
      refine lv_aload_n hx hb aMZ.1 rfl (lv_at hl 0 rfl) ?_
      refine va_get (D := (dC, dI)) (ci := 3) (v := .ref jJ) (C := RX3) (T := TX3) (N := 11) hx hb hts i_X3 hown hK hP 0 rfl rfl 1 (lbz rfl) (hts _ q_46) (fun _ h9 => h9) rfl aMZ.2.1 ?_
      refine lv_iload_n hx hb aMZ.2.2.1 rfl (lv_at hl 1 rfl) ?_
      have hin := hp.1
      have hp := hp.2
      refine va_iald hx hb hK hP 2 0 rfl rfl hin aMZ.2.2.2.1 ?_
      refine lv_icmp_ge (tgt := 65) hx hb aMZ.2.2.2.2.1 (by decide) (fun hc => ?_) (fun hc => ?_)
      · have hp := hp.1 hc
        exact ks_X3_lowerThan_65 C0 hKn x1 x2 x3 x4 H locs ls hp hP hD hS (lv_sub hl [0, 1, 2, 3, 4] rfl)
      · have hp := hp.2 hc
        refine lv_iconst (v := 1) hx hb aMZ.2.2.2.2.2.1 aDx ?_
        refine lv_goto (tgt := 66) hx hb aMZ.2.2.2.2.2.2.1 (by decide) ?_
        exact ks_X3_lowerThan_66 C0 hKn x1 x2 x3 x4 1 H locs ls hp hP hD hS (lv_sub hl [0, 1, 2, 3, 4] rfl)
set_option maxHeartbeats 4000000 in
set_option maxRecDepth 100000 in
theorem kb_X3_lowerThan_15 (C0 : gc aCf (some .int) 6 RX3 (dC, dI) (tyl cI cC cZ cB cJ) A p s m args meth c) : ∀ (n : Nat), ∀ (x1 x2 x3 x4 : Int32) (H : Heap) (locs : List Loc) (ls : Array Slot), (wb_X3_lowerThan_15 post dN uU gF n) x1 x2 x3 x4 -> va_P (dC, dI) classes (aGD cI cC cZ cB cJ vI tJ jJ mY pG pD pE eO dN bD bJ aI uU gF) H -> va_D A (aGD cI cC cZ cB cJ vI tJ jJ mY pG pD pE eO dN bD bJ aI uU gF) -> va_S A s.heap H locs -> lv_has ls 6 [(0, .ref vI), (1, .int x1), (2, .int x2), (3, .int x3), (4, .int x4)] -> W p l e bCD s m args below meth c H locs 0 0 (MQ below (bBn dC dI cI cC cZ cB cJ A vI tJ jJ mY pG pD pE eO dN bD bJ aI uU gF post) args s 0 0 A) (F0 m 15 ls []) := by
  intro n
  induction n with
  | zero =>
    intro x1 x2 x3 x4 H locs ls hp
    exact False.elim hp
  | succ n ih =>
    intro x1 x2 x3 x4 H locs ls hp
    exact ks_X3_lowerThan_15 C0 ih x1 x2 x3 x4 H locs ls hp
end S_X3_lowerThan
def bA6 (post : Int32 -> Prop) (p0 p1 dN : Int32) (uU gF : Nat -> Int32) : Prop := ∀ v_1 : Int32, v_1 = p1 >>> (p0 &&& 31) -> (¬ (v_1 &&& 1) = 0 -> ∃ n : Nat, wb_X3_lowerThan_15 post dN uU gF n p0 p1 0 0) /\ ((v_1 &&& 1) = 0 -> post 0)
set_option maxHeartbeats 4000000 in
set_option maxRecDepth 100000 in
theorem c_X3_lowerThan (l : Launch) (dC : Nat -> ClassId) (dI : Nat -> Nat -> Nat) (cI cC cZ cB cJ : ClassId) (vI tJ jJ mY pG pD pE eO sz : Nat) (p0 p1 dN bD bJ aI : Int32) (uU gF : Nat -> Int32) (post : Int32 -> Prop) (hw : bA6 post p0 p1 dN uU gF) : Met l bCO (gw bCO aCf 6 (some .int)) bCD (va_Pc [.ref vI, .int p0, .int p1] (gPre (dC, dI) (tyl cI cC cZ cB cJ) (aGD cI cC cZ cB cJ vI tJ jJ mY pG pD pE eO dN bD bJ aI uU gF) sz)) (bBn dC dI cI cC cZ cB cJ (va_A (aGD cI cC cZ cB cJ vI tJ jJ mY pG pD pE eO dN bD bJ aI uU gF) sz) vI tJ jJ mY pG pD pE eO dN bD bJ aI uU gF post) 0 0 (va_A (aGD cI cC cZ cB cJ vI tJ jJ mY pG pD pE eO dN bD bJ aI uU gF) sz) := by
  refine aBJ (own := RX3) (dC, dI) (tyl cI cC cZ cB cJ) (aGD cI cC cZ cB cJ vI tJ jJ mY pG pD pE eO dN bD bJ aI uU gF) sz [.ref vI, .int p0, .int p1] (fun A => bBn dC dI cI cC cZ cB cJ A vI tJ jJ mY pG pD pE eO dN bD bJ aI uU gF post) pn_RX3 rfl (lbz rfl) ?_
  intro p e s m args below meth c A H locs ls C0 hP hD hS hl
  have hl : lv_has ls 6 [(0, .ref vI), (1, .int p0), (2, .int p1)] := hl
  obtain ⟨hx, hb, hr, hml, hown, hts, hlocks, hA, hK, hN, tL, tM, hZL, hTL, hZM, hTM, hZX⟩ := id C0
  have hp := hw
  unfold bA6 at hp
  refine lv_iload_n hx hb aOE.1 rfl (lv_at hl 2 rfl) ?_
  refine lv_iload_n hx hb aOE.2.1 rfl (lv_at hl 1 rfl) ?_
  refine lv_ishr hx hb aOE.2.2.1 ?_
  refine lv_topi (fun v_1 aFJ => ?_)
  have hp := hp v_1 aFJ
  refine lv_iconst (v := 1) hx hb aOE.2.2.2.1 aDx ?_
  refine lv_iand hx hb aOE.2.2.2.2.1 ?_
  refine lv_if_ne (tgt := 10) hx hb aOE.2.2.2.2.2.1 (by decide) (fun hc => ?_) (fun hc => ?_)
  · have hp := hp.1 hc
    refine lv_iconst (v := 0) hx hb aOE.2.2.2.2.2.2.2.2.1 aCi ?_
    refine lv_istore_n (lv' := [(3, .int 0), (0, .ref vI), (1, .int p0), (2, .int p1)]) hx hb aOE.2.2.2.2.2.2.2.2.2.1 rfl hl (by decide) rfl (fun ls hl => ?_)
    refine lv_iconst (v := 0) hx hb aOE.2.2.2.2.2.2.2.2.2.2.1 aCi ?_
    refine lv_istore (lv' := [(4, .int 0), (3, .int 0), (0, .ref vI), (1, .int p0), (2, .int p1)]) hx hb aOE.2.2.2.2.2.2.2.2.2.2.2.1 hl (by decide) rfl (fun ls hl => ?_)
    obtain ⟨n9, hp⟩ := hp
    exact kb_X3_lowerThan_15 C0 n9 p0 p1 0 0 H locs ls hp hP hD hS (lv_sub hl [2, 3, 4, 1, 0] rfl)
  · have hp := hp.2 hc
    refine lv_iconst (v := 0) hx hb aOE.2.2.2.2.2.2.1 aCi ?_
    exact W.iret (v := 0) hx hb hr (fun t ht hW => ⟨⟨0, (), rfl, hp, by rw [ht]; exact hP, va_K.moved hW.alike hK, hD⟩, hS.F ht⟩) hS.2.2 aOE.2.2.2.2.2.2.2.1
abbrev wd_X2_whereIs (cI cC cZ cB cJ : ClassId) (wY : Nat) (jE eW eY dU fY gJ jG nU : Int32) : va_W := [(wY, .inr (2, [.int jE, .int eW, .int eY, .int dU, .int fY, .int gJ, .int jG, .int nU]))]
abbrev q_X2_whereIs (dC : Nat -> ClassId) (dI : Nat -> Nat -> Nat) (cI cC cZ cB cJ : ClassId) (A : Nat -> Prop) (wY : Nat) (jE eW eY dU fY gJ jG nU : Int32) (post : Int32 -> Prop) : Array Value -> State -> Outcome -> State -> Prop := va_Qi (fun (r : Int32) (u : Unit) => post r) (fun u t => gB (dC, dI) (tyl cI cC cZ cB cJ) A (wd_X2_whereIs cI cC cZ cB cJ wY jE eW eY dU fY gJ jG nU) t) A
abbrev rm_X2_whereIs : Room := { frames := 0, cells := 0, slots := 0, locals := 0 }
def wp_X2_whereIs (post : Int32 -> Prop) (p0 jE eW eY : Int32) : Prop := ∀ v_1 : Int32, v_1 = jE >>> (p0 &&& 31) -> ∀ v_2 : Int32, v_2 = v_1 &&& 1 -> ∀ v_3 : Int32, v_3 = eW >>> (p0 &&& 31) -> ∀ v_4 : Int32, v_4 = v_2 + (2 * (v_3 &&& 1)) -> ∀ v_5 : Int32, v_5 = eY >>> (p0 &&& 31) -> post (v_4 + (3 * (v_5 &&& 1)))
set_option maxHeartbeats 4000000 in
set_option maxRecDepth 100000 in
theorem c_X2_whereIs (l : Launch) (dC : Nat -> ClassId) (dI : Nat -> Nat -> Nat) (cI cC cZ cB cJ : ClassId) (wY sz : Nat) (p0 jE eW eY dU fY gJ jG nU : Int32) (post : Int32 -> Prop) (hw : wp_X2_whereIs post p0 jE eW eY) : Met l yX2_whereIs (gw yX2_whereIs aLA 2 (some .int)) rm_X2_whereIs (va_Pc [.ref wY, .int p0] (gPre (dC, dI) (tyl cI cC cZ cB cJ) (wd_X2_whereIs cI cC cZ cB cJ wY jE eW eY dU fY gJ jG nU) sz)) (q_X2_whereIs dC dI cI cC cZ cB cJ (va_A (wd_X2_whereIs cI cC cZ cB cJ wY jE eW eY dU fY gJ jG nU) sz) wY jE eW eY dU fY gJ jG nU post) 0 0 (va_A (wd_X2_whereIs cI cC cZ cB cJ wY jE eW eY dU fY gJ jG nU) sz) := by
  refine aBJ (own := RX2) (dC, dI) (tyl cI cC cZ cB cJ) (wd_X2_whereIs cI cC cZ cB cJ wY jE eW eY dU fY gJ jG nU) sz [.ref wY, .int p0] (fun A => q_X2_whereIs dC dI cI cC cZ cB cJ A wY jE eW eY dU fY gJ jG nU post) pn_RX2 rfl (lbz rfl) ?_
  intro p e s m args below meth c A H locs ls C0 hP hD hS hl
  have hl : lv_has ls 2 [(0, .ref wY), (1, .int p0)] := hl
  obtain ⟨hx, hb, hr, hml, hown, hts, hlocks, hA, hK, hN, tL, tM, hZL, hTL, hZM, hTM, hZX⟩ := id C0
  have hp := hw
  unfold wp_X2_whereIs at hp
  refine lv_aload_n hx hb aTZ.1 rfl (lv_at hl 0 rfl) ?_
  refine va_get (D := (dC, dI)) (ci := 2) (v := .int jE) (C := RX2) (T := TX2) (N := 8) hx hb hts i_X2 hown hK hP 0 rfl rfl 0 (lbz rfl) (hts _ q_168) (fun _ h9 => h9) rfl aTZ.2.1 ?_
  refine lv_iload_n hx hb aTZ.2.2.1 rfl (lv_at hl 1 rfl) ?_
  refine lv_ishr hx hb aTZ.2.2.2.1 ?_
  refine lv_topi (fun v_1 aFJ => ?_)
  have hp := hp v_1 aFJ
  refine lv_iconst (v := 1) hx hb aTZ.2.2.2.2.1 aDx ?_
  refine lv_iand hx hb aTZ.2.2.2.2.2.1 ?_
  refine lv_topi (fun v_2 aGO => ?_)
  have hp := hp v_2 aGO
  refine lv_iconst (v := 2) hx hb aTZ.2.2.2.2.2.2.1 ic_2 ?_
  refine lv_aload_n hx hb aTZ.2.2.2.2.2.2.2.1 rfl (lv_at hl 0 rfl) ?_
  refine va_get (D := (dC, dI)) (ci := 2) (v := .int eW) (C := RX2) (T := TX2) (N := 8) hx hb hts i_X2 hown hK hP 0 rfl rfl 1 (lbz rfl) (hts _ q_169) (fun _ h9 => h9) rfl aTZ.2.2.2.2.2.2.2.2.1 ?_
  refine lv_iload_n hx hb aTZ.2.2.2.2.2.2.2.2.2.1 rfl (lv_at hl 1 rfl) ?_
  refine lv_ishr hx hb aTZ.2.2.2.2.2.2.2.2.2.2.1 ?_
  refine lv_topi (fun v_3 aGW => ?_)
  have hp := hp v_3 aGW
  refine lv_iconst (v := 1) hx hb aTZ.2.2.2.2.2.2.2.2.2.2.2.1 aDx ?_
  refine lv_iand hx hb aTZ.2.2.2.2.2.2.2.2.2.2.2.2.1 ?_
  refine lv_imul hx hb aTZ.2.2.2.2.2.2.2.2.2.2.2.2.2.1 ?_
  refine lv_iadd hx hb aTZ.2.2.2.2.2.2.2.2.2.2.2.2.2.2.1 ?_
  refine lv_topi (fun v_4 aHM => ?_)
  have hp := hp v_4 aHM
  refine lv_iconst (v := 3) hx hb aTZ.2.2.2.2.2.2.2.2.2.2.2.2.2.2.2 ic_3 ?_
  refine lv_aload_n hx hb eX2_whereIs_20.1 rfl (lv_at hl 0 rfl) ?_
  refine va_get (D := (dC, dI)) (ci := 2) (v := .int eY) (C := RX2) (T := TX2) (N := 8) hx hb hts i_X2 hown hK hP 0 rfl rfl 2 (lbz rfl) (hts _ q_170) (fun _ h9 => h9) rfl eX2_whereIs_20.2.1 ?_
  refine lv_iload_n hx hb eX2_whereIs_20.2.2.1 rfl (lv_at hl 1 rfl) ?_
  refine lv_ishr hx hb eX2_whereIs_20.2.2.2.1 ?_
  refine lv_topi (fun v_5 aJD => ?_)
  have hp := hp v_5 aJD
  refine lv_iconst (v := 1) hx hb eX2_whereIs_20.2.2.2.2.1 aDx ?_
  refine lv_iand hx hb eX2_whereIs_20.2.2.2.2.2.1 ?_
  refine lv_imul hx hb eX2_whereIs_20.2.2.2.2.2.2.1 ?_
  refine lv_iadd hx hb eX2_whereIs_20.2.2.2.2.2.2.2.1 ?_
  exact W.iret (v := v_4 + (3 * (v_5 &&& 1))) hx hb hr (fun t ht hW => ⟨⟨v_4 + (3 * (v_5 &&& 1)), (), rfl, hp, by rw [ht]; exact hP, va_K.moved hW.alike hK, hD⟩, hS.F ht⟩) hS.2.2 eX2_whereIs_20.2.2.2.2.2.2.2.2
abbrev wd_X9_fruit (cI cC cZ cB cJ : ClassId) (a_x xI xH xB vI wY xX yA xY uD xO tJ jJ mY pG pD pE eO : Nat) (dN bD bJ aI : Int32) (uU gF pL qF : Nat -> Int32) (jE eW eY dU fY gJ jG nU : Int32) : va_W := [(a_x, .inr (9, [.ref xI, .ref xH, .ref xB, .ref vI, .ref wY, .ref xX, .ref yA, .ref xY, .ref uD])), (xB, .inr (0, [.ref vI, .ref wY, .ref xO])), (vI, .inr (3, [.ref tJ, .ref jJ, .ref mY, .ref pG, .ref pD, .ref pE, .ref eO, .int dN, .int bD, .int bJ, .int aI])), (tJ, .inl (cI, 16, .inl uU)), (jJ, .inl (cI, 16, .inl gF)), (mY, .inl (cI, 16, .inl pL)), (pG, .inl (cI, 16, .inl qF)), (wY, .inr (2, [.int jE, .int eW, .int eY, .int dU, .int fY, .int gJ, .int jG, .int nU]))]
abbrev q_X9_fruit (dC : Nat -> ClassId) (dI : Nat -> Nat -> Nat) (cI cC cZ cB cJ : ClassId) (A : Nat -> Prop) (a_x xI xH xB vI wY xX yA xY uD xO tJ jJ mY pG pD pE eO : Nat) (dN bD bJ aI : Int32) (uU gF pL qF : Nat -> Int32) (jE eW eY dU fY gJ jG nU : Int32) (post : Int32 -> Prop) : Array Value -> State -> Outcome -> State -> Prop := va_Qi (fun (r : Int32) (u : Unit) => post r) (fun u t => gB (dC, dI) (tyl cI cC cZ cB cJ) A (wd_X9_fruit cI cC cZ cB cJ a_x xI xH xB vI wY xX yA xY uD xO tJ jJ mY pG pD pE eO dN bD bJ aI uU gF pL qF jE eW eY dU fY gJ jG nU) t) A
abbrev rm_X9_fruit : Room := { frames := 6, cells := 1, slots := 6, locals := 100 }
def wp_X9_fruit (post : Int32 -> Prop) (postx : Prop) (p0 p1 dN : Int32) (uU gF pL qF : Nat -> Int32) (jE eW eY dU : Int32) : Prop := aY8 (fun r_1 => (¬ r_1 = 0 -> (p1 = 0 -> vp_in p0 16 /\ (post (uU p0.toNatClampNeg))) /\ (p1 = 1 -> vp_in p0 16 /\ (post (gF p0.toNatClampNeg))) /\ (p1 = 2 -> vp_in p0 16 /\ (post (pL p0.toNatClampNeg))) /\ (p1 = 3 -> vp_in p0 16 /\ (post (qF p0.toNatClampNeg))) /\ (p1 = 4 -> wp_X2_whereIs (fun r_2 => post r_2) p0 jE eW eY) /\ (p1 = 5 -> ∀ v_3 : Int32, v_3 = dU >>> (p0 &&& 31) -> post (v_3 &&& 1)) /\ (p1 = 6 -> aOu (fun r_4 => bA6 (fun r_5 => post r_5) p0 r_4 dN uU gF) dN jE eW eY) /\ (¬ p1 = 0 -> ¬ p1 = 1 -> ¬ p1 = 2 -> ¬ p1 = 3 -> ¬ p1 = 4 -> ¬ p1 = 5 -> ¬ p1 = 6 -> postx)) /\ (r_1 = 0 -> postx)) p0 dN
set_option maxHeartbeats 4000000 in
set_option maxRecDepth 100000 in
theorem c_X9_fruit (l : Launch) (hl9 : l.stackTraces = false) (dC : Nat -> ClassId) (dI : Nat -> Nat -> Nat) (cI cC cZ cB cJ : ClassId) (a_x xI xH xB vI wY xX yA xY uD xO tJ jJ mY pG pD pE eO sz : Nat) (p0 p1 dN bD bJ aI : Int32) (uU gF pL qF : Nat -> Int32) (jE eW eY dU fY gJ jG nU : Int32) (post : Int32 -> Prop) (postx : Prop) (hw : wp_X9_fruit post postx p0 p1 dN uU gF pL qF jE eW eY dU) : vx_Met l yX9_fruit (gw yX9_fruit aE5 3 (some .int)) rm_X9_fruit (va_Pc [.ref a_x, .int p0, .int p1] (gPre (dC, dI) (tyl cI cC cZ cB cJ) (wd_X9_fruit cI cC cZ cB cJ a_x xI xH xB vI wY xX yA xY uD xO tJ jJ mY pG pD pE eO dN bD bJ aI uU gF pL qF jE eW eY dU fY gJ jG nU) sz)) (q_X9_fruit dC dI cI cC cZ cB cJ (va_A (wd_X9_fruit cI cC cZ cB cJ a_x xI xH xB vI wY xX yA xY uD xO tJ jJ mY pG pD pE eO dN bD bJ aI uU gF pL qF jE eW eY dU fY gJ jG nU) sz) a_x xI xH xB vI wY xX yA xY uD xO tJ jJ mY pG pD pE eO dN bD bJ aI uU gF pL qF jE eW eY dU fY gJ jG nU post) (gXC (dC, dI) (tyl cI cC cZ cB cJ) (va_A (wd_X9_fruit cI cC cZ cB cJ a_x xI xH xB vI wY xX yA xY uD xO tJ jJ mY pG pD pE eO dN bD bJ aI uU gF pL qF jE eW eY dU fY gJ jG nU) sz) (wd_X9_fruit cI cC cZ cB cJ a_x xI xH xB vI wY xX yA xY uD xO tJ jJ mY pG pD pE eO dN bD bJ aI uU gF pL qF jE eW eY dU fY gJ jG nU) postx) 1 6 (va_A (wd_X9_fruit cI cC cZ cB cJ a_x xI xH xB vI wY xX yA xY uD xO tJ jJ mY pG pD pE eO dN bD bJ aI uU gF pL qF jE eW eY dU fY gJ jG nU) sz) := by
  refine g_enterX (own := RX9) (dC, dI) (tyl cI cC cZ cB cJ) (wd_X9_fruit cI cC cZ cB cJ a_x xI xH xB vI wY xX yA xY uD xO tJ jJ mY pG pD pE eO dN bD bJ aI uU gF pL qF jE eW eY dU fY gJ jG nU) sz [.ref a_x, .int p0, .int p1] (fun A => q_X9_fruit dC dI cI cC cZ cB cJ A a_x xI xH xB vI wY xX yA xY uD xO tJ jJ mY pG pD pE eO dN bD bJ aI uU gF pL qF jE eW eY dU fY gJ jG nU post) (fun A => (gXC (dC, dI) (tyl cI cC cZ cB cJ) A (wd_X9_fruit cI cC cZ cB cJ a_x xI xH xB vI wY xX yA xY uD xO tJ jJ mY pG pD pE eO dN bD bJ aI uU gF pL qF jE eW eY dU fY gJ jG nU) postx)) (by decide) rfl (lbz rfl) ?_
  intro p e s m args below meth c A H locs ls C0 htab hP hD hS hl
  have hl : lv_has ls 3 [(0, .ref a_x), (1, .int p0), (2, .int p1)] := hl
  obtain ⟨hx, hb, hr, hml, hown, hts, hlocks, hA, hK, hN, tL, tM, hZL, hTL, hZM, hTM, hZX⟩ := id C0
  have hp := hw
  unfold wp_X9_fruit at hp
  refine lv_aload_n hx hb aOo.1 rfl (lv_at hl 0 rfl) ?_
  refine va_get (D := (dC, dI)) (ci := 9) (v := .ref vI) (C := RX9) (T := TX9) (N := 9) hx hb hts aC3 hown hK hP 0 rfl rfl 3 (lbz rfl) (hts _ q_74) (fun _ h9 => h9) rfl aOo.2.1 ?_
  refine lv_iload_n hx hb aOo.2.2.1 rfl (lv_at hl 1 rfl) ?_
  have hm := mgk (wc := (bBr cI cC cZ cB cJ vI tJ jJ mY pG pD pE eO dN bD bJ aI)) hP mk_32 8 rfl rfl rfl
  refine yW hP hD hS hA (yS mk_32) (aAi mk_32) hm.1 hm.2 (aAk _) (zW _) (zF (As := [.int p0]) (rest := []) C0 hP hD hS (yS mk_32) hm.1 (aAl _) 2 3 rfl rfl (c_X3_hasFruit l dC dI cI cC cZ cB cJ vI tJ jJ mY pG pD pE eO H.size p0 dN bD bJ aI _ hp) q_171 q_174 q_172 q_173 q_48 h_X3_hasFruit rfl rfl ⟨lbz rfl, lbz rfl⟩ rfl rfl hl.1 rfl (lv_room (lbz rfl)) aOo.2.2.2.1 ⟨Nat.zero_le _, Nat.zero_le _⟩) (fun r_1 u H locs hp hP hD hS => ?_)
  have hPD := PDm (ws' := (wd_X9_fruit cI cC cZ cB cJ a_x xI xH xB vI wY xX yA xY uD xO tJ jJ mY pG pD pE eO dN bD bJ aI uU gF pL qF jE eW eY dU fY gJ jG nU)) hP hD 8 rfl rfl rfl
  have hP := hPD.1
  have hD := hPD.2
  refine lv_if_ne (tgt := 19) hx hb aOo.2.2.2.2.1 (by decide) (fun hc => ?_) (fun hc => ?_)
  · have hp := hp.1 hc
    refine lv_iload_n hx hb aOo.2.2.2.2.2.2.2.2.2.1 rfl (lv_at hl 2 rfl) ?_
    by_cases hc0 : p1 = 0
    · have hp := hp.1 hc0
      refine lv_tableIn (tgt := 64) hx hb aOo.2.2.2.2.2.2.2.2.2.2.1 (by first | (rw [hc0]; done) | (rw [hc0]; decide)) (by first | (rw [hc0]; done) | (rw [hc0]; decide)) (by first | (rw [hc0]; done) | (rw [hc0]; rfl)) (by decide) ?_
      refine lv_aload_n hx hb aOo.2.2.2.2.2.2.2.2.2.2.2.1 rfl (lv_at hl 0 rfl) ?_
      refine va_get (D := (dC, dI)) (ci := 9) (v := .ref vI) (C := RX9) (T := TX9) (N := 9) hx hb hts aC3 hown hK hP 0 rfl rfl 3 (lbz rfl) (hts _ q_74) (fun _ h9 => h9) rfl aOo.2.2.2.2.2.2.2.2.2.2.2.2.1 ?_
      refine va_get (D := (dC, dI)) (ci := 3) (v := .ref tJ) (C := RX3) (T := TX3) (N := 11) hx hb hts i_X3 hown hK hP 2 rfl rfl 0 (lbz rfl) (hts _ q_175) (fun _ h9 => h9) rfl aOo.2.2.2.2.2.2.2.2.2.2.2.2.2.1 ?_
      refine lv_iload_n hx hb aOo.2.2.2.2.2.2.2.2.2.2.2.2.2.2.1 rfl (lv_at hl 1 rfl) ?_
      have hin := hp.1
      have hp := hp.2
      refine va_iald hx hb hK hP 3 0 rfl rfl hin aOo.2.2.2.2.2.2.2.2.2.2.2.2.2.2.2 ?_
      refine vx_ret (W.widen (k := 1) (n := 6) (Nat.zero_le _) (Nat.zero_le _) ?_)
      exact W.iret (v := uU p0.toNatClampNeg) hx hb hr (fun t ht hW => ⟨⟨uU p0.toNatClampNeg, (), rfl, hp, by rw [ht]; exact hP, va_K.moved hW.alike hK, hD⟩, hS.F ht⟩) hS.2.2 aWm.1
    by_cases hc1 : p1 = 1
    · have hp := hp.2.1 hc1
      refine lv_tableIn (tgt := 74) hx hb aOo.2.2.2.2.2.2.2.2.2.2.1 (by first | (rw [hc1]; done) | (rw [hc1]; decide)) (by first | (rw [hc1]; done) | (rw [hc1]; decide)) (by first | (rw [hc1]; done) | (rw [hc1]; rfl)) (by decide) ?_
      refine lv_aload_n hx hb aWm.2.1 rfl (lv_at hl 0 rfl) ?_
      refine va_get (D := (dC, dI)) (ci := 9) (v := .ref vI) (C := RX9) (T := TX9) (N := 9) hx hb hts aC3 hown hK hP 0 rfl rfl 3 (lbz rfl) (hts _ q_74) (fun _ h9 => h9) rfl aWm.2.2.1 ?_
      refine va_get (D := (dC, dI)) (ci := 3) (v := .ref jJ) (C := RX3) (T := TX3) (N := 11) hx hb hts i_X3 hown hK hP 2 rfl rfl 1 (lbz rfl) (hts _ q_176) (fun _ h9 => h9) rfl aWm.2.2.2.1 ?_
      refine lv_iload_n hx hb aWm.2.2.2.2.1 rfl (lv_at hl 1 rfl) ?_
      have hin := hp.1
      have hp := hp.2
      refine va_iald hx hb hK hP 4 0 rfl rfl hin aWm.2.2.2.2.2.1 ?_
      refine vx_ret (W.widen (k := 1) (n := 6) (Nat.zero_le _) (Nat.zero_le _) ?_)
      exact W.iret (v := gF p0.toNatClampNeg) hx hb hr (fun t ht hW => ⟨⟨gF p0.toNatClampNeg, (), rfl, hp, by rw [ht]; exact hP, va_K.moved hW.alike hK, hD⟩, hS.F ht⟩) hS.2.2 aWm.2.2.2.2.2.2.1
    by_cases hc2 : p1 = 2
    · have hp := hp.2.2.1 hc2
      refine lv_tableIn (tgt := 84) hx hb aOo.2.2.2.2.2.2.2.2.2.2.1 (by first | (rw [hc2]; done) | (rw [hc2]; decide)) (by first | (rw [hc2]; done) | (rw [hc2]; decide)) (by first | (rw [hc2]; done) | (rw [hc2]; rfl)) (by decide) ?_
      refine lv_aload_n hx hb aWm.2.2.2.2.2.2.2.1 rfl (lv_at hl 0 rfl) ?_
      refine va_get (D := (dC, dI)) (ci := 9) (v := .ref vI) (C := RX9) (T := TX9) (N := 9) hx hb hts aC3 hown hK hP 0 rfl rfl 3 (lbz rfl) (hts _ q_74) (fun _ h9 => h9) rfl aWm.2.2.2.2.2.2.2.2.1 ?_
      refine va_get (D := (dC, dI)) (ci := 3) (v := .ref mY) (C := RX3) (T := TX3) (N := 11) hx hb hts i_X3 hown hK hP 2 rfl rfl 2 (lbz rfl) (hts _ q_177) (fun _ h9 => h9) rfl aWm.2.2.2.2.2.2.2.2.2.1 ?_
      refine lv_iload_n hx hb aWm.2.2.2.2.2.2.2.2.2.2.1 rfl (lv_at hl 1 rfl) ?_
      have hin := hp.1
      have hp := hp.2
      refine va_iald hx hb hK hP 5 0 rfl rfl hin aWm.2.2.2.2.2.2.2.2.2.2.2.1 ?_
      refine vx_ret (W.widen (k := 1) (n := 6) (Nat.zero_le _) (Nat.zero_le _) ?_)
      exact W.iret (v := pL p0.toNatClampNeg) hx hb hr (fun t ht hW => ⟨⟨pL p0.toNatClampNeg, (), rfl, hp, by rw [ht]; exact hP, va_K.moved hW.alike hK, hD⟩, hS.F ht⟩) hS.2.2 aWm.2.2.2.2.2.2.2.2.2.2.2.2.1
    by_cases hc3 : p1 = 3
    · have hp := hp.2.2.2.1 hc3
      refine lv_tableIn (tgt := 94) hx hb aOo.2.2.2.2.2.2.2.2.2.2.1 (by first | (rw [hc3]; done) | (rw [hc3]; decide)) (by first | (rw [hc3]; done) | (rw [hc3]; decide)) (by first | (rw [hc3]; done) | (rw [hc3]; rfl)) (by decide) ?_
      refine lv_aload_n hx hb aWm.2.2.2.2.2.2.2.2.2.2.2.2.2.1 rfl (lv_at hl 0 rfl) ?_
      refine va_get (D := (dC, dI)) (ci := 9) (v := .ref vI) (C := RX9) (T := TX9) (N := 9) hx hb hts aC3 hown hK hP 0 rfl rfl 3 (lbz rfl) (hts _ q_74) (fun _ h9 => h9) rfl aWm.2.2.2.2.2.2.2.2.2.2.2.2.2.2.1 ?_
      refine va_get (D := (dC, dI)) (ci := 3) (v := .ref pG) (C := RX3) (T := TX3) (N := 11) hx hb hts i_X3 hown hK hP 2 rfl rfl 3 (lbz rfl) (hts _ q_178) (fun _ h9 => h9) rfl aWm.2.2.2.2.2.2.2.2.2.2.2.2.2.2.2 ?_
      refine lv_iload_n hx hb aTr.1 rfl (lv_at hl 1 rfl) ?_
      have hin := hp.1
      have hp := hp.2
      refine va_iald hx hb hK hP 6 0 rfl rfl hin aTr.2.1 ?_
      refine vx_ret (W.widen (k := 1) (n := 6) (Nat.zero_le _) (Nat.zero_le _) ?_)
      exact W.iret (v := qF p0.toNatClampNeg) hx hb hr (fun t ht hW => ⟨⟨qF p0.toNatClampNeg, (), rfl, hp, by rw [ht]; exact hP, va_K.moved hW.alike hK, hD⟩, hS.F ht⟩) hS.2.2 aTr.2.2.1
    by_cases hc4 : p1 = 4
    · have hp := hp.2.2.2.2.1 hc4
      refine lv_tableIn (tgt := 104) hx hb aOo.2.2.2.2.2.2.2.2.2.2.1 (by first | (rw [hc4]; done) | (rw [hc4]; decide)) (by first | (rw [hc4]; done) | (rw [hc4]; decide)) (by first | (rw [hc4]; done) | (rw [hc4]; rfl)) (by decide) ?_
      refine lv_aload_n hx hb aTr.2.2.2.1 rfl (lv_at hl 0 rfl) ?_
      refine va_get (D := (dC, dI)) (ci := 9) (v := .ref wY) (C := RX9) (T := TX9) (N := 9) hx hb hts aC3 hown hK hP 0 rfl rfl 4 (lbz rfl) (hts _ q_179) (fun _ h9 => h9) rfl aTr.2.2.2.2.1 ?_
      refine lv_iload_n hx hb aTr.2.2.2.2.2.1 rfl (lv_at hl 1 rfl) ?_
      have hm := mgk (wc := (wd_X2_whereIs cI cC cZ cB cJ wY jE eW eY dU fY gJ jG nU)) hP mk_33 8 rfl rfl rfl
      refine yW hP hD hS hA (yS mk_33) (aAi mk_33) hm.1 hm.2 (aAk _) (zW _) (zF (As := [.int p0]) (rest := []) C0 hP hD hS (yS mk_33) hm.1 (aAl _) 7 2 rfl rfl (c_X2_whereIs l dC dI cI cC cZ cB cJ wY H.size p0 jE eW eY dU fY gJ jG nU _ hp) q_180 q_184 q_182 q_183 q_181 h_X2_whereIs rfl rfl ⟨lbz rfl, lbz rfl⟩ rfl rfl hl.1 rfl (lv_room (lbz rfl)) aTr.2.2.2.2.2.2.1 ⟨Nat.zero_le _, Nat.zero_le _⟩) (fun r_2 u H locs hp hP hD hS => ?_)
      have hPD := PDm (ws' := (wd_X9_fruit cI cC cZ cB cJ a_x xI xH xB vI wY xX yA xY uD xO tJ jJ mY pG pD pE eO dN bD bJ aI uU gF pL qF jE eW eY dU fY gJ jG nU)) hP hD 8 rfl rfl rfl
      have hP := hPD.1
      have hD := hPD.2
      refine vx_ret (W.widen (k := 1) (n := 6) (Nat.zero_le _) (Nat.zero_le _) ?_)
      exact W.iret (v := r_2) hx hb hr (fun t ht hW => ⟨⟨r_2, (), rfl, hp, by rw [ht]; exact hP, va_K.moved hW.alike hK, hD⟩, hS.F ht⟩) hS.2.2 aTr.2.2.2.2.2.2.2.1
    by_cases hc5 : p1 = 5
    · have hp := hp.2.2.2.2.2.1 hc5
      refine lv_tableIn (tgt := 113) hx hb aOo.2.2.2.2.2.2.2.2.2.2.1 (by first | (rw [hc5]; done) | (rw [hc5]; decide)) (by first | (rw [hc5]; done) | (rw [hc5]; decide)) (by first | (rw [hc5]; done) | (rw [hc5]; rfl)) (by decide) ?_
      refine lv_aload_n hx hb aTr.2.2.2.2.2.2.2.2.1 rfl (lv_at hl 0 rfl) ?_
      refine va_get (D := (dC, dI)) (ci := 9) (v := .ref wY) (C := RX9) (T := TX9) (N := 9) hx hb hts aC3 hown hK hP 0 rfl rfl 4 (lbz rfl) (hts _ q_179) (fun _ h9 => h9) rfl aTr.2.2.2.2.2.2.2.2.2.1 ?_
      refine va_get (D := (dC, dI)) (ci := 2) (v := .int dU) (C := RX2) (T := TX2) (N := 8) hx hb hts i_X2 hown hK hP 7 rfl rfl 3 (lbz rfl) (hts _ q_185) (fun _ h9 => h9) rfl aTr.2.2.2.2.2.2.2.2.2.2.1 ?_
      refine lv_iload_n hx hb aTr.2.2.2.2.2.2.2.2.2.2.2.1 rfl (lv_at hl 1 rfl) ?_
      refine lv_ishr hx hb aTr.2.2.2.2.2.2.2.2.2.2.2.2.1 ?_
      refine lv_topi (fun v_3 aGW => ?_)
      have hp := hp v_3 aGW
      refine lv_iconst (v := 1) hx hb aTr.2.2.2.2.2.2.2.2.2.2.2.2.2.1 aDx ?_
      refine lv_iand hx hb aTr.2.2.2.2.2.2.2.2.2.2.2.2.2.2.1 ?_
      refine vx_ret (W.widen (k := 1) (n := 6) (Nat.zero_le _) (Nat.zero_le _) ?_)
      exact W.iret (v := v_3 &&& 1) hx hb hr (fun t ht hW => ⟨⟨v_3 &&& 1, (), rfl, hp, by rw [ht]; exact hP, va_K.moved hW.alike hK, hD⟩, hS.F ht⟩) hS.2.2 aTr.2.2.2.2.2.2.2.2.2.2.2.2.2.2.2
    by_cases hc6 : p1 = 6
    · have hp := hp.2.2.2.2.2.2.1 hc6
      refine lv_tableIn (tgt := 125) hx hb aOo.2.2.2.2.2.2.2.2.2.2.1 (by first | (rw [hc6]; done) | (rw [hc6]; decide)) (by first | (rw [hc6]; done) | (rw [hc6]; decide)) (by first | (rw [hc6]; done) | (rw [hc6]; rfl)) (by decide) ?_
      refine lv_aload_n hx hb eX9_fruit_125.1 rfl (lv_at hl 0 rfl) ?_
      refine va_get (D := (dC, dI)) (ci := 9) (v := .ref vI) (C := RX9) (T := TX9) (N := 9) hx hb hts aC3 hown hK hP 0 rfl rfl 3 (lbz rfl) (hts _ q_74) (fun _ h9 => h9) rfl eX9_fruit_125.2.1 ?_
      refine lv_iload_n hx hb eX9_fruit_125.2.2.1 rfl (lv_at hl 1 rfl) ?_
      refine lv_aload_n hx hb eX9_fruit_125.2.2.2.1 rfl (lv_at hl 0 rfl) ?_
      refine va_get (D := (dC, dI)) (ci := 9) (v := .ref xB) (C := RX9) (T := TX9) (N := 9) hx hb hts aC3 hown hK hP 0 rfl rfl 2 (lbz rfl) (hts _ q_146) (fun _ h9 => h9) rfl eX9_fruit_125.2.2.2.2.1 ?_
      have hm := mgk (wc := (aOf cI cC cZ cB cJ xB vI wY xO tJ jJ mY pG pD pE eO dN bD bJ aI jE eW eY dU fY gJ jG nU)) hP mk_34 8 rfl rfl rfl
      refine yW hP hD hS hA (yS mk_34) (aAi mk_34) hm.1 hm.2 (aAk _) (zW _) (zF (As := []) (rest := [.int p0, .ref vI]) C0 hP hD hS (yS mk_34) hm.1 (aAl _) 1 0 rfl rfl (c_X0_hanging l dC dI cI cC cZ cB cJ xB vI wY xO tJ jJ mY pG pD pE eO H.size dN bD bJ aI jE eW eY dU fY gJ jG nU _ hp) q_186 q_190 q_188 q_189 q_187 h_X0_hanging rfl rfl ⟨lbz rfl, lbz rfl⟩ rfl rfl hl.1 rfl (lv_room (lbz rfl)) eX9_fruit_125.2.2.2.2.2.1 ⟨Nat.zero_le _, Nat.zero_le _⟩) (fun r_4 u H locs hp hP hD hS => ?_)
      have hPD := PDm (ws' := (wd_X9_fruit cI cC cZ cB cJ a_x xI xH xB vI wY xX yA xY uD xO tJ jJ mY pG pD pE eO dN bD bJ aI uU gF pL qF jE eW eY dU fY gJ jG nU)) hP hD 8 rfl rfl rfl
      have hP := hPD.1
      have hD := hPD.2
      have hm := mgk (wc := (aGD cI cC cZ cB cJ vI tJ jJ mY pG pD pE eO dN bD bJ aI uU gF)) hP mk_35 8 rfl rfl rfl
      refine yW hP hD hS hA (yS mk_35) (aAi mk_35) hm.1 hm.2 (aAk _) (zW _) (zF (As := [.int p0, .int r_4]) (rest := []) C0 hP hD hS (yS mk_35) hm.1 (aAl _) 2 3 rfl rfl (c_X3_lowerThan l dC dI cI cC cZ cB cJ vI tJ jJ mY pG pD pE eO H.size p0 r_4 dN bD bJ aI uU gF _ hp) q_191 q_194 q_192 q_193 q_48 h_X3_lowerThan rfl rfl ⟨lbz rfl, lbz rfl⟩ rfl rfl hl.1 rfl (lv_room (lbz rfl)) eX9_fruit_125.2.2.2.2.2.2.1 ⟨Nat.zero_le _, Nat.zero_le _⟩) (fun r_5 u H locs hp hP hD hS => ?_)
      have hPD := PDm (ws' := (wd_X9_fruit cI cC cZ cB cJ a_x xI xH xB vI wY xX yA xY uD xO tJ jJ mY pG pD pE eO dN bD bJ aI uU gF pL qF jE eW eY dU fY gJ jG nU)) hP hD 8 rfl rfl rfl
      have hP := hPD.1
      have hD := hPD.2
      refine vx_ret (W.widen (k := 1) (n := 6) (Nat.zero_le _) (Nat.zero_le _) ?_)
      exact W.iret (v := r_5) hx hb hr (fun t ht hW => ⟨⟨r_5, (), rfl, hp, by rw [ht]; exact hP, va_K.moved hW.alike hK, hD⟩, hS.F ht⟩) hS.2.2 eX9_fruit_125.2.2.2.2.2.2.2
    have hp := hp.2.2.2.2.2.2.2 hc0 hc1 hc2 hc3 hc4 hc5 hc6
    have key : W p l e rm_X9_fruit s m args below meth c H locs 0 0 (vx_MQ below (q_X9_fruit dC dI cI cC cZ cB cJ A a_x xI xH xB vI wY xX yA xY uD xO tJ jJ mY pG pD pE eO dN bD bJ aI uU gF pL qF jE eW eY dU fY gJ jG nU post) (gXC (dC, dI) (tyl cI cC cZ cB cJ) A (wd_X9_fruit cI cC cZ cB cJ a_x xI xH xB vI wY xX yA xY uD xO tJ jJ mY pG pD pE eO dN bD bJ aI uU gF pL qF jE eW eY dU fY gJ jG nU) postx) args s 1 6 A) (F0 m 141 ls []) := by
      exact g_throw C0 hl9 htab hP hD hS hl.1 eX9_fruit_141.1 eX9_fruit_141.2.1 eX9_fruit_141.2.2.1 eX9_fruit_141.2.2.2 (lbz rfl) (lbz rfl) (lbz rfl) (lbz rfl) hp
    exact lv_tableOut (tgt := 141) hx hb aOo.2.2.2.2.2.2.2.2.2.2.1 (by have g0 := lv_neT (a := 0) hc0 rfl; have g1 := lv_neT (a := 1) hc1 rfl; have g2 := lv_neT (a := 2) hc2 rfl; have g3 := lv_neT (a := 3) hc3 rfl; have g4 := lv_neT (a := 4) hc4 rfl; have g5 := lv_neT (a := 5) hc5 rfl; have g6 := lv_neT (a := 6) hc6 rfl; omega) (by decide) key
  · have hp := hp.2 hc
    exact g_throw C0 hl9 htab hP hD hS hl.1 aOo.2.2.2.2.2.1 aOo.2.2.2.2.2.2.1 aOo.2.2.2.2.2.2.2.1 aOo.2.2.2.2.2.2.2.2.1 (lbz rfl) (lbz rfl) (lbz rfl) (lbz rfl) hp
abbrev aLv (cI cC cZ cB cJ : ClassId) (vI tJ jJ mY pG pD pE eO : Nat) (dN bD bJ aI : Int32) : va_W := [(vI, .inr (3, [.ref tJ, .ref jJ, .ref mY, .ref pG, .ref pD, .ref pE, .ref eO, .int dN, .int bD, .int bJ, .int aI]))]
abbrev q_X3_hasStanding (dC : Nat -> ClassId) (dI : Nat -> Nat -> Nat) (cI cC cZ cB cJ : ClassId) (A : Nat -> Prop) (vI tJ jJ mY pG pD pE eO : Nat) (dN bD bJ aI : Int32) (post : Int32 -> Prop) : Array Value -> State -> Outcome -> State -> Prop := va_Qi (fun (r : Int32) (u : Unit) => post r) (fun u t => gB (dC, dI) (tyl cI cC cZ cB cJ) A (aLv cI cC cZ cB cJ vI tJ jJ mY pG pD pE eO dN bD bJ aI) t) A
abbrev rm_X3_hasStanding : Room := { frames := 0, cells := 0, slots := 0, locals := 0 }
def aK6 (post : Int32 -> Prop) (p0 bD : Int32) : Prop := (p0 < 0 -> post 0) /\ (¬ p0 < 0 -> (bD <= p0 -> post 0) /\ (¬ bD <= p0 -> post 1))
set_option maxHeartbeats 4000000 in
set_option maxRecDepth 100000 in
theorem aZS (l : Launch) (dC : Nat -> ClassId) (dI : Nat -> Nat -> Nat) (cI cC cZ cB cJ : ClassId) (vI tJ jJ mY pG pD pE eO sz : Nat) (p0 dN bD bJ aI : Int32) (post : Int32 -> Prop) (hw : aK6 post p0 bD) : Met l aZH (gw aZH aXG 2 (some .boolean)) rm_X3_hasStanding (va_Pc [.ref vI, .int p0] (gPre (dC, dI) (tyl cI cC cZ cB cJ) (aLv cI cC cZ cB cJ vI tJ jJ mY pG pD pE eO dN bD bJ aI) sz)) (q_X3_hasStanding dC dI cI cC cZ cB cJ (va_A (aLv cI cC cZ cB cJ vI tJ jJ mY pG pD pE eO dN bD bJ aI) sz) vI tJ jJ mY pG pD pE eO dN bD bJ aI post) 0 0 (va_A (aLv cI cC cZ cB cJ vI tJ jJ mY pG pD pE eO dN bD bJ aI) sz) := by
  refine aBJ (own := RX3) (dC, dI) (tyl cI cC cZ cB cJ) (aLv cI cC cZ cB cJ vI tJ jJ mY pG pD pE eO dN bD bJ aI) sz [.ref vI, .int p0] (fun A => q_X3_hasStanding dC dI cI cC cZ cB cJ A vI tJ jJ mY pG pD pE eO dN bD bJ aI post) pn_RX3 rfl (lbz rfl) ?_
  intro p e s m args below meth c A H locs ls C0 hP hD hS hl
  have hl : lv_has ls 2 [(0, .ref vI), (1, .int p0)] := hl
  obtain ⟨hx, hb, hr, hml, hown, hts, hlocks, hA, hK, hN, tL, tM, hZL, hTL, hZM, hTM, hZX⟩ := id C0
  have hp := hw
  unfold aK6 at hp
  refine lv_iload_n hx hb aO3.1 rfl (lv_at hl 1 rfl) ?_
  refine lv_if_lt (tgt := 16) hx hb aO3.2.1 (by decide) (fun hc => ?_) (fun hc => ?_)
  · have hp := hp.1 hc
    refine lv_iconst (v := 0) hx hb aO3.2.2.2.2.2.2.2.2.1 aCi ?_
    exact W.zret (v := 0) hx hb hr rfl (fun t ht hW => ⟨⟨0, (), rfl, hp, by rw [ht]; exact hP, va_K.moved hW.alike hK, hD⟩, hS.F ht⟩) hS.2.2 aO3.2.2.2.2.2.2.2.2.2
  · have hp := hp.2 hc
    refine lv_iload_n hx hb aO3.2.2.1 rfl (lv_at hl 1 rfl) ?_
    refine lv_aload_n hx hb aO3.2.2.2.1 rfl (lv_at hl 0 rfl) ?_
    refine va_get (D := (dC, dI)) (ci := 3) (v := .int bD) (C := RX3) (T := TX3) (N := 11) hx hb hts i_X3 hown hK hP 0 rfl rfl 8 (lbz rfl) (hts _ q_22) (fun _ h9 => h9) rfl aO3.2.2.2.2.1 ?_
    refine lv_icmp_ge (tgt := 16) hx hb aO3.2.2.2.2.2.1 (by decide) (fun hc => ?_) (fun hc => ?_)
    · have hp := hp.1 hc
      refine lv_iconst (v := 0) hx hb aO3.2.2.2.2.2.2.2.2.1 aCi ?_
      exact W.zret (v := 0) hx hb hr rfl (fun t ht hW => ⟨⟨0, (), rfl, hp, by rw [ht]; exact hP, va_K.moved hW.alike hK, hD⟩, hS.F ht⟩) hS.2.2 aO3.2.2.2.2.2.2.2.2.2
    · have hp := hp.2 hc
      refine lv_iconst (v := 1) hx hb aO3.2.2.2.2.2.2.1 aDx ?_
      refine lv_goto (tgt := 17) hx hb aO3.2.2.2.2.2.2.2.1 (by decide) ?_
      exact W.zret (v := 1) hx hb hr rfl (fun t ht hW => ⟨⟨1, (), rfl, hp, by rw [ht]; exact hP, va_K.moved hW.alike hK, hD⟩, hS.F ht⟩) hS.2.2 aO3.2.2.2.2.2.2.2.2.2
abbrev bBO (cI cC cZ cB cJ : ClassId) (vI tJ jJ mY pG pD pE eO : Nat) (dN bD bJ aI : Int32) (oE : Nat -> Int32) : va_W := [(vI, .inr (3, [.ref tJ, .ref jJ, .ref mY, .ref pG, .ref pD, .ref pE, .ref eO, .int dN, .int bD, .int bJ, .int aI])), (pE, .inl (cI, 8, .inl oE))]
abbrev q_X3_downSeconds (dC : Nat -> ClassId) (dI : Nat -> Nat -> Nat) (cI cC cZ cB cJ : ClassId) (A : Nat -> Prop) (vI tJ jJ mY pG pD pE eO : Nat) (dN bD bJ aI : Int32) (oE : Nat -> Int32) (post : Int32 -> Prop) : Array Value -> State -> Outcome -> State -> Prop := va_Qi (fun (r : Int32) (u : Unit) => post r) (fun u t => gB (dC, dI) (tyl cI cC cZ cB cJ) A (bBO cI cC cZ cB cJ vI tJ jJ mY pG pD pE eO dN bD bJ aI oE) t) A
abbrev rm_X3_downSeconds : Room := { frames := 0, cells := 0, slots := 0, locals := 0 }
def aYG (post : Int32 -> Prop) (p0 : Int32) (oE : Nat -> Int32) : Prop := vp_in p0 8 /\ (∀ v_1 : Int32, v_1 = oE p0.toNatClampNeg -> ∀ v_2 : Int32, v_2 = v_1 + 9 -> post (3 + (v_2 / 10)))
set_option maxHeartbeats 4000000 in
set_option maxRecDepth 100000 in
theorem c_X3_downSeconds (l : Launch) (dC : Nat -> ClassId) (dI : Nat -> Nat -> Nat) (cI cC cZ cB cJ : ClassId) (vI tJ jJ mY pG pD pE eO sz : Nat) (p0 dN bD bJ aI : Int32) (oE : Nat -> Int32) (post : Int32 -> Prop) (hw : aYG post p0 oE) : Met l aXP (gw aXP aUO 2 (some .int)) rm_X3_downSeconds (va_Pc [.ref vI, .int p0] (gPre (dC, dI) (tyl cI cC cZ cB cJ) (bBO cI cC cZ cB cJ vI tJ jJ mY pG pD pE eO dN bD bJ aI oE) sz)) (q_X3_downSeconds dC dI cI cC cZ cB cJ (va_A (bBO cI cC cZ cB cJ vI tJ jJ mY pG pD pE eO dN bD bJ aI oE) sz) vI tJ jJ mY pG pD pE eO dN bD bJ aI oE post) 0 0 (va_A (bBO cI cC cZ cB cJ vI tJ jJ mY pG pD pE eO dN bD bJ aI oE) sz) := by
  refine aBJ (own := RX3) (dC, dI) (tyl cI cC cZ cB cJ) (bBO cI cC cZ cB cJ vI tJ jJ mY pG pD pE eO dN bD bJ aI oE) sz [.ref vI, .int p0] (fun A => q_X3_downSeconds dC dI cI cC cZ cB cJ A vI tJ jJ mY pG pD pE eO dN bD bJ aI oE post) pn_RX3 rfl (lbz rfl) ?_
  intro p e s m args below meth c A H locs ls C0 hP hD hS hl
  have hl : lv_has ls 2 [(0, .ref vI), (1, .int p0)] := hl
  obtain ⟨hx, hb, hr, hml, hown, hts, hlocks, hA, hK, hN, tL, tM, hZL, hTL, hZM, hTM, hZX⟩ := id C0
  have hp := hw
  unfold aYG at hp
  refine lv_iconst (v := 3) hx hb aUn.1 ic_3 ?_
  refine lv_aload_n hx hb aUn.2.1 rfl (lv_at hl 0 rfl) ?_
  refine va_get (D := (dC, dI)) (ci := 3) (v := .ref pE) (C := RX3) (T := TX3) (N := 11) hx hb hts i_X3 hown hK hP 0 rfl rfl 5 (lbz rfl) (hts _ q_54) (fun _ h9 => h9) rfl aUn.2.2.1 ?_
  refine lv_iload_n hx hb aUn.2.2.2.1 rfl (lv_at hl 1 rfl) ?_
  have hin := hp.1
  have hp := hp.2
  refine va_iald hx hb hK hP 1 0 rfl rfl hin aUn.2.2.2.2.1 ?_
  refine lv_topi (fun v_1 aFJ => ?_)
  have hp := hp v_1 aFJ
  refine lv_bipush (v := 9) hx hb aUn.2.2.2.2.2.1 bp_9 ?_
  refine lv_iadd hx hb aUn.2.2.2.2.2.2.1 ?_
  refine lv_topi (fun v_2 aGO => ?_)
  have hp := hp v_2 aGO
  refine lv_bipush (v := 10) hx hb aUn.2.2.2.2.2.2.2.1 bp_10 ?_
  refine lv_idiv hx hb aUn.2.2.2.2.2.2.2.2.1 (by decide) ?_
  refine lv_iadd hx hb aUn.2.2.2.2.2.2.2.2.2.1 ?_
  exact W.iret (v := 3 + (v_2 / 10)) hx hb hr (fun t ht hW => ⟨⟨3 + (v_2 / 10), (), rfl, hp, by rw [ht]; exact hP, va_K.moved hW.alike hK, hD⟩, hS.F ht⟩) hS.2.2 aUn.2.2.2.2.2.2.2.2.2.2
abbrev aY6 (cI cC cZ cB cJ : ClassId) (a_x xI xH xB vI wY xX yA xY uD tJ jJ mY pG pD pE eO : Nat) (dN bD bJ aI : Int32) (mX oE : Nat -> Int32) : va_W := [(a_x, .inr (9, [.ref xI, .ref xH, .ref xB, .ref vI, .ref wY, .ref xX, .ref yA, .ref xY, .ref uD])), (vI, .inr (3, [.ref tJ, .ref jJ, .ref mY, .ref pG, .ref pD, .ref pE, .ref eO, .int dN, .int bD, .int bJ, .int aI])), (pD, .inl (cI, 8, .inl mX)), (pE, .inl (cI, 8, .inl oE))]
abbrev q_X9_standing (dC : Nat -> ClassId) (dI : Nat -> Nat -> Nat) (cI cC cZ cB cJ : ClassId) (A : Nat -> Prop) (a_x xI xH xB vI wY xX yA xY uD tJ jJ mY pG pD pE eO : Nat) (dN bD bJ aI : Int32) (mX oE : Nat -> Int32) (post : Int32 -> Prop) : Array Value -> State -> Outcome -> State -> Prop := va_Qi (fun (r : Int32) (u : Unit) => post r) (fun u t => gB (dC, dI) (tyl cI cC cZ cB cJ) A (aY6 cI cC cZ cB cJ a_x xI xH xB vI wY xX yA xY uD tJ jJ mY pG pD pE eO dN bD bJ aI mX oE) t) A
abbrev rm_X9_standing : Room := { frames := 6, cells := 1, slots := 6, locals := 100 }
def wp_X9_standing (post : Int32 -> Prop) (postx : Prop) (p0 p1 bD : Int32) (mX oE : Nat -> Int32) : Prop := aK6 (fun r_1 => (¬ r_1 = 0 -> (p1 = 0 -> vp_in p0 8 /\ (post (mX p0.toNatClampNeg))) /\ (p1 = 1 -> vp_in p0 8 /\ (post (oE p0.toNatClampNeg))) /\ (p1 = 2 -> aYG (fun r_2 => post r_2) p0 oE) /\ (¬ p1 = 0 -> ¬ p1 = 1 -> ¬ p1 = 2 -> postx)) /\ (r_1 = 0 -> postx)) p0 bD
set_option maxHeartbeats 4000000 in
set_option maxRecDepth 100000 in
theorem c_X9_standing (l : Launch) (hl9 : l.stackTraces = false) (dC : Nat -> ClassId) (dI : Nat -> Nat -> Nat) (cI cC cZ cB cJ : ClassId) (a_x xI xH xB vI wY xX yA xY uD tJ jJ mY pG pD pE eO sz : Nat) (p0 p1 dN bD bJ aI : Int32) (mX oE : Nat -> Int32) (post : Int32 -> Prop) (postx : Prop) (hw : wp_X9_standing post postx p0 p1 bD mX oE) : vx_Met l yX9_standing (gw yX9_standing aGz 3 (some .int)) rm_X9_standing (va_Pc [.ref a_x, .int p0, .int p1] (gPre (dC, dI) (tyl cI cC cZ cB cJ) (aY6 cI cC cZ cB cJ a_x xI xH xB vI wY xX yA xY uD tJ jJ mY pG pD pE eO dN bD bJ aI mX oE) sz)) (q_X9_standing dC dI cI cC cZ cB cJ (va_A (aY6 cI cC cZ cB cJ a_x xI xH xB vI wY xX yA xY uD tJ jJ mY pG pD pE eO dN bD bJ aI mX oE) sz) a_x xI xH xB vI wY xX yA xY uD tJ jJ mY pG pD pE eO dN bD bJ aI mX oE post) (gXC (dC, dI) (tyl cI cC cZ cB cJ) (va_A (aY6 cI cC cZ cB cJ a_x xI xH xB vI wY xX yA xY uD tJ jJ mY pG pD pE eO dN bD bJ aI mX oE) sz) (aY6 cI cC cZ cB cJ a_x xI xH xB vI wY xX yA xY uD tJ jJ mY pG pD pE eO dN bD bJ aI mX oE) postx) 1 6 (va_A (aY6 cI cC cZ cB cJ a_x xI xH xB vI wY xX yA xY uD tJ jJ mY pG pD pE eO dN bD bJ aI mX oE) sz) := by
  refine g_enterX (own := RX9) (dC, dI) (tyl cI cC cZ cB cJ) (aY6 cI cC cZ cB cJ a_x xI xH xB vI wY xX yA xY uD tJ jJ mY pG pD pE eO dN bD bJ aI mX oE) sz [.ref a_x, .int p0, .int p1] (fun A => q_X9_standing dC dI cI cC cZ cB cJ A a_x xI xH xB vI wY xX yA xY uD tJ jJ mY pG pD pE eO dN bD bJ aI mX oE post) (fun A => (gXC (dC, dI) (tyl cI cC cZ cB cJ) A (aY6 cI cC cZ cB cJ a_x xI xH xB vI wY xX yA xY uD tJ jJ mY pG pD pE eO dN bD bJ aI mX oE) postx)) (by decide) rfl (lbz rfl) ?_
  intro p e s m args below meth c A H locs ls C0 htab hP hD hS hl
  have hl : lv_has ls 3 [(0, .ref a_x), (1, .int p0), (2, .int p1)] := hl
  obtain ⟨hx, hb, hr, hml, hown, hts, hlocks, hA, hK, hN, tL, tM, hZL, hTL, hZM, hTM, hZX⟩ := id C0
  have hp := hw
  unfold wp_X9_standing at hp
  refine lv_aload_n hx hb aLn.1 rfl (lv_at hl 0 rfl) ?_
  refine va_get (D := (dC, dI)) (ci := 9) (v := .ref vI) (C := RX9) (T := TX9) (N := 9) hx hb hts aC3 hown hK hP 0 rfl rfl 3 (lbz rfl) (hts _ q_74) (fun _ h9 => h9) rfl aLn.2.1 ?_
  refine lv_iload_n hx hb aLn.2.2.1 rfl (lv_at hl 1 rfl) ?_
  have hm := mgk (wc := (aLv cI cC cZ cB cJ vI tJ jJ mY pG pD pE eO dN bD bJ aI)) hP mk_36 4 rfl rfl rfl
  refine yW hP hD hS hA (yS mk_36) (aAi mk_36) hm.1 hm.2 (aAk _) (zW _) (zF (As := [.int p0]) (rest := []) C0 hP hD hS (yS mk_36) hm.1 (aAl _) 1 3 rfl rfl (aZS l dC dI cI cC cZ cB cJ vI tJ jJ mY pG pD pE eO H.size p0 dN bD bJ aI _ hp) q_195 q_198 q_196 q_197 q_48 aZZ rfl rfl ⟨lbz rfl, lbz rfl⟩ rfl rfl hl.1 rfl (lv_room (lbz rfl)) aLn.2.2.2.1 ⟨Nat.zero_le _, Nat.zero_le _⟩) (fun r_1 u H locs hp hP hD hS => ?_)
  have hPD := PDm (ws' := (aY6 cI cC cZ cB cJ a_x xI xH xB vI wY xX yA xY uD tJ jJ mY pG pD pE eO dN bD bJ aI mX oE)) hP hD 4 rfl rfl rfl
  have hP := hPD.1
  have hD := hPD.2
  refine lv_if_ne (tgt := 19) hx hb aLn.2.2.2.2.1 (by decide) (fun hc => ?_) (fun hc => ?_)
  · have hp := hp.1 hc
    refine lv_iload_n hx hb aLn.2.2.2.2.2.2.2.2.2.1 rfl (lv_at hl 2 rfl) ?_
    by_cases hc0 : p1 = 0
    · have hp := hp.1 hc0
      refine lv_tableIn (tgt := 48) hx hb aLn.2.2.2.2.2.2.2.2.2.2.1 (by first | (rw [hc0]; done) | (rw [hc0]; decide)) (by first | (rw [hc0]; done) | (rw [hc0]; decide)) (by first | (rw [hc0]; done) | (rw [hc0]; rfl)) (by decide) ?_
      refine lv_aload_n hx hb aLn.2.2.2.2.2.2.2.2.2.2.2.1 rfl (lv_at hl 0 rfl) ?_
      refine va_get (D := (dC, dI)) (ci := 9) (v := .ref vI) (C := RX9) (T := TX9) (N := 9) hx hb hts aC3 hown hK hP 0 rfl rfl 3 (lbz rfl) (hts _ q_74) (fun _ h9 => h9) rfl aLn.2.2.2.2.2.2.2.2.2.2.2.2.1 ?_
      refine va_get (D := (dC, dI)) (ci := 3) (v := .ref pD) (C := RX3) (T := TX3) (N := 11) hx hb hts i_X3 hown hK hP 1 rfl rfl 4 (lbz rfl) (hts _ q_199) (fun _ h9 => h9) rfl aLn.2.2.2.2.2.2.2.2.2.2.2.2.2.1 ?_
      refine lv_iload_n hx hb aLn.2.2.2.2.2.2.2.2.2.2.2.2.2.2.1 rfl (lv_at hl 1 rfl) ?_
      have hin := hp.1
      have hp := hp.2
      refine va_iald hx hb hK hP 2 0 rfl rfl hin aLn.2.2.2.2.2.2.2.2.2.2.2.2.2.2.2 ?_
      refine vx_ret (W.widen (k := 1) (n := 6) (Nat.zero_le _) (Nat.zero_le _) ?_)
      exact W.iret (v := mX p0.toNatClampNeg) hx hb hr (fun t ht hW => ⟨⟨mX p0.toNatClampNeg, (), rfl, hp, by rw [ht]; exact hP, va_K.moved hW.alike hK, hD⟩, hS.F ht⟩) hS.2.2 aOW.1
    by_cases hc1 : p1 = 1
    · have hp := hp.2.1 hc1
      refine lv_tableIn (tgt := 58) hx hb aLn.2.2.2.2.2.2.2.2.2.2.1 (by first | (rw [hc1]; done) | (rw [hc1]; decide)) (by first | (rw [hc1]; done) | (rw [hc1]; decide)) (by first | (rw [hc1]; done) | (rw [hc1]; rfl)) (by decide) ?_
      refine lv_aload_n hx hb aOW.2.1 rfl (lv_at hl 0 rfl) ?_
      refine va_get (D := (dC, dI)) (ci := 9) (v := .ref vI) (C := RX9) (T := TX9) (N := 9) hx hb hts aC3 hown hK hP 0 rfl rfl 3 (lbz rfl) (hts _ q_74) (fun _ h9 => h9) rfl aOW.2.2.1 ?_
      refine va_get (D := (dC, dI)) (ci := 3) (v := .ref pE) (C := RX3) (T := TX3) (N := 11) hx hb hts i_X3 hown hK hP 1 rfl rfl 5 (lbz rfl) (hts _ q_200) (fun _ h9 => h9) rfl aOW.2.2.2.1 ?_
      refine lv_iload_n hx hb aOW.2.2.2.2.1 rfl (lv_at hl 1 rfl) ?_
      have hin := hp.1
      have hp := hp.2
      refine va_iald hx hb hK hP 3 0 rfl rfl hin aOW.2.2.2.2.2.1 ?_
      refine vx_ret (W.widen (k := 1) (n := 6) (Nat.zero_le _) (Nat.zero_le _) ?_)
      exact W.iret (v := oE p0.toNatClampNeg) hx hb hr (fun t ht hW => ⟨⟨oE p0.toNatClampNeg, (), rfl, hp, by rw [ht]; exact hP, va_K.moved hW.alike hK, hD⟩, hS.F ht⟩) hS.2.2 aOW.2.2.2.2.2.2.1
    by_cases hc2 : p1 = 2
    · have hp := hp.2.2.1 hc2
      refine lv_tableIn (tgt := 68) hx hb aLn.2.2.2.2.2.2.2.2.2.2.1 (by first | (rw [hc2]; done) | (rw [hc2]; decide)) (by first | (rw [hc2]; done) | (rw [hc2]; decide)) (by first | (rw [hc2]; done) | (rw [hc2]; rfl)) (by decide) ?_
      refine lv_aload_n hx hb aOW.2.2.2.2.2.2.2.1 rfl (lv_at hl 0 rfl) ?_
      refine va_get (D := (dC, dI)) (ci := 9) (v := .ref vI) (C := RX9) (T := TX9) (N := 9) hx hb hts aC3 hown hK hP 0 rfl rfl 3 (lbz rfl) (hts _ q_74) (fun _ h9 => h9) rfl aOW.2.2.2.2.2.2.2.2.1 ?_
      refine lv_iload_n hx hb aOW.2.2.2.2.2.2.2.2.2.1 rfl (lv_at hl 1 rfl) ?_
      have hm := mgk (wc := (bBO cI cC cZ cB cJ vI tJ jJ mY pG pD pE eO dN bD bJ aI oE)) hP mk_37 4 rfl rfl rfl
      refine yW hP hD hS hA (yS mk_37) (aAi mk_37) hm.1 hm.2 (aAk _) (zW _) (zF (As := [.int p0]) (rest := []) C0 hP hD hS (yS mk_37) hm.1 (aAl _) 1 3 rfl rfl (c_X3_downSeconds l dC dI cI cC cZ cB cJ vI tJ jJ mY pG pD pE eO H.size p0 dN bD bJ aI oE _ hp) q_201 q_204 q_202 q_203 q_48 h_X3_downSeconds rfl rfl ⟨lbz rfl, lbz rfl⟩ rfl rfl hl.1 rfl (lv_room (lbz rfl)) aOW.2.2.2.2.2.2.2.2.2.2.1 ⟨Nat.zero_le _, Nat.zero_le _⟩) (fun r_2 u H locs hp hP hD hS => ?_)
      have hPD := PDm (ws' := (aY6 cI cC cZ cB cJ a_x xI xH xB vI wY xX yA xY uD tJ jJ mY pG pD pE eO dN bD bJ aI mX oE)) hP hD 4 rfl rfl rfl
      have hP := hPD.1
      have hD := hPD.2
      refine vx_ret (W.widen (k := 1) (n := 6) (Nat.zero_le _) (Nat.zero_le _) ?_)
      exact W.iret (v := r_2) hx hb hr (fun t ht hW => ⟨⟨r_2, (), rfl, hp, by rw [ht]; exact hP, va_K.moved hW.alike hK, hD⟩, hS.F ht⟩) hS.2.2 aOW.2.2.2.2.2.2.2.2.2.2.2.1
    have hp := hp.2.2.2 hc0 hc1 hc2
    have key : W p l e rm_X9_standing s m args below meth c H locs 0 0 (vx_MQ below (q_X9_standing dC dI cI cC cZ cB cJ A a_x xI xH xB vI wY xX yA xY uD tJ jJ mY pG pD pE eO dN bD bJ aI mX oE post) (gXC (dC, dI) (tyl cI cC cZ cB cJ) A (aY6 cI cC cZ cB cJ a_x xI xH xB vI wY xX yA xY uD tJ jJ mY pG pD pE eO dN bD bJ aI mX oE) postx) args s 1 6 A) (F0 m 77 ls []) := by
      exact g_throw C0 hl9 htab hP hD hS hl.1 aOW.2.2.2.2.2.2.2.2.2.2.2.2.1 aOW.2.2.2.2.2.2.2.2.2.2.2.2.2.1 aOW.2.2.2.2.2.2.2.2.2.2.2.2.2.2.1 aOW.2.2.2.2.2.2.2.2.2.2.2.2.2.2.2 (lbz rfl) (lbz rfl) (lbz rfl) (lbz rfl) hp
    exact lv_tableOut (tgt := 77) hx hb aLn.2.2.2.2.2.2.2.2.2.2.1 (by have g0 := lv_neT (a := 0) hc0 rfl; have g1 := lv_neT (a := 1) hc1 rfl; have g2 := lv_neT (a := 2) hc2 rfl; omega) (by decide) key
  · have hp := hp.2 hc
    exact g_throw C0 hl9 htab hP hD hS hl.1 aLn.2.2.2.2.2.1 aLn.2.2.2.2.2.2.1 aLn.2.2.2.2.2.2.2.1 aLn.2.2.2.2.2.2.2.2.1 (lbz rfl) (lbz rfl) (lbz rfl) (lbz rfl) hp
