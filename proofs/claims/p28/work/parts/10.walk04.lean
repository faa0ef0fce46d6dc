abbrev wd_X9_set (cI cC cZ cB cJ : ClassId) (a_x xI xH xB vI wY xX yA xY uD tJ jJ mY pG pD pE eO : Nat) (dN bD bJ aI : Int32) (dY : Nat -> Int32) : va_W := [(a_x, .inr (9, [.ref xI, .ref xH, .ref xB, .ref vI, .ref wY, .ref xX, .ref yA, .ref xY, .ref uD])), (vI, .inr (3, [.ref tJ, .ref jJ, .ref mY, .ref pG, .ref pD, .ref pE, .ref eO, .int dN, .int bD, .int bJ, .int aI])), (eO, .inl (cI, 5, .inl dY))]
abbrev q_X9_set (dC : Nat -> ClassId) (dI : Nat -> Nat -> Nat) (cI cC cZ cB cJ : ClassId) (A : Nat -> Prop) (a_x xI xH xB vI wY xX yA xY uD tJ jJ mY pG pD pE eO : Nat) (dN bD bJ aI : Int32) (post : Int32 -> (Nat -> Int32) -> Prop) : Array Value -> State -> Outcome -> State -> Prop := va_Qi (fun (r : Int32) (u : (Nat -> Int32)) => post r u) (fun u t => gB (dC, dI) (tyl cI cC cZ cB cJ) A (wd_X9_set cI cC cZ cB cJ a_x xI xH xB vI wY xX yA xY uD tJ jJ mY pG pD pE eO dN bD bJ aI u) t) A
abbrev rm_X9_set : Room := { frames := 0, cells := 0, slots := 0, locals := 0 }
def wp_X9_set (post : Int32 -> (Nat -> Int32) -> Prop) (p0 p1 : Int32) (dY : Nat -> Int32) : Prop := (p0 < 0 -> post (-1) dY) /\ (¬ p0 < 0 -> (4 < p0 -> post (-1) dY) /\ (¬ 4 < p0 -> vp_in p0 5 /\ ((p1 < (stL p0.toNatClampNeg) -> post (-1) dY) /\ (¬ p1 < (stL p0.toNatClampNeg) -> vp_in p0 5 /\ ((p1 <= (stM p0.toNatClampNeg) -> vp_in p0 5 /\ (∀ v_1 : Int32, v_1 = dY p0.toNatClampNeg -> vp_in p0 5 /\ (post v_1 (upd dY p0.toNatClampNeg p1)))) /\ (¬ p1 <= (stM p0.toNatClampNeg) -> post (-1) dY))))))
set_option maxHeartbeats 4000000 in
set_option maxRecDepth 100000 in
theorem c_X9_set (l : Launch) (dC : Nat -> ClassId) (dI : Nat -> Nat -> Nat) (cI cC cZ cB cJ : ClassId) (a_x xI xH xB vI wY xX yA xY uD tJ jJ mY pG pD pE eO sz : Nat) (p0 p1 dN bD bJ aI : Int32) (dY : Nat -> Int32) (post : Int32 -> (Nat -> Int32) -> Prop) (hw : wp_X9_set post p0 p1 dY) : Met l yX9_set (gw yX9_set aVk 4 (some .int)) rm_X9_set (va_Pc [.ref a_x, .int p0, .int p1] (gPre (dC, dI) (tyl cI cC cZ cB cJ) (wd_X9_set cI cC cZ cB cJ a_x xI xH xB vI wY xX yA xY uD tJ jJ mY pG pD pE eO dN bD bJ aI dY) sz)) (q_X9_set dC dI cI cC cZ cB cJ (va_A (wd_X9_set cI cC cZ cB cJ a_x xI xH xB vI wY xX yA xY uD tJ jJ mY pG pD pE eO dN bD bJ aI dY) sz) a_x xI xH xB vI wY xX yA xY uD tJ jJ mY pG pD pE eO dN bD bJ aI post) 0 0 (va_A (wd_X9_set cI cC cZ cB cJ a_x xI xH xB vI wY xX yA xY uD tJ jJ mY pG pD pE eO dN bD bJ aI dY) sz) := by
  refine aBJ (own := RX9) (dC, dI) (tyl cI cC cZ cB cJ) (wd_X9_set cI cC cZ cB cJ a_x xI xH xB vI wY xX yA xY uD tJ jJ mY pG pD pE eO dN bD bJ aI dY) sz [.ref a_x, .int p0, .int p1] (fun A => q_X9_set dC dI cI cC cZ cB cJ A a_x xI xH xB vI wY xX yA xY uD tJ jJ mY pG pD pE eO dN bD bJ aI post) pn_RX9 rfl (lbz rfl) ?_
  intro p e s m args below meth c A H locs ls C0 hP hD hS hl
  have hl : lv_has ls 4 [(0, .ref a_x), (1, .int p0), (2, .int p1)] := hl
  obtain ⟨hx, hb, hr, hml, hown, hts, hlocks, hA, hK, hN, tL, tM, hZL, hTL, hZM, hTM, hZX⟩ := id C0
  have hp := hw
  unfold wp_X9_set at hp
  refine lv_iload_n hx hb eX9_set_0.1 rfl (lv_at hl 1 rfl) ?_
  refine lv_if_lt (tgt := 27) hx hb eX9_set_0.2.1 (by decide) (fun hc => ?_) (fun hc => ?_)
  · have hp := hp.1 hc
    refine lv_iconst (v := (-1)) hx hb eX9_set_0.2.2.2.2.2.2.2.2.2.2.2.2.2.2.2 aEJ ?_
    exact W.iret (v := (-1)) hx hb hr (fun t ht hW => ⟨⟨(-1), dY, rfl, hp, by rw [ht]; exact hP, va_K.moved hW.alike hK, hD⟩, hS.F ht⟩) hS.2.2 bA0.1
  · have hp := hp.2 hc
    refine lv_iload_n hx hb eX9_set_0.2.2.1 rfl (lv_at hl 1 rfl) ?_
    refine lv_iconst (v := 4) hx hb eX9_set_0.2.2.2.1 ic_4 ?_
    refine lv_icmp_gt (tgt := 27) hx hb eX9_set_0.2.2.2.2.1 (by decide) (fun hc => ?_) (fun hc => ?_)
    · have hp := hp.1 hc
      refine lv_iconst (v := (-1)) hx hb eX9_set_0.2.2.2.2.2.2.2.2.2.2.2.2.2.2.2 aEJ ?_
      exact W.iret (v := (-1)) hx hb hr (fun t ht hW => ⟨⟨(-1), dY, rfl, hp, by rw [ht]; exact hP, va_K.moved hW.alike hK, hD⟩, hS.F ht⟩) hS.2.2 bA0.1
    · have hp := hp.2 hc
      refine lv_iload_n hx hb eX9_set_0.2.2.2.2.2.1 rfl (lv_at hl 2 rfl) ?_
      refine va_gets hx hb hZL hS hown (hts _ q_205) (fun _ h9 => h9) eX9_set_0.2.2.2.2.2.2.1 ?_
      refine lv_iload_n hx hb eX9_set_0.2.2.2.2.2.2.2.1 rfl (lv_at hl 1 rfl) ?_
      have hin := hp.1
      have hp := hp.2
      refine va_ti hx hb hTL hS hin rfl eX9_set_0.2.2.2.2.2.2.2.2.1 ?_
      refine lv_icmp_lt (tgt := 27) hx hb eX9_set_0.2.2.2.2.2.2.2.2.2.1 (by decide) (fun hc => ?_) (fun hc => ?_)
      · have hp := hp.1 hc
        refine lv_iconst (v := (-1)) hx hb eX9_set_0.2.2.2.2.2.2.2.2.2.2.2.2.2.2.2 aEJ ?_
        exact W.iret (v := (-1)) hx hb hr (fun t ht hW => ⟨⟨(-1), dY, rfl, hp, by rw [ht]; exact hP, va_K.moved hW.alike hK, hD⟩, hS.F ht⟩) hS.2.2 bA0.1
      · have hp := hp.2 hc
        refine lv_iload_n hx hb eX9_set_0.2.2.2.2.2.2.2.2.2.2.1 rfl (lv_at hl 2 rfl) ?_
        refine va_gets hx hb hZM hS hown (hts _ q_206) (fun _ h9 => h9) eX9_set_0.2.2.2.2.2.2.2.2.2.2.2.1 ?_
        refine lv_iload_n hx hb eX9_set_0.2.2.2.2.2.2.2.2.2.2.2.2.1 rfl (lv_at hl 1 rfl) ?_
        have hin := hp.1
        have hp := hp.2
        refine va_ti hx hb hTM hS hin rfl eX9_set_0.2.2.2.2.2.2.2.2.2.2.2.2.2.1 ?_
        refine lv_icmp_le (tgt := 29) hx hb eX9_set_0.2.2.2.2.2.2.2.2.2.2.2.2.2.2.1 (by decide) (fun hc => ?_) (fun hc => ?_)
        · have hp := hp.1 hc
          refine lv_aload_n hx hb bA0.2.1 rfl (lv_at hl 0 rfl) ?_
          refine va_get (D := (dC, dI)) (ci := 9) (v := .ref vI) (C := RX9) (T := TX9) (N := 9) hx hb hts aC3 hown hK hP 0 rfl rfl 3 (lbz rfl) (hts _ q_74) (fun _ h9 => h9) rfl bA0.2.2.1 ?_
          refine va_get (D := (dC, dI)) (ci := 3) (v := .ref eO) (C := RX3) (T := TX3) (N := 11) hx hb hts i_X3 hown hK hP 1 rfl rfl 6 (lbz rfl) (hts _ q_207) (fun _ h9 => h9) rfl bA0.2.2.2.1 ?_
          refine lv_iload_n hx hb bA0.2.2.2.2.1 rfl (lv_at hl 1 rfl) ?_
          have hin := hp.1
          have hp := hp.2
          refine va_iald hx hb hK hP 2 0 rfl rfl hin bA0.2.2.2.2.2.1 ?_
          refine lv_topi (fun v_1 aFJ => ?_)
          have hp := hp v_1 aFJ
          refine lv_istore_n (lv' := [(3, .int v_1), (0, .ref a_x), (1, .int p0), (2, .int p1)]) hx hb bA0.2.2.2.2.2.2.1 rfl hl (by decide) rfl (fun ls hl => ?_)
          refine lv_aload_n hx hb bA0.2.2.2.2.2.2.2.1 rfl (lv_at hl 1 rfl) ?_
          refine va_get (D := (dC, dI)) (ci := 9) (v := .ref vI) (C := RX9) (T := TX9) (N := 9) hx hb hts aC3 hown hK hP 0 rfl rfl 3 (lbz rfl) (hts _ q_74) (fun _ h9 => h9) rfl bA0.2.2.2.2.2.2.2.2.1 ?_
          refine va_get (D := (dC, dI)) (ci := 3) (v := .ref eO) (C := RX3) (T := TX3) (N := 11) hx hb hts i_X3 hown hK hP 1 rfl rfl 6 (lbz rfl) (hts _ q_207) (fun _ h9 => h9) rfl bA0.2.2.2.2.2.2.2.2.2.1 ?_
          refine lv_iload_n hx hb bA0.2.2.2.2.2.2.2.2.2.2.1 rfl (lv_at hl 2 rfl) ?_
          refine lv_iload_n hx hb bA0.2.2.2.2.2.2.2.2.2.2.2.1 rfl (lv_at hl 3 rfl) ?_
          have hin := hp.1
          have hp := hp.2
          refine va_iast hx hb hK hP hD hS 2 0 rfl rfl hin bA0.2.2.2.2.2.2.2.2.2.2.2.2.1 (fun H locs hP hD hS => ?_)
          have hPD := PDw (ws' := (wd_X9_set cI cC cZ cB cJ a_x xI xH xB vI wY xX yA xY uD tJ jJ mY pG pD pE eO dN bD bJ aI (upd dY p0.toNatClampNeg p1))) hP hD rfl
          have hP := hPD.1
          have hD := hPD.2
          refine lv_iload_n hx hb bA0.2.2.2.2.2.2.2.2.2.2.2.2.2.1 rfl (lv_at hl 0 rfl) ?_
          exact W.iret (v := v_1) hx hb hr (fun t ht hW => ⟨⟨v_1, (upd dY p0.toNatClampNeg p1), rfl, hp, by rw [ht]; exact hP, va_K.moved hW.alike hK, hD⟩, hS.F ht⟩) hS.2.2 bA0.2.2.2.2.2.2.2.2.2.2.2.2.2.2
        · have hp := hp.2 hc
          refine lv_iconst (v := (-1)) hx hb eX9_set_0.2.2.2.2.2.2.2.2.2.2.2.2.2.2.2 aEJ ?_
          exact W.iret (v := (-1)) hx hb hr (fun t ht hW => ⟨⟨(-1), dY, rfl, hp, by rw [ht]; exact hP, va_K.moved hW.alike hK, hD⟩, hS.F ht⟩) hS.2.2 bA0.1
abbrev aHT (cI cC cZ cB cJ : ClassId) (vI tJ jJ mY pG pD pE eO : Nat) (dN bD bJ aI : Int32) (pL : Nat -> Int32) : va_W := [(vI, .inr (3, [.ref tJ, .ref jJ, .ref mY, .ref pG, .ref pD, .ref pE, .ref eO, .int dN, .int bD, .int bJ, .int aI])), (mY, .inl (cI, 16, .inl pL))]
abbrev q_X3_fillWorths (dC : Nat -> ClassId) (dI : Nat -> Nat -> Nat) (cI cC cZ cB cJ : ClassId) (A : Nat -> Prop) (vI tJ jJ mY pG pD pE eO : Nat) (dN bD bJ aI : Int32) (post : Int32 -> (Nat -> Int32) -> Prop) : Array Value -> State -> Outcome -> State -> Prop := va_Qi (fun (r : Int32) (u : (Nat -> Int32)) => post r u) (fun u t => gB (dC, dI) (tyl cI cC cZ cB cJ) A (aHT cI cC cZ cB cJ vI tJ jJ mY pG pD pE eO dN bD bJ aI u) t) A
abbrev rm_X3_fillWorths : Room := { frames := 1, cells := 0, slots := 0, locals := 21 }
section S_X3_fillWorths
variable {p : Program} {l : Launch} {e : Env} {s : State} {m : MethodId} {args : Array Value} {below : List Frame} {meth : Method} {c : Code} {dC : Nat -> ClassId} {dI : Nat -> Nat -> Nat} {cI cC cZ cB cJ : ClassId} {A : Nat -> Prop} {vI tJ jJ mY pG pD pE eO : Nat} {dN bD bJ aI : Int32} {post : Int32 -> (Nat -> Int32) -> Prop}
def aRF (post : Int32 -> (Nat -> Int32) -> Prop) (K9 : Int32 -> Int32 -> Int32 -> Int32 -> Int32 -> Int32 -> (Nat -> Int32) -> Prop) (dN x1 x2 x4 x5 x6 x7 k1 k2 : Int32) (pL : Nat -> Int32) : Prop := vp_in k1 16 /\ (vp_in x7 16 /\ (∀ v_1 : Int32, v_1 = x5 + ((upd pL k1.toNatClampNeg k2) x7.toNatClampNeg) -> ∀ v_2 : Int32, v_2 = x6 + x4 -> ∀ v_3 : Int32, v_3 = x7 + 1 -> K9 x1 x2 x4 v_1 v_2 v_3 (upd pL k1.toNatClampNeg k2)))
set_option maxHeartbeats 4000000 in
set_option maxRecDepth 100000 in
theorem ks_X3_fillWorths_70 (C0 : gc aCr (some .int) 9 RX3 (dC, dI) (tyl cI cC cZ cB cJ) A p s m args meth c) {K9 : Int32 -> Int32 -> Int32 -> Int32 -> Int32 -> Int32 -> (Nat -> Int32) -> Prop} (hK9 : ∀ (x1 : Int32) (x2 : Int32) (x4 : Int32) (x5 : Int32) (x6 : Int32) (x7 : Int32) (pL : Nat -> Int32) (H : Heap) (locs : List Loc) (ls : Array Slot), K9 x1 x2 x4 x5 x6 x7 pL -> va_P (dC, dI) classes (aHT cI cC cZ cB cJ vI tJ jJ mY pG pD pE eO dN bD bJ aI pL) H -> va_D A (aHT cI cC cZ cB cJ vI tJ jJ mY pG pD pE eO dN bD bJ aI pL) -> va_S A s.heap H locs -> lv_has ls 9 [(0, .ref vI), (1, .int x1), (2, .int x2), (4, .int x4), (5, .int x5), (6, .int x6), (7, .int x7)] -> W p l e rm_X3_fillWorths s m args below meth c H locs 0 0 (MQ below (q_X3_fillWorths dC dI cI cC cZ cB cJ A vI tJ jJ mY pG pD pE eO dN bD bJ aI post) args s 0 0 A) (F0 m 9 ls [])) : ∀ (x1 x2 x4 x5 x6 x7 k1 k2 : Int32) (pL : Nat -> Int32) (H : Heap) (locs : List Loc) (ls : Array Slot), (aRF post K9 dN) x1 x2 x4 x5 x6 x7 k1 k2 pL -> va_P (dC, dI) classes (aHT cI cC cZ cB cJ vI tJ jJ mY pG pD pE eO dN bD bJ aI pL) H -> va_D A (aHT cI cC cZ cB cJ vI tJ jJ mY pG pD pE eO dN bD bJ aI pL) -> va_S A s.heap H locs -> lv_has ls 9 [(0, .ref vI), (1, .int x1), (2, .int x2), (4, .int x4), (5, .int x5), (6, .int x6), (7, .int x7)] -> W p l e rm_X3_fillWorths s m args below meth c H locs 0 0 (MQ below (q_X3_fillWorths dC dI cI cC cZ cB cJ A vI tJ jJ mY pG pD pE eO dN bD bJ aI post) args s 0 0 A) (F0 m 70 ls [.int k2, .int k1, .ref mY]) := by
  obtain ⟨hx, hb, hr, hml, hown, hts, hlocks, hA, hK, hN, tL, tM, hZL, hTL, hZM, hTM, hZX⟩ := id C0
  intro x1 x2 x4 x5 x6 x7 k1 k2 pL H locs ls hp hP hD hS hl
  unfold aRF at hp
  have hin := hp.1
  have hp := hp.2
  refine va_iast hx hb hK hP hD hS 1 0 rfl rfl hin aKs.2.2.2.2.1 (fun H locs hP hD hS => ?_)
  have hPD := PDw (ws' := (aHT cI cC cZ cB cJ vI tJ jJ mY pG pD pE eO dN bD bJ aI (upd pL k1.toNatClampNeg k2))) hP hD rfl
  have hP := hPD.1
  have hD := hPD.2
  refine lv_iload hx hb aKs.2.2.2.2.2.1 (lv_at hl 4 rfl) ?_
  refine lv_aload_n hx hb aKs.2.2.2.2.2.2.1 rfl (lv_at hl 0 rfl) ?_
  refine va_get (D := (dC, dI)) (ci := 3) (v := .ref mY) (C := RX3) (T := TX3) (N := 11) hx hb hts i_X3 hown hK hP 0 rfl rfl 2 (lbz rfl) (hts _ q_51) (fun _ h9 => h9) rfl aKs.2.2.2.2.2.2.2.1 ?_
  refine lv_iload hx hb aKs.2.2.2.2.2.2.2.2.1 (lv_at hl 6 rfl) ?_
  have hin := hp.1
  have hp := hp.2
  refine va_iald hx hb hK hP 1 0 rfl rfl hin aKs.2.2.2.2.2.2.2.2.2.1 ?_
  refine lv_iadd hx hb aKs.2.2.2.2.2.2.2.2.2.2.1 ?_
  refine lv_topi (fun v_1 aFJ => ?_)
  have hp := hp v_1 aFJ
  refine lv_istore (lv' := [(5, .int v_1), (0, .ref vI), (1, .int x1), (2, .int x2), (4, .int x4), (6, .int x6), (7, .int x7)]) hx hb aKs.2.2.2.2.2.2.2.2.2.2.2.1 hl (by decide) rfl (fun ls hl => ?_)
  refine lv_iload hx hb aKs.2.2.2.2.2.2.2.2.2.2.2.2.1 (lv_at hl 5 rfl) ?_
  refine lv_iload hx hb aKs.2.2.2.2.2.2.2.2.2.2.2.2.2.1 (lv_at hl 4 rfl) ?_
  refine lv_iadd hx hb aKs.2.2.2.2.2.2.2.2.2.2.2.2.2.2.1 ?_
  refine lv_topi (fun v_2 aGO => ?_)
  have hp := hp v_2 aGO
  refine lv_istore (lv' := [(6, .int v_2), (5, .int v_1), (0, .ref vI), (1, .int x1), (2, .int x2), (4, .int x4), (7, .int x7)]) hx hb aKs.2.2.2.2.2.2.2.2.2.2.2.2.2.2.2 hl (by decide) rfl (fun ls hl => ?_)
  obtain ⟨v_3, aGW⟩ : ∃ y : Int32, y = x7 + 1 := ⟨_, rfl⟩
  refine lv_iinc (v := v_3) (lv' := [(7, .int v_3), (6, .int v_2), (5, .int v_1), (0, .ref vI), (1, .int x1), (2, .int x2), (4, .int x4)]) hx hb eX3_fillWorths_90.1 hl (k := 6) rfl (by rw [aGW]; rfl) (by decide) rfl (fun ls hl => ?_)
  have hp := hp v_3 aGW
  refine lv_goto (tgt := 9) hx hb eX3_fillWorths_90.2.1 (by decide) ?_
  exact hK9 x1 x2 x4 v_1 v_2 v_3 (upd pL k1.toNatClampNeg k2) H locs ls hp hP hD hS (lv_sub hl [3, 4, 5, 6, 2, 1, 0] rfl)
def aXE (post : Int32 -> (Nat -> Int32) -> Prop) (K9 : Int32 -> Int32 -> Int32 -> Int32 -> Int32 -> Int32 -> (Nat -> Int32) -> Prop) (dN x1 x2 x4 x5 x6 x7 k0 : Int32) (pL : Nat -> Int32) : Prop := (x2 <= x7 -> aRF post K9 dN x1 x2 x4 x5 x6 x7 x7 0 pL) /\ (¬ x2 <= x7 -> ∀ v_4 : Int32, v_4 = (if k0 < 9 then k0 else 9) -> ∀ v_5 : Int32, v_5 = (if 0 < v_4 then v_4 else 0) -> aRF post K9 dN x1 x2 x4 x5 x6 x7 x7 v_5 pL)
set_option maxHeartbeats 4000000 in
set_option maxRecDepth 100000 in
theorem ks_X3_fillWorths_41 (C0 : gc aCr (some .int) 9 RX3 (dC, dI) (tyl cI cC cZ cB cJ) A p s m args meth c) {K9 : Int32 -> Int32 -> Int32 -> Int32 -> Int32 -> Int32 -> (Nat -> Int32) -> Prop} (hK9 : ∀ (x1 : Int32) (x2 : Int32) (x4 : Int32) (x5 : Int32) (x6 : Int32) (x7 : Int32) (pL : Nat -> Int32) (H : Heap) (locs : List Loc) (ls : Array Slot), K9 x1 x2 x4 x5 x6 x7 pL -> va_P (dC, dI) classes (aHT cI cC cZ cB cJ vI tJ jJ mY pG pD pE eO dN bD bJ aI pL) H -> va_D A (aHT cI cC cZ cB cJ vI tJ jJ mY pG pD pE eO dN bD bJ aI pL) -> va_S A s.heap H locs -> lv_has ls 9 [(0, .ref vI), (1, .int x1), (2, .int x2), (4, .int x4), (5, .int x5), (6, .int x6), (7, .int x7)] -> W p l e rm_X3_fillWorths s m args below meth c H locs 0 0 (MQ below (q_X3_fillWorths dC dI cI cC cZ cB cJ A vI tJ jJ mY pG pD pE eO dN bD bJ aI post) args s 0 0 A) (F0 m 9 ls [])) : ∀ (x1 x2 x4 x5 x6 x7 k0 : Int32) (pL : Nat -> Int32) (H : Heap) (locs : List Loc) (ls : Array Slot), (aXE post K9 dN) x1 x2 x4 x5 x6 x7 k0 pL -> va_P (dC, dI) classes (aHT cI cC cZ cB cJ vI tJ jJ mY pG pD pE eO dN bD bJ aI pL) H -> va_D A (aHT cI cC cZ cB cJ vI tJ jJ mY pG pD pE eO dN bD bJ aI pL) -> va_S A s.heap H locs -> lv_has ls 9 [(0, .ref vI), (1, .int x1), (2, .int x2), (4, .int x4), (5, .int x5), (6, .int x6), (7, .int x7)] -> W p l e rm_X3_fillWorths s m args below meth c H locs 0 0 (MQ below (q_X3_fillWorths dC dI cI cC cZ cB cJ A vI tJ jJ mY pG pD pE eO dN bD bJ aI post) args s 0 0 A) (F0 m 41 ls [.int k0]) := by
  obtain ⟨hx, hb, hr, hml, hown, hts, hlocks, hA, hK, hN, tL, tM, hZL, hTL, hZM, hTM, hZX⟩ := id C0
  intro x1 x2 x4 x5 x6 x7 k0 pL H locs ls hp hP hD hS hl
  unfold aXE at hp
  refine lv_istore (lv' := [(8, .int k0), (0, .ref vI), (1, .int x1), (2, .int x2), (4, .int x4), (5, .int x5), (6, .int x6), (7, .int x7)]) hx hb aKr.2.2.2.2.2.2.1 hl (by decide) rfl (fun ls hl => ?_)
  refine lv_aload_n hx hb aKr.2.2.2.2.2.2.2.1 rfl (lv_at hl 1 rfl) ?_
  refine va_get (D := (dC, dI)) (ci := 3) (v := .ref mY) (C := RX3) (T := TX3) (N := 11) hx hb hts i_X3 hown hK hP 0 rfl rfl 2 (lbz rfl) (hts _ q_51) (fun _ h9 => h9) rfl aKr.2.2.2.2.2.2.2.2.1 ?_
  refine lv_iload hx hb aKr.2.2.2.2.2.2.2.2.2.1 (lv_at hl 7 rfl) ?_
  refine lv_iload hx hb aKr.2.2.2.2.2.2.2.2.2.2.1 (lv_at hl 7 rfl) ?_
  refine lv_iload_n hx hb aKr.2.2.2.2.2.2.2.2.2.2.2.1 rfl (lv_at hl 3 rfl) ?_
  refine lv_icmp_ge (tgt := 69) hx hb aKr.2.2.2.2.2.2.2.2.2.2.2.2.1 (by decide) (fun hc => ?_) (fun hc => ?_)
  · have hp := hp.1 hc
    refine lv_iconst (v := 0) hx hb aKs.2.2.2.1 aCi ?_
    exact ks_X3_fillWorths_70 C0 hK9 x1 x2 x4 x5 x6 x7 x7 0 pL H locs ls hp hP hD hS (lv_sub hl [1, 2, 3, 4, 5, 6, 7] rfl)
  · have hp := hp.2 hc
    refine lv_iconst (v := 0) hx hb aKr.2.2.2.2.2.2.2.2.2.2.2.2.2.1 aCi ?_
    refine lv_bipush (v := 9) hx hb aKr.2.2.2.2.2.2.2.2.2.2.2.2.2.2.1 bp_9 ?_
    refine lv_iload hx hb aKr.2.2.2.2.2.2.2.2.2.2.2.2.2.2.2 (lv_at hl 0 rfl) ?_
    refine va_mmin hx hb (by rw [hml]; exact hl.1.symm) hown (hts _ q_208) (hts _ q_15) (hts _ q_16) (hts _ q_17) (lbz rfl) (lbz rfl) (Nat.zero_le _) (Nat.zero_le _) aKs.1 ?_
    refine lv_topi (fun v_4 aHM => ?_)
    have hp := hp v_4 aHM
    refine va_mmax hx hb (by rw [hml]; exact hl.1.symm) hown (hts _ q_209) (hts _ q_134) (hts _ q_16) (hts _ q_135) (lbz rfl) (lbz rfl) (Nat.zero_le _) (Nat.zero_le _) aKs.2.1 ?_
    refine lv_topi (fun v_5 aJD => ?_)
    have hp := hp v_5 aJD
    refine lv_goto (tgt := 70) hx hb aKs.2.2.1 (by decide) ?_
    exact ks_X3_fillWorths_70 C0 hK9 x1 x2 x4 x5 x6 x7 x7 v_5 pL H locs ls hp hP hD hS (lv_sub hl [1, 2, 3, 4, 5, 6, 7] rfl)
def ws_X3_fillWorths_9 (post : Int32 -> (Nat -> Int32) -> Prop) (next : Int32 -> Int32 -> Int32 -> Int32 -> Int32 -> Int32 -> (Nat -> Int32) -> Prop) (dN x1 x2 x4 x5 x6 x7 : Int32) (pL : Nat -> Int32) : Prop := (dN <= x7 -> post x5 pL) /\ (¬ dN <= x7 -> (¬ x1 = 0 -> (¬ x1 = 1 -> aXE post next dN x1 x2 x4 x5 x6 x7 x6 pL) /\ (x1 = 1 -> ∀ v_6 : Int32, v_6 = x6.toInt16.toInt32 -> aXE post next dN x1 x2 x4 x5 x6 x7 v_6 pL)) /\ (x1 = 0 -> ∀ v_7 : Int32, v_7 = x6.toInt8.toInt32 -> aXE post next dN x1 x2 x4 x5 x6 x7 v_7 pL))
noncomputable def wb_X3_fillWorths_9 (post : Int32 -> (Nat -> Int32) -> Prop) (dN : Int32) : Nat -> Int32 -> Int32 -> Int32 -> Int32 -> Int32 -> Int32 -> (Nat -> Int32) -> Prop := fun n => Nat.rec (motive := fun _ => Int32 -> Int32 -> Int32 -> Int32 -> Int32 -> Int32 -> (Nat -> Int32) -> Prop) (fun _ _ _ _ _ _ _ => False) (fun _ ih => ws_X3_fillWorths_9 post ih dN) n
set_option maxHeartbeats 4000000 in
set_option maxRecDepth 100000 in
theorem ks_X3_fillWorths_9 (C0 : gc aCr (some .int) 9 RX3 (dC, dI) (tyl cI cC cZ cB cJ) A p s m args meth c) {next : Int32 -> Int32 -> Int32 -> Int32 -> Int32 -> Int32 -> (Nat -> Int32) -> Prop} (hKn : ∀ (x1 : Int32) (x2 : Int32) (x4 : Int32) (x5 : Int32) (x6 : Int32) (x7 : Int32) (pL : Nat -> Int32) (H : Heap) (locs : List Loc) (ls : Array Slot), next x1 x2 x4 x5 x6 x7 pL -> va_P (dC, dI) classes (aHT cI cC cZ cB cJ vI tJ jJ mY pG pD pE eO dN bD bJ aI pL) H -> va_D A (aHT cI cC cZ cB cJ vI tJ jJ mY pG pD pE eO dN bD bJ aI pL) -> va_S A s.heap H locs -> lv_has ls 9 [(0, .ref vI), (1, .int x1), (2, .int x2), (4, .int x4), (5, .int x5), (6, .int x6), (7, .int x7)] -> W p l e rm_X3_fillWorths s m args below meth c H locs 0 0 (MQ below (q_X3_fillWorths dC dI cI cC cZ cB cJ A vI tJ jJ mY pG pD pE eO dN bD bJ aI post) args s 0 0 A) (F0 m 9 ls [])) : ∀ (x1 x2 x4 x5 x6 x7 : Int32) (pL : Nat -> Int32) (H : Heap) (locs : List Loc) (ls : Array Slot), (ws_X3_fillWorths_9 post next dN) x1 x2 x4 x5 x6 x7 pL -> va_P (dC, dI) classes (aHT cI cC cZ cB cJ vI tJ jJ mY pG pD pE eO dN bD bJ aI pL) H -> va_D A (aHT cI cC cZ cB cJ vI tJ jJ mY pG pD pE eO dN bD bJ aI pL) -> va_S A s.heap H locs -> lv_has ls 9 [(0, .ref vI), (1, .int x1), (2, .int x2), (4, .int x4), (5, .int x5), (6, .int x6), (7, .int x7)] -> W p l e rm_X3_fillWorths s m args below meth c H locs 0 0 (MQ below (q_X3_fillWorths dC dI cI cC cZ cB cJ A vI tJ jJ mY pG pD pE eO dN bD bJ aI post) args s 0 0 A) (F0 m 9 ls []) := by
  obtain ⟨hx, hb, hr, hml, hown, hts, hlocks, hA, hK, hN, tL, tM, hZL, hTL, hZM, hTM, hZX⟩ := id C0
  intro x1 x2 x4 x5 x6 x7 pL H locs ls hp hP hD hS hl
  unfold ws_X3_fillWorths_9 at hp
  refine lv_iload hx hb aMV.2.2.2.2.2.2.1 (lv_at hl 6 rfl) ?_
  refine lv_aload_n hx hb aMV.2.2.2.2.2.2.2.1 rfl (lv_at hl 0 rfl) ?_
  refine va_get (D := (dC, dI)) (ci := 3) (v := .int dN) (C := RX3) (T := TX3) (N := 11) hx hb hts i_X3 hown hK hP 0 rfl rfl 7 (lbz rfl) (hts _ q_20) (fun _ h9 => h9) rfl aMV.2.2.2.2.2.2.2.2.1 ?_
  refine lv_icmp_ge (tgt := 96) hx hb aMV.2.2.2.2.2.2.2.2.2.1 (by decide) (fun hc => ?_) (fun hc => ?_)
  · have hp := hp.1 hc
    refine lv_iload hx hb eX3_fillWorths_90.2.2.1 (lv_at hl 4 rfl) ?_
    exact W.iret (v := x5) hx hb hr (fun t ht hW => ⟨⟨x5, pL, rfl, hp, by rw [ht]; exact hP, va_K.moved hW.alike hK, hD⟩, hS.F ht⟩) hS.2.2 eX3_fillWorths_90.2.2.2
  · have hp := hp.2 hc
    refine lv_iload_n hx hb aMV.2.2.2.2.2.2.2.2.2.2.1 rfl (lv_at hl 1 rfl) ?_
    refine lv_if_ne (tgt := 28) hx hb aMV.2.2.2.2.2.2.2.2.2.2.2.1 (by decide) (fun hc => ?_) (fun hc => ?_)
    · have hp := hp.1 hc
      refine lv_iload_n hx hb aMV.2.2.2.2.2.2.2.2.2.2.2.2.2.2.2 rfl (lv_at hl 1 rfl) ?_
      refine lv_iconst (v := 1) hx hb aKr.1 aDx ?_
      refine lv_icmp_ne (tgt := 39) hx hb aKr.2.1 (by decide) (fun hc => ?_) (fun hc => ?_)
      · have hp := hp.1 hc
        refine lv_iload hx hb aKr.2.2.2.2.2.1 (lv_at hl 5 rfl) ?_
        exact ks_X3_fillWorths_41 C0 hKn x1 x2 x4 x5 x6 x7 x6 pL H locs ls hp hP hD hS (lv_sub hl [0, 1, 2, 3, 4, 5, 6] rfl)
      · have hp := hp.2 hc
        refine lv_iload hx hb aKr.2.2.1 (lv_at hl 5 rfl) ?_
        refine lv_i2s hx hb aKr.2.2.2.1 rfl ?_
        refine lv_topi (fun v_6 ev_6 => ?_)
        have hp := hp v_6 ev_6
        refine lv_goto (tgt := 41) hx hb aKr.2.2.2.2.1 (by decide) ?_
        exact ks_X3_fillWorths_41 C0 hKn x1 x2 x4 x5 x6 x7 v_6 pL H locs ls hp hP hD hS (lv_sub hl [0, 1, 2, 3, 4, 5, 6] rfl)
    · have hp := hp.2 hc
      refine lv_iload hx hb aMV.2.2.2.2.2.2.2.2.2.2.2.2.1 (lv_at hl 5 rfl) ?_
      refine lv_i2b hx hb aMV.2.2.2.2.2.2.2.2.2.2.2.2.2.1 rfl ?_
      refine lv_topi (fun v_7 ev_7 => ?_)
      have hp := hp v_7 ev_7
      refine lv_goto (tgt := 41) hx hb aMV.2.2.2.2.2.2.2.2.2.2.2.2.2.2.1 (by decide) ?_
      exact ks_X3_fillWorths_41 C0 hKn x1 x2 x4 x5 x6 x7 v_7 pL H locs ls hp hP hD hS (lv_sub hl [0, 1, 2, 3, 4, 5, 6] rfl)
set_option maxHeartbeats 4000000 in
set_option maxRecDepth 100000 in
theorem kb_X3_fillWorths_9 (C0 : gc aCr (some .int) 9 RX3 (dC, dI) (tyl cI cC cZ cB cJ) A p s m args meth c) : ∀ (n : Nat), ∀ (x1 x2 x4 x5 x6 x7 : Int32) (pL : Nat -> Int32) (H : Heap) (locs : List Loc) (ls : Array Slot), (wb_X3_fillWorths_9 post dN n) x1 x2 x4 x5 x6 x7 pL -> va_P (dC, dI) classes (aHT cI cC cZ cB cJ vI tJ jJ mY pG pD pE eO dN bD bJ aI pL) H -> va_D A (aHT cI cC cZ cB cJ vI tJ jJ mY pG pD pE eO dN bD bJ aI pL) -> va_S A s.heap H locs -> lv_has ls 9 [(0, .ref vI), (1, .int x1), (2, .int x2), (4, .int x4), (5, .int x5), (6, .int x6), (7, .int x7)] -> W p l e rm_X3_fillWorths s m args below meth c H locs 0 0 (MQ below (q_X3_fillWorths dC dI cI cC cZ cB cJ A vI tJ jJ mY pG pD pE eO dN bD bJ aI post) args s 0 0 A) (F0 m 9 ls []) := by
  intro n
  induction n with
  | zero =>
    intro x1 x2 x4 x5 x6 x7 pL H locs ls hp
    exact False.elim hp
  | succ n ih =>
    intro x1 x2 x4 x5 x6 x7 pL H locs ls hp
    exact ks_X3_fillWorths_9 C0 ih x1 x2 x4 x5 x6 x7 pL H locs ls hp
end S_X3_fillWorths
def bCX (post : Int32 -> (Nat -> Int32) -> Prop) (p0 p1 p2 p3 dN : Int32) (pL : Nat -> Int32) : Prop := ∃ n : Nat, wb_X3_fillWorths_9 post dN n p0 p1 p3 0 p2 0 pL
set_option maxHeartbeats 4000000 in
set_option maxRecDepth 100000 in
theorem c_X3_fillWorths (l : Launch) (dC : Nat -> ClassId) (dI : Nat -> Nat -> Nat) (cI cC cZ cB cJ : ClassId) (vI tJ jJ mY pG pD pE eO sz : Nat) (p0 p1 p2 p3 dN bD bJ aI : Int32) (pL : Nat -> Int32) (post : Int32 -> (Nat -> Int32) -> Prop) (hw : bCX post p0 p1 p2 p3 dN pL) : Met l yX3_fillWorths (gw yX3_fillWorths aCr 9 (some .int)) rm_X3_fillWorths (va_Pc [.ref vI, .int p0, .int p1, .int p2, .int p3] (gPre (dC, dI) (tyl cI cC cZ cB cJ) (aHT cI cC cZ cB cJ vI tJ jJ mY pG pD pE eO dN bD bJ aI pL) sz)) (q_X3_fillWorths dC dI cI cC cZ cB cJ (va_A (aHT cI cC cZ cB cJ vI tJ jJ mY pG pD pE eO dN bD bJ aI pL) sz) vI tJ jJ mY pG pD pE eO dN bD bJ aI post) 0 0 (va_A (aHT cI cC cZ cB cJ vI tJ jJ mY pG pD pE eO dN bD bJ aI pL) sz) := by
  refine aBJ (own := RX3) (dC, dI) (tyl cI cC cZ cB cJ) (aHT cI cC cZ cB cJ vI tJ jJ mY pG pD pE eO dN bD bJ aI pL) sz [.ref vI, .int p0, .int p1, .int p2, .int p3] (fun A => q_X3_fillWorths dC dI cI cC cZ cB cJ A vI tJ jJ mY pG pD pE eO dN bD bJ aI post) pn_RX3 rfl (lbz rfl) ?_
  intro p e s m args below meth c A H locs ls C0 hP hD hS hl
  have hl : lv_has ls 9 [(0, .ref vI), (1, .int p0), (2, .int p1), (3, .int p2), (4, .int p3)] := hl
  obtain ⟨hx, hb, hr, hml, hown, hts, hlocks, hA, hK, hN, tL, tM, hZL, hTL, hZM, hTM, hZX⟩ := id C0
  have hp := hw
  unfold bCX at hp
  refine lv_iconst (v := 0) hx hb aMV.1 aCi ?_
  refine lv_istore (lv' := [(5, .int 0), (0, .ref vI), (1, .int p0), (2, .int p1), (3, .int p2), (4, .int p3)]) hx hb aMV.2.1 hl (by decide) rfl (fun ls hl => ?_)
  refine lv_iload_n hx hb aMV.2.2.1 rfl (lv_at hl 4 rfl) ?_
  refine lv_istore (lv' := [(6, .int p2), (5, .int 0), (0, .ref vI), (1, .int p0), (2, .int p1), (3, .int p2), (4, .int p3)]) hx hb aMV.2.2.2.1 hl (by decide) rfl (fun ls hl => ?_)
  refine lv_iconst (v := 0) hx hb aMV.2.2.2.2.1 aCi ?_
  refine lv_istore (lv' := [(7, .int 0), (6, .int p2), (5, .int 0), (0, .ref vI), (1, .int p0), (2, .int p1), (3, .int p2), (4, .int p3)]) hx hb aMV.2.2.2.2.2.1 hl (by decide) rfl (fun ls hl => ?_)
  obtain ⟨n9, hp⟩ := hp
  exact kb_X3_fillWorths_9 C0 n9 p0 p1 p3 0 p2 0 pL H locs ls hp hP hD hS (lv_sub hl [3, 4, 5, 7, 2, 1, 0] rfl)
abbrev wd_X9_sheet (cI cC cZ cB cJ : ClassId) (a_x xI xH xB vI wY xX yA xY uD tJ jJ mY pG pD pE eO : Nat) (dN bD bJ aI : Int32) (pL : Nat -> Int32) : va_W := [(a_x, .inr (9, [.ref xI, .ref xH, .ref xB, .ref vI, .ref wY, .ref xX, .ref yA, .ref xY, .ref uD])), (vI, .inr (3, [.ref tJ, .ref jJ, .ref mY, .ref pG, .ref pD, .ref pE, .ref eO, .int dN, .int bD, .int bJ, .int aI])), (mY, .inl (cI, 16, .inl pL))]
abbrev q_X9_sheet (dC : Nat -> ClassId) (dI : Nat -> Nat -> Nat) (cI cC cZ cB cJ : ClassId) (A : Nat -> Prop) (a_x xI xH xB vI wY xX yA xY uD tJ jJ mY pG pD pE eO : Nat) (dN bD bJ aI : Int32) (post : Int32 -> (Nat -> Int32) -> Prop) : Array Value -> State -> Outcome -> State -> Prop := va_Qi (fun (r : Int32) (u : (Nat -> Int32)) => post r u) (fun u t => gB (dC, dI) (tyl cI cC cZ cB cJ) A (wd_X9_sheet cI cC cZ cB cJ a_x xI xH xB vI wY xX yA xY uD tJ jJ mY pG pD pE eO dN bD bJ aI u) t) A
abbrev rm_X9_sheet : Room := { frames := 2, cells := 0, slots := 0, locals := 49 }
def wp_X9_sheet (post : Int32 -> (Nat -> Int32) -> Prop) (p0 p1 p2 p3 dN : Int32) (pL : Nat -> Int32) : Prop := (p0 < 0 -> post (-1) pL) /\ (¬ p0 < 0 -> (3 < p0 -> post (-1) pL) /\ (¬ 3 < p0 -> (p1 <= 16 -> (¬ p0 = 3 -> (0 <= p1 -> bCX (fun r_1 tr_worth_2 => post r_1 tr_worth_2) p0 p1 p2 p3 dN pL) /\ (¬ 0 <= p1 -> post (-2) pL)) /\ (p0 = 3 -> bCX (fun r_3 tr_worth_4 => post (-3) tr_worth_4) 2 0 0 0 dN pL)) /\ (¬ p1 <= 16 -> post (-1) pL)))
set_option maxHeartbeats 4000000 in
set_option maxRecDepth 100000 in
theorem c_X9_sheet (l : Launch) (dC : Nat -> ClassId) (dI : Nat -> Nat -> Nat) (cI cC cZ cB cJ : ClassId) (a_x xI xH xB vI wY xX yA xY uD tJ jJ mY pG pD pE eO sz : Nat) (p0 p1 p2 p3 dN bD bJ aI : Int32) (pL : Nat -> Int32) (post : Int32 -> (Nat -> Int32) -> Prop) (hw : wp_X9_sheet post p0 p1 p2 p3 dN pL) : Met l yX9_sheet (gw yX9_sheet aKB 5 (some .int)) rm_X9_sheet (va_Pc [.ref a_x, .int p0, .int p1, .int p2, .int p3] (gPre (dC, dI) (tyl cI cC cZ cB cJ) (wd_X9_sheet cI cC cZ cB cJ a_x xI xH xB vI wY xX yA xY uD tJ jJ mY pG pD pE eO dN bD bJ aI pL) sz)) (q_X9_sheet dC dI cI cC cZ cB cJ (va_A (wd_X9_sheet cI cC cZ cB cJ a_x xI xH xB vI wY xX yA xY uD tJ jJ mY pG pD pE eO dN bD bJ aI pL) sz) a_x xI xH xB vI wY xX yA xY uD tJ jJ mY pG pD pE eO dN bD bJ aI post) 0 0 (va_A (wd_X9_sheet cI cC cZ cB cJ a_x xI xH xB vI wY xX yA xY uD tJ jJ mY pG pD pE eO dN bD bJ aI pL) sz) := by
  refine aBJ (own := RX9) (dC, dI) (tyl cI cC cZ cB cJ) (wd_X9_sheet cI cC cZ cB cJ a_x xI xH xB vI wY xX yA xY uD tJ jJ mY pG pD pE eO dN bD bJ aI pL) sz [.ref a_x, .int p0, .int p1, .int p2, .int p3] (fun A => q_X9_sheet dC dI cI cC cZ cB cJ A a_x xI xH xB vI wY xX yA xY uD tJ jJ mY pG pD pE eO dN bD bJ aI post) pn_RX9 rfl (lbz rfl) ?_
  intro p e s m args below meth c A H locs ls C0 hP hD hS hl
  have hl : lv_has ls 5 [(0, .ref a_x), (1, .int p0), (2, .int p1), (3, .int p2), (4, .int p3)] := hl
  obtain ⟨hx, hb, hr, hml, hown, hts, hlocks, hA, hK, hN, tL, tM, hZL, hTL, hZM, hTM, hZX⟩ := id C0
  have hp := hw
  unfold wp_X9_sheet at hp
  refine lv_iload_n hx hb aSY.1 rfl (lv_at hl 1 rfl) ?_
  refine lv_if_lt (tgt := 15) hx hb aSY.2.1 (by decide) (fun hc => ?_) (fun hc => ?_)
  · have hp := hp.1 hc
    refine lv_iconst (v := (-1)) hx hb aSY.2.2.2.2.2.2.2.2.1 aEJ ?_
    exact W.iret (v := (-1)) hx hb hr (fun t ht hW => ⟨⟨(-1), pL, rfl, hp, by rw [ht]; exact hP, va_K.moved hW.alike hK, hD⟩, hS.F ht⟩) hS.2.2 aSY.2.2.2.2.2.2.2.2.2.1
  · have hp := hp.2 hc
    refine lv_iload_n hx hb aSY.2.2.1 rfl (lv_at hl 1 rfl) ?_
    refine lv_iconst (v := 3) hx hb aSY.2.2.2.1 ic_3 ?_
    refine lv_icmp_gt (tgt := 15) hx hb aSY.2.2.2.2.1 (by decide) (fun hc => ?_) (fun hc => ?_)
    · have hp := hp.1 hc
      refine lv_iconst (v := (-1)) hx hb aSY.2.2.2.2.2.2.2.2.1 aEJ ?_
      exact W.iret (v := (-1)) hx hb hr (fun t ht hW => ⟨⟨(-1), pL, rfl, hp, by rw [ht]; exact hP, va_K.moved hW.alike hK, hD⟩, hS.F ht⟩) hS.2.2 aSY.2.2.2.2.2.2.2.2.2.1
    · have hp := hp.2 hc
      refine lv_iload_n hx hb aSY.2.2.2.2.2.1 rfl (lv_at hl 2 rfl) ?_
      refine lv_bipush (v := 16) hx hb aSY.2.2.2.2.2.2.1 bp_16 ?_
      refine lv_icmp_le (tgt := 17) hx hb aSY.2.2.2.2.2.2.2.1 (by decide) (fun hc => ?_) (fun hc => ?_)
      · have hp := hp.1 hc
        refine lv_iload_n hx hb aSY.2.2.2.2.2.2.2.2.2.2.1 rfl (lv_at hl 1 rfl) ?_
        refine lv_iconst (v := 3) hx hb aSY.2.2.2.2.2.2.2.2.2.2.2.1 ic_3 ?_
        refine lv_icmp_ne (tgt := 37) hx hb aSY.2.2.2.2.2.2.2.2.2.2.2.2.1 (by decide) (fun hc => ?_) (fun hc => ?_)
        · have hp := hp.1 hc
          refine lv_iload_n hx hb aW1.2.2.2.2.2.2.2.1 rfl (lv_at hl 2 rfl) ?_
          refine lv_if_ge (tgt := 46) hx hb aW1.2.2.2.2.2.2.2.2.1 (by decide) (fun hc => ?_) (fun hc => ?_)
          · have hp := hp.1 hc
            refine lv_aload_n hx hb aW1.2.2.2.2.2.2.2.2.2.2.2.1 rfl (lv_at hl 0 rfl) ?_
            refine va_get (D := (dC, dI)) (ci := 9) (v := .ref vI) (C := RX9) (T := TX9) (N := 9) hx hb hts aC3 hown hK hP 0 rfl rfl 3 (lbz rfl) (hts _ q_74) (fun _ h9 => h9) rfl aW1.2.2.2.2.2.2.2.2.2.2.2.2.1 ?_
            refine lv_iload_n hx hb aW1.2.2.2.2.2.2.2.2.2.2.2.2.2.1 rfl (lv_at hl 1 rfl) ?_
            refine lv_iload_n hx hb aW1.2.2.2.2.2.2.2.2.2.2.2.2.2.2.1 rfl (lv_at hl 2 rfl) ?_
            refine lv_iload_n hx hb aW1.2.2.2.2.2.2.2.2.2.2.2.2.2.2.2 rfl (lv_at hl 3 rfl) ?_
            refine lv_iload hx hb eX9_sheet_53.1 (lv_at hl 4 rfl) ?_
            have hm := mgk (wc := (aHT cI cC cZ cB cJ vI tJ jJ mY pG pD pE eO dN bD bJ aI pL)) hP mk_0 3 rfl rfl rfl
            refine yW hP hD hS hA (yS mk_0) (aAi mk_0) hm.1 hm.2 (aAk _) (zW _) (zF (As := [.int p0, .int p1, .int p2, .int p3]) (rest := []) C0 hP hD hS (yS mk_0) hm.1 (aAl _) 1 3 rfl rfl (c_X3_fillWorths l dC dI cI cC cZ cB cJ vI tJ jJ mY pG pD pE eO H.size p0 p1 p2 p3 dN bD bJ aI pL _ hp) q_210 q_213 q_211 q_212 q_48 h_X3_fillWorths rfl rfl ⟨lbz rfl, lbz rfl⟩ rfl rfl hl.1 rfl (lv_room (lbz rfl)) eX9_sheet_53.2.1 ⟨Nat.zero_le _, Nat.zero_le _⟩) (fun r_1 u H locs hp hP hD hS => ?_)
            obtain ⟨tr_worth_2, rfl⟩ : ∃ z, z = u := ⟨_, rfl⟩
            have hPD := PDm (ws' := (wd_X9_sheet cI cC cZ cB cJ a_x xI xH xB vI wY xX yA xY uD tJ jJ mY pG pD pE eO dN bD bJ aI tr_worth_2)) hP hD 3 rfl rfl rfl
            have hP := hPD.1
            have hD := hPD.2
            exact W.iret (v := r_1) hx hb hr (fun t ht hW => ⟨⟨r_1, tr_worth_2, rfl, hp, by rw [ht]; exact hP, va_K.moved hW.alike hK, hD⟩, hS.F ht⟩) hS.2.2 eX9_sheet_53.2.2
          · have hp := hp.2 hc
            refine lv_bipush (v := (-2)) hx hb aW1.2.2.2.2.2.2.2.2.2.1 bp_m2 ?_
            refine lv_goto (tgt := 58) hx hb aW1.2.2.2.2.2.2.2.2.2.2.1 (by decide) ?_
            exact W.iret (v := (-2)) hx hb hr (fun t ht hW => ⟨⟨(-2), pL, rfl, hp, by rw [ht]; exact hP, va_K.moved hW.alike hK, hD⟩, hS.F ht⟩) hS.2.2 eX9_sheet_53.2.2
        · have hp := hp.2 hc
          refine lv_aload_n hx hb aSY.2.2.2.2.2.2.2.2.2.2.2.2.2.1 rfl (lv_at hl 0 rfl) ?_
          refine va_get (D := (dC, dI)) (ci := 9) (v := .ref vI) (C := RX9) (T := TX9) (N := 9) hx hb hts aC3 hown hK hP 0 rfl rfl 3 (lbz rfl) (hts _ q_74) (fun _ h9 => h9) rfl aSY.2.2.2.2.2.2.2.2.2.2.2.2.2.2.1 ?_
          refine lv_iconst (v := 2) hx hb aSY.2.2.2.2.2.2.2.2.2.2.2.2.2.2.2 ic_2 ?_
          refine lv_iconst (v := 0) hx hb aW1.1 aCi ?_
          refine lv_iconst (v := 0) hx hb aW1.2.1 aCi ?_
          refine lv_iconst (v := 0) hx hb aW1.2.2.1 aCi ?_
          have hm := mgk (wc := (aHT cI cC cZ cB cJ vI tJ jJ mY pG pD pE eO dN bD bJ aI pL)) hP mk_0 3 rfl rfl rfl
          refine yW hP hD hS hA (yS mk_0) (aAi mk_0) hm.1 hm.2 (aAk _) (zW _) (zF (As := [.int 2, .int 0, .int 0, .int 0]) (rest := []) C0 hP hD hS (yS mk_0) hm.1 (aAl _) 1 3 rfl rfl (c_X3_fillWorths l dC dI cI cC cZ cB cJ vI tJ jJ mY pG pD pE eO H.size 2 0 0 0 dN bD bJ aI pL _ hp) q_210 q_213 q_211 q_212 q_48 h_X3_fillWorths rfl rfl ⟨lbz rfl, lbz rfl⟩ rfl rfl hl.1 rfl (lv_room (lbz rfl)) aW1.2.2.2.1 ⟨Nat.zero_le _, Nat.zero_le _⟩) (fun r_3 u H locs hp hP hD hS => ?_)
          obtain ⟨tr_worth_4, rfl⟩ : ∃ z, z = u := ⟨_, rfl⟩
          have hPD := PDm (ws' := (wd_X9_sheet cI cC cZ cB cJ a_x xI xH xB vI wY xX yA xY uD tJ jJ mY pG pD pE eO dN bD bJ aI tr_worth_4)) hP hD 3 rfl rfl rfl
          have hP := hPD.1
          have hD := hPD.2
          refine lv_pop hx hb aW1.2.2.2.2.1 rfl ?_
          refine lv_bipush (v := (-3)) hx hb aW1.2.2.2.2.2.1 bp_m3 ?_
          exact W.iret (v := (-3)) hx hb hr (fun t ht hW => ⟨⟨(-3), tr_worth_4, rfl, hp, by rw [ht]; exact hP, va_K.moved hW.alike hK, hD⟩, hS.F ht⟩) hS.2.2 aW1.2.2.2.2.2.2.1
      · have hp := hp.2 hc
        refine lv_iconst (v := (-1)) hx hb aSY.2.2.2.2.2.2.2.2.1 aEJ ?_
        exact W.iret (v := (-1)) hx hb hr (fun t ht hW => ⟨⟨(-1), pL, rfl, hp, by rw [ht]; exact hP, va_K.moved hW.alike hK, hD⟩, hS.F ht⟩) hS.2.2 aSY.2.2.2.2.2.2.2.2.2.1
abbrev aPd (cI cC cZ cB cJ : ClassId) (wY wF : Nat) (jE eW eY dU fY gJ jG nU : Int32) (tD : Nat -> Int32) : va_W := [(wY, .inr (2, [.int jE, .int eW, .int eY, .int dU, .int fY, .int gJ, .int jG, .int nU])), (wF, .inl (cI, 104, .inl tD))]
abbrev q_X2_write (dC : Nat -> ClassId) (dI : Nat -> Nat -> Nat) (cI cC cZ cB cJ : ClassId) (A : Nat -> Prop) (wY wF : Nat) (jE eW eY dU fY gJ jG nU : Int32) (post : (Nat -> Int32) -> Prop) : Array Value -> State -> Outcome -> State -> Prop := va_Qv (fun (u : (Nat -> Int32)) => post u) (fun u t => gB (dC, dI) (tyl cI cC cZ cB cJ) A (aPd cI cC cZ cB cJ wY wF jE eW eY dU fY gJ jG nU u) t) A
abbrev rm_X2_write : Room := { frames := 0, cells := 0, slots := 0, locals := 0 }
def wp_X2_write (post : (Nat -> Int32) -> Prop) (p1 jE eW eY dU fY gJ jG nU : Int32) (tD : Nat -> Int32) : Prop := (p1 < 0 -> post tD) /\ (¬ p1 < 0 -> (p1 <= (104 - 8) -> vp_in p1 104 /\ (∀ v_1 : Int32, v_1 = p1 + 1 -> vp_in v_1 104 /\ (∀ v_2 : Int32, v_2 = p1 + 2 -> vp_in v_2 104 /\ (∀ v_3 : Int32, v_3 = p1 + 3 -> vp_in v_3 104 /\ (∀ v_4 : Int32, v_4 = p1 + 4 -> vp_in v_4 104 /\ (∀ v_5 : Int32, v_5 = p1 + 5 -> vp_in v_5 104 /\ (∀ v_6 : Int32, v_6 = p1 + 6 -> vp_in v_6 104 /\ (∀ v_7 : Int32, v_7 = p1 + 7 -> vp_in v_7 104 /\ (post (upd (upd (upd (upd (upd (upd (upd (upd tD p1.toNatClampNeg jE) v_1.toNatClampNeg eW) v_2.toNatClampNeg eY) v_3.toNatClampNeg dU) v_4.toNatClampNeg fY) v_5.toNatClampNeg gJ) v_6.toNatClampNeg jG) v_7.toNatClampNeg nU)))))))))) /\ (¬ p1 <= (104 - 8) -> post tD))
set_option maxHeartbeats 4000000 in
set_option maxRecDepth 100000 in
theorem c_X2_write (l : Launch) (dC : Nat -> ClassId) (dI : Nat -> Nat -> Nat) (cI cC cZ cB cJ : ClassId) (wY wF sz : Nat) (p1 jE eW eY dU fY gJ jG nU : Int32) (tD : Nat -> Int32) (post : (Nat -> Int32) -> Prop) (hw : wp_X2_write post p1 jE eW eY dU fY gJ jG nU tD) : Met l yX2_write (gw yX2_write aER 3 none) rm_X2_write (va_Pc [.ref wY, .ref wF, .int p1] (gPre (dC, dI) (tyl cI cC cZ cB cJ) (aPd cI cC cZ cB cJ wY wF jE eW eY dU fY gJ jG nU tD) sz)) (q_X2_write dC dI cI cC cZ cB cJ (va_A (aPd cI cC cZ cB cJ wY wF jE eW eY dU fY gJ jG nU tD) sz) wY wF jE eW eY dU fY gJ jG nU post) 0 0 (va_A (aPd cI cC cZ cB cJ wY wF jE eW eY dU fY gJ jG nU tD) sz) := by
  refine aBJ (own := RX2) (dC, dI) (tyl cI cC cZ cB cJ) (aPd cI cC cZ cB cJ wY wF jE eW eY dU fY gJ jG nU tD) sz [.ref wY, .ref wF, .int p1] (fun A => q_X2_write dC dI cI cC cZ cB cJ A wY wF jE eW eY dU fY gJ jG nU post) pn_RX2 rfl (lbz rfl) ?_
  intro p e s m args below meth c A H locs ls C0 hP hD hS hl
  have hl : lv_has ls 3 [(0, .ref wY), (1, .ref wF), (2, .int p1)] := hl
  obtain ⟨hx, hb, hr, hml, hown, hts, hlocks, hA, hK, hN, tL, tM, hZL, hTL, hZM, hTM, hZX⟩ := id C0
  have hp := hw
  unfold wp_X2_write at hp
  refine lv_iload_n hx hb aHz.1 rfl (lv_at hl 2 rfl) ?_
  refine lv_if_lt (tgt := 13) hx hb aHz.2.1 (by decide) (fun hc => ?_) (fun hc => ?_)
  · have hp := hp.1 hc
    exact W.vret hx hb hr (fun t ht hW => ⟨⟨tD, rfl, hp, by rw [ht]; exact hP, va_K.moved hW.alike hK, hD⟩, hS.F ht⟩) hS.2.2 aHz.2.2.2.2.2.2.2.2.1
  · have hp := hp.2 hc
    refine lv_iload_n hx hb aHz.2.2.1 rfl (lv_at hl 2 rfl) ?_
    refine lv_aload_n hx hb aHz.2.2.2.1 rfl (lv_at hl 1 rfl) ?_
    refine va_alen (v := 104) hx hb hK hP 1 0 rfl rfl rfl aHz.2.2.2.2.1 ?_
    refine lv_bipush (v := 8) hx hb aHz.2.2.2.2.2.1 bp_8 ?_
    refine lv_isub hx hb aHz.2.2.2.2.2.2.1 ?_
    refine lv_icmp_le (tgt := 14) hx hb aHz.2.2.2.2.2.2.2.1 (by decide) (fun hc => ?_) (fun hc => ?_)
    · have hp := hp.1 hc
      refine lv_aload_n hx hb aHz.2.2.2.2.2.2.2.2.2.1 rfl (lv_at hl 1 rfl) ?_
      refine lv_iload_n hx hb aHz.2.2.2.2.2.2.2.2.2.2.1 rfl (lv_at hl 2 rfl) ?_
      refine lv_aload_n hx hb aHz.2.2.2.2.2.2.2.2.2.2.2.1 rfl (lv_at hl 0 rfl) ?_
      refine va_get (D := (dC, dI)) (ci := 2) (v := .int jE) (C := RX2) (T := TX2) (N := 8) hx hb hts i_X2 hown hK hP 0 rfl rfl 0 (lbz rfl) (hts _ q_168) (fun _ h9 => h9) rfl aHz.2.2.2.2.2.2.2.2.2.2.2.2.1 ?_
      have hin := hp.1
      have hp := hp.2
      refine va_iast hx hb hK hP hD hS 1 0 rfl rfl hin aHz.2.2.2.2.2.2.2.2.2.2.2.2.2.1 (fun H locs hP hD hS => ?_)
      have hPD := PDw (ws' := (aPd cI cC cZ cB cJ wY wF jE eW eY dU fY gJ jG nU (upd tD p1.toNatClampNeg jE))) hP hD rfl
      have hP := hPD.1
      have hD := hPD.2
      refine lv_aload_n hx hb aHz.2.2.2.2.2.2.2.2.2.2.2.2.2.2.1 rfl (lv_at hl 1 rfl) ?_
      refine lv_iload_n hx hb aHz.2.2.2.2.2.2.2.2.2.2.2.2.2.2.2 rfl (lv_at hl 2 rfl) ?_
      refine lv_iconst (v := 1) hx hb aHY.1 aDx ?_
      refine lv_iadd hx hb aHY.2.1 ?_
      refine lv_topi (fun v_1 aFJ => ?_)
      have hp := hp v_1 aFJ
      refine lv_aload_n hx hb aHY.2.2.1 rfl (lv_at hl 0 rfl) ?_
      refine va_get (D := (dC, dI)) (ci := 2) (v := .int eW) (C := RX2) (T := TX2) (N := 8) hx hb hts i_X2 hown hK hP 0 rfl rfl 1 (lbz rfl) (hts _ q_169) (fun _ h9 => h9) rfl aHY.2.2.2.1 ?_
      have hin := hp.1
      have hp := hp.2
      refine va_iast hx hb hK hP hD hS 1 0 rfl rfl hin aHY.2.2.2.2.1 (fun H locs hP hD hS => ?_)
      have hPD := PDw (ws' := (aPd cI cC cZ cB cJ wY wF jE eW eY dU fY gJ jG nU (upd (upd tD p1.toNatClampNeg jE) v_1.toNatClampNeg eW))) hP hD rfl
      have hP := hPD.1
      have hD := hPD.2
      refine lv_aload_n hx hb aHY.2.2.2.2.2.1 rfl (lv_at hl 1 rfl) ?_
      refine lv_iload_n hx hb aHY.2.2.2.2.2.2.1 rfl (lv_at hl 2 rfl) ?_
      refine lv_iconst (v := 2) hx hb aHY.2.2.2.2.2.2.2.1 ic_2 ?_
      refine lv_iadd hx hb aHY.2.2.2.2.2.2.2.2.1 ?_
      refine lv_topi (fun v_2 aGO => ?_)
      have hp := hp v_2 aGO
      refine lv_aload_n hx hb aHY.2.2.2.2.2.2.2.2.2.1 rfl (lv_at hl 0 rfl) ?_
      refine va_get (D := (dC, dI)) (ci := 2) (v := .int eY) (C := RX2) (T := TX2) (N := 8) hx hb hts i_X2 hown hK hP 0 rfl rfl 2 (lbz rfl) (hts _ q_170) (fun _ h9 => h9) rfl aHY.2.2.2.2.2.2.2.2.2.2.1 ?_
      have hin := hp.1
      have hp := hp.2
      refine va_iast hx hb hK hP hD hS 1 0 rfl rfl hin aHY.2.2.2.2.2.2.2.2.2.2.2.1 (fun H locs hP hD hS => ?_)
      have hPD := PDw (ws' := (aPd cI cC cZ cB cJ wY wF jE eW eY dU fY gJ jG nU (upd (upd (upd tD p1.toNatClampNeg jE) v_1.toNatClampNeg eW) v_2.toNatClampNeg eY))) hP hD rfl
      have hP := hPD.1
      have hD := hPD.2
      refine lv_aload_n hx hb aHY.2.2.2.2.2.2.2.2.2.2.2.2.1 rfl (lv_at hl 1 rfl) ?_
      refine lv_iload_n hx hb aHY.2.2.2.2.2.2.2.2.2.2.2.2.2.1 rfl (lv_at hl 2 rfl) ?_
      refine lv_iconst (v := 3) hx hb aHY.2.2.2.2.2.2.2.2.2.2.2.2.2.2.1 ic_3 ?_
      refine lv_iadd hx hb aHY.2.2.2.2.2.2.2.2.2.2.2.2.2.2.2 ?_
      refine lv_topi (fun v_3 aGW => ?_)
      have hp := hp v_3 aGW
      refine lv_aload_n hx hb aHZ.1 rfl (lv_at hl 0 rfl) ?_
      refine va_get (D := (dC, dI)) (ci := 2) (v := .int dU) (C := RX2) (T := TX2) (N := 8) hx hb hts i_X2 hown hK hP 0 rfl rfl 3 (lbz rfl) (hts _ q_214) (fun _ h9 => h9) rfl aHZ.2.1 ?_
      have hin := hp.1
      have hp := hp.2
      refine va_iast hx hb hK hP hD hS 1 0 rfl rfl hin aHZ.2.2.1 (fun H locs hP hD hS => ?_)
      have hPD := PDw (ws' := (aPd cI cC cZ cB cJ wY wF jE eW eY dU fY gJ jG nU (upd (upd (upd (upd tD p1.toNatClampNeg jE) v_1.toNatClampNeg eW) v_2.toNatClampNeg eY) v_3.toNatClampNeg dU))) hP hD rfl
      have hP := hPD.1
      have hD := hPD.2
      refine lv_aload_n hx hb aHZ.2.2.2.1 rfl (lv_at hl 1 rfl) ?_
      refine lv_iload_n hx hb aHZ.2.2.2.2.1 rfl (lv_at hl 2 rfl) ?_
      refine lv_iconst (v := 4) hx hb aHZ.2.2.2.2.2.1 ic_4 ?_
      refine lv_iadd hx hb aHZ.2.2.2.2.2.2.1 ?_
      refine lv_topi (fun v_4 aHM => ?_)
      have hp := hp v_4 aHM
      refine lv_aload_n hx hb aHZ.2.2.2.2.2.2.2.1 rfl (lv_at hl 0 rfl) ?_
      refine va_get (D := (dC, dI)) (ci := 2) (v := .int fY) (C := RX2) (T := TX2) (N := 8) hx hb hts i_X2 hown hK hP 0 rfl rfl 4 (lbz rfl) (hts _ q_215) (fun _ h9 => h9) rfl aHZ.2.2.2.2.2.2.2.2.1 ?_
      have hin := hp.1
      have hp := hp.2
      refine va_iast hx hb hK hP hD hS 1 0 rfl rfl hin aHZ.2.2.2.2.2.2.2.2.2.1 (fun H locs hP hD hS => ?_)
      have hPD := PDw (ws' := (aPd cI cC cZ cB cJ wY wF jE eW eY dU fY gJ jG nU (upd (upd (upd (upd (upd tD p1.toNatClampNeg jE) v_1.toNatClampNeg eW) v_2.toNatClampNeg eY) v_3.toNatClampNeg dU) v_4.toNatClampNeg fY))) hP hD rfl
      have hP := hPD.1
      have hD := hPD.2
      refine lv_aload_n hx hb aHZ.2.2.2.2.2.2.2.2.2.2.1 rfl (lv_at hl 1 rfl) ?_
      refine lv_iload_n hx hb aHZ.2.2.2.2.2.2.2.2.2.2.2.1 rfl (lv_at hl 2 rfl) ?_
      refine lv_iconst (v := 5) hx hb aHZ.2.2.2.2.2.2.2.2.2.2.2.2.1 ic_5 ?_
      refine lv_iadd hx hb aHZ.2.2.2.2.2.2.2.2.2.2.2.2.2.1 ?_
      refine lv_topi (fun v_5 aJD => ?_)
      have hp := hp v_5 aJD
      refine lv_aload_n hx hb aHZ.2.2.2.2.2.2.2.2.2.2.2.2.2.2.1 rfl (lv_at hl 0 rfl) ?_
      refine va_get (D := (dC, dI)) (ci := 2) (v := .int gJ) (C := RX2) (T := TX2) (N := 8) hx hb hts i_X2 hown hK hP 0 rfl rfl 5 (lbz rfl) (hts _ q_216) (fun _ h9 => h9) rfl aHZ.2.2.2.2.2.2.2.2.2.2.2.2.2.2.2 ?_
      have hin := hp.1
      have hp := hp.2
      refine va_iast hx hb hK hP hD hS 1 0 rfl rfl hin aHa.1 (fun H locs hP hD hS => ?_)
      have hPD := PDw (ws' := (aPd cI cC cZ cB cJ wY wF jE eW eY dU fY gJ jG nU (upd (upd (upd (upd (upd (upd tD p1.toNatClampNeg jE) v_1.toNatClampNeg eW) v_2.toNatClampNeg eY) v_3.toNatClampNeg dU) v_4.toNatClampNeg fY) v_5.toNatClampNeg gJ))) hP hD rfl
      have hP := hPD.1
      have hD := hPD.2
      refine lv_aload_n hx hb aHa.2.1 rfl (lv_at hl 1 rfl) ?_
      refine lv_iload_n hx hb aHa.2.2.1 rfl (lv_at hl 2 rfl) ?_
      refine lv_bipush (v := 6) hx hb aHa.2.2.2.1 bp_6 ?_
      refine lv_iadd hx hb aHa.2.2.2.2.1 ?_
      refine lv_topi (fun v_6 ev_6 => ?_)
      have hp := hp v_6 ev_6
      refine lv_aload_n hx hb aHa.2.2.2.2.2.1 rfl (lv_at hl 0 rfl) ?_
      refine va_get (D := (dC, dI)) (ci := 2) (v := .int jG) (C := RX2) (T := TX2) (N := 8) hx hb hts i_X2 hown hK hP 0 rfl rfl 6 (lbz rfl) (hts _ q_217) (fun _ h9 => h9) rfl aHa.2.2.2.2.2.2.1 ?_
      have hin := hp.1
      have hp := hp.2
      refine va_iast hx hb hK hP hD hS 1 0 rfl rfl hin aHa.2.2.2.2.2.2.2.1 (fun H locs hP hD hS => ?_)
      have hPD := PDw (ws' := (aPd cI cC cZ cB cJ wY wF jE eW eY dU fY gJ jG nU (upd (upd (upd (upd (upd (upd (upd tD p1.toNatClampNeg jE) v_1.toNatClampNeg eW) v_2.toNatClampNeg eY) v_3.toNatClampNeg dU) v_4.toNatClampNeg fY) v_5.toNatClampNeg gJ) v_6.toNatClampNeg jG))) hP hD rfl
      have hP := hPD.1
      have hD := hPD.2
      refine lv_aload_n hx hb aHa.2.2.2.2.2.2.2.2.1 rfl (lv_at hl 1 rfl) ?_
      refine lv_iload_n hx hb aHa.2.2.2.2.2.2.2.2.2.1 rfl (lv_at hl 2 rfl) ?_
      refine lv_bipush (v := 7) hx hb aHa.2.2.2.2.2.2.2.2.2.2.1 bp_7 ?_
      refine lv_iadd hx hb aHa.2.2.2.2.2.2.2.2.2.2.2.1 ?_
      refine lv_topi (fun v_7 ev_7 => ?_)
      have hp := hp v_7 ev_7
      refine lv_aload_n hx hb aHa.2.2.2.2.2.2.2.2.2.2.2.2.1 rfl (lv_at hl 0 rfl) ?_
      refine va_get (D := (dC, dI)) (ci := 2) (v := .int nU) (C := RX2) (T := TX2) (N := 8) hx hb hts i_X2 hown hK hP 0 rfl rfl 7 (lbz rfl) (hts _ q_218) (fun _ h9 => h9) rfl aHa.2.2.2.2.2.2.2.2.2.2.2.2.2.1 ?_
      have hin := hp.1
      have hp := hp.2
      refine va_iast hx hb hK hP hD hS 1 0 rfl rfl hin aHa.2.2.2.2.2.2.2.2.2.2.2.2.2.2.1 (fun H locs hP hD hS => ?_)
      have hPD := PDw (ws' := (aPd cI cC cZ cB cJ wY wF jE eW eY dU fY gJ jG nU (upd (upd (upd (upd (upd (upd (upd (upd tD p1.toNatClampNeg jE) v_1.toNatClampNeg eW) v_2.toNatClampNeg eY) v_3.toNatClampNeg dU) v_4.toNatClampNeg fY) v_5.toNatClampNeg gJ) v_6.toNatClampNeg jG) v_7.toNatClampNeg nU))) hP hD rfl
      have hP := hPD.1
      have hD := hPD.2
      exact W.vret hx hb hr (fun t ht hW => ⟨⟨(upd (upd (upd (upd (upd (upd (upd (upd tD p1.toNatClampNeg jE) v_1.toNatClampNeg eW) v_2.toNatClampNeg eY) v_3.toNatClampNeg dU) v_4.toNatClampNeg fY) v_5.toNatClampNeg gJ) v_6.toNatClampNeg jG) v_7.toNatClampNeg nU), rfl, hp, by rw [ht]; exact hP, va_K.moved hW.alike hK, hD⟩, hS.F ht⟩) hS.2.2 aHa.2.2.2.2.2.2.2.2.2.2.2.2.2.2.2
    · have hp := hp.2 hc
      exact W.vret hx hb hr (fun t ht hW => ⟨⟨tD, rfl, hp, by rw [ht]; exact hP, va_K.moved hW.alike hK, hD⟩, hS.F ht⟩) hS.2.2 aHz.2.2.2.2.2.2.2.2.1
abbrev wd_X4_note (cI cC cZ cB cJ : ClassId) (wY xX wF uT wD : Nat) (jE eW eY dU fY gJ jG nU pR uM : Int32) (tD : Nat -> Int32) : va_W := [(wY, .inr (2, [.int jE, .int eW, .int eY, .int dU, .int fY, .int gJ, .int jG, .int nU])), (xX, .inr (4, [.ref wF, .ref uT, .ref wD, .int pR, .int uM])), (wF, .inl (cI, 104, .inl tD))]
abbrev q_X4_note (dC : Nat -> ClassId) (dI : Nat -> Nat -> Nat) (cI cC cZ cB cJ : ClassId) (A : Nat -> Prop) (wY xX wF uT wD : Nat) (jE eW eY dU fY gJ jG nU pR uM : Int32) (post : (Nat -> Int32) -> Prop) : Array Value -> State -> Outcome -> State -> Prop := va_Qv (fun (u : (Nat -> Int32)) => post u) (fun u t => gB (dC, dI) (tyl cI cC cZ cB cJ) A (wd_X4_note cI cC cZ cB cJ wY xX wF uT wD jE eW eY dU fY gJ jG nU pR uM u) t) A
abbrev rm_X4_note : Room := { frames := 1, cells := 0, slots := 0, locals := 22 }
def wp_X4_note (post : (Nat -> Int32) -> Prop) (jE eW eY dU fY gJ jG nU uM : Int32) (tD : Nat -> Int32) : Prop := ∀ v_1 : Int32, v_1 = uM * 8 -> wp_X2_write (fun pa_cells_2 => post pa_cells_2) v_1 jE eW eY dU fY gJ jG nU tD
set_option maxHeartbeats 4000000 in
set_option maxRecDepth 100000 in
theorem c_X4_note (l : Launch) (dC : Nat -> ClassId) (dI : Nat -> Nat -> Nat) (cI cC cZ cB cJ : ClassId) (wY xX wF uT wD sz : Nat) (jE eW eY dU fY gJ jG nU pR uM : Int32) (tD : Nat -> Int32) (post : (Nat -> Int32) -> Prop) (hw : wp_X4_note post jE eW eY dU fY gJ jG nU uM tD) : Met l yX4_note (gw yX4_note cX4_note 2 none) rm_X4_note (va_Pc [.ref xX, .ref wY] (gPre (dC, dI) (tyl cI cC cZ cB cJ) (wd_X4_note cI cC cZ cB cJ wY xX wF uT wD jE eW eY dU fY gJ jG nU pR uM tD) sz)) (q_X4_note dC dI cI cC cZ cB cJ (va_A (wd_X4_note cI cC cZ cB cJ wY xX wF uT wD jE eW eY dU fY gJ jG nU pR uM tD) sz) wY xX wF uT wD jE eW eY dU fY gJ jG nU pR uM post) 0 0 (va_A (wd_X4_note cI cC cZ cB cJ wY xX wF uT wD jE eW eY dU fY gJ jG nU pR uM tD) sz) := by
  refine aBJ (own := RX4) (dC, dI) (tyl cI cC cZ cB cJ) (wd_X4_note cI cC cZ cB cJ wY xX wF uT wD jE eW eY dU fY gJ jG nU pR uM tD) sz [.ref xX, .ref wY] (fun A => q_X4_note dC dI cI cC cZ cB cJ A wY xX wF uT wD jE eW eY dU fY gJ jG nU pR uM post) pn_RX4 rfl (lbz rfl) ?_
  intro p e s m args below meth c A H locs ls C0 hP hD hS hl
  have hl : lv_has ls 2 [(0, .ref xX), (1, .ref wY)] := hl
  obtain ⟨hx, hb, hr, hml, hown, hts, hlocks, hA, hK, hN, tL, tM, hZL, hTL, hZM, hTM, hZX⟩ := id C0
  have hp := hw
  unfold wp_X4_note at hp
  refine lv_aload_n hx hb eX4_note_0.1 rfl (lv_at hl 1 rfl) ?_
  refine lv_aload_n hx hb eX4_note_0.2.1 rfl (lv_at hl 0 rfl) ?_
  refine va_get (D := (dC, dI)) (ci := 4) (v := .ref wF) (C := RX4) (T := TX4) (N := 5) hx hb hts i_X4 hown hK hP 1 rfl rfl 0 (lbz rfl) (hts _ q_219) (fun _ h9 => h9) rfl eX4_note_0.2.2.1 ?_
  refine lv_aload_n hx hb eX4_note_0.2.2.2.1 rfl (lv_at hl 0 rfl) ?_
  refine va_get (D := (dC, dI)) (ci := 4) (v := .int uM) (C := RX4) (T := TX4) (N := 5) hx hb hts i_X4 hown hK hP 1 rfl rfl 4 (lbz rfl) (hts _ q_220) (fun _ h9 => h9) rfl eX4_note_0.2.2.2.2.1 ?_
  refine lv_bipush (v := 8) hx hb eX4_note_0.2.2.2.2.2.1 bp_8 ?_
  refine lv_imul hx hb eX4_note_0.2.2.2.2.2.2.1 ?_
  refine lv_topi (fun v_1 aFJ => ?_)
  have hp := hp v_1 aFJ
  have hm := mgk (wc := (aPd cI cC cZ cB cJ wY wF jE eW eY dU fY gJ jG nU tD)) hP mk_21 3 rfl rfl rfl
  refine aBn hP hD hS hA (yS mk_21) (aAi mk_21) hm.1 hm.2 (aAk _) (zW _) (zF (As := [.ref wF, .int v_1]) (rest := []) C0 hP hD hS (yS mk_21) hm.1 (aAl _) 0 2 rfl rfl (c_X2_write l dC dI cI cC cZ cB cJ wY wF H.size v_1 jE eW eY dU fY gJ jG nU tD _ hp) q_221 q_224 q_222 q_223 q_181 h_X2_write rfl rfl ⟨lbz rfl, lbz rfl⟩ rfl rfl hl.1 rfl (lv_room (lbz rfl)) eX4_note_0.2.2.2.2.2.2.2.1 ⟨Nat.zero_le _, Nat.zero_le _⟩) (fun u H locs hp hP hD hS => ?_)
  obtain ⟨pa_cells_2, rfl⟩ : ∃ z, z = u := ⟨_, rfl⟩
  have hPD := PDm (ws' := (wd_X4_note cI cC cZ cB cJ wY xX wF uT wD jE eW eY dU fY gJ jG nU pR uM pa_cells_2)) hP hD 3 rfl rfl rfl
  have hP := hPD.1
  have hD := hPD.2
  exact W.vret hx hb hr (fun t ht hW => ⟨⟨pa_cells_2, rfl, hp, by rw [ht]; exact hP, va_K.moved hW.alike hK, hD⟩, hS.F ht⟩) hS.2.2 eX4_note_0.2.2.2.2.2.2.2.2
abbrev bBP (cI cC cZ cB cJ : ClassId) (vI tJ jJ mY pG pD pE eO : Nat) (dN bD bJ aI : Int32) (mX dY : Nat -> Int32) : va_W := [(vI, .inr (3, [.ref tJ, .ref jJ, .ref mY, .ref pG, .ref pD, .ref pE, .ref eO, .int dN, .int bD, .int bJ, .int aI])), (pD, .inl (cI, 8, .inl mX)), (eO, .inl (cI, 5, .inl dY))]
abbrev q_X3_moveSeconds (dC : Nat -> ClassId) (dI : Nat -> Nat -> Nat) (cI cC cZ cB cJ : ClassId) (A : Nat -> Prop) (vI tJ jJ mY pG pD pE eO : Nat) (dN bD bJ aI : Int32) (mX dY : Nat -> Int32) (post : Int32 -> Prop) : Array Value -> State -> Outcome -> State -> Prop := va_Qi (fun (r : Int32) (u : Unit) => post r) (fun u t => gB (dC, dI) (tyl cI cC cZ cB cJ) A (bBP cI cC cZ cB cJ vI tJ jJ mY pG pD pE eO dN bD bJ aI mX dY) t) A
abbrev rm_X3_moveSeconds : Room := { frames := 1, cells := 0, slots := 0, locals := 21 }
def bBZ (post : Int32 -> Prop) (p0 p1 : Int32) (mX dY : Nat -> Int32) : Prop := (¬ p0 = (-1) -> ∀ v_1 : Int32, v_1 = dY (3 : Int32).toNatClampNeg -> vp_in p0 8 /\ (∀ v_2 : Int32, v_2 = mX p0.toNatClampNeg -> vp_in p1 8 /\ (∀ v_3 : Int32, v_3 = v_2 - (mX p1.toNatClampNeg) -> ∀ v_4 : Int32, v_4 = (if 0 <= v_3 then v_3 else 0 - v_3) -> post (9 + (v_1 * v_4))))) /\ (p0 = (-1) -> post 9)
set_option maxHeartbeats 4000000 in
set_option maxRecDepth 100000 in
theorem c_X3_moveSeconds (l : Launch) (dC : Nat -> ClassId) (dI : Nat -> Nat -> Nat) (cI cC cZ cB cJ : ClassId) (vI tJ jJ mY pG pD pE eO sz : Nat) (p0 p1 dN bD bJ aI : Int32) (mX dY : Nat -> Int32) (post : Int32 -> Prop) (hw : bBZ post p0 p1 mX dY) : Met l aXQ (gw aXQ aHH 3 (some .int)) rm_X3_moveSeconds (va_Pc [.ref vI, .int p0, .int p1] (gPre (dC, dI) (tyl cI cC cZ cB cJ) (bBP cI cC cZ cB cJ vI tJ jJ mY pG pD pE eO dN bD bJ aI mX dY) sz)) (q_X3_moveSeconds dC dI cI cC cZ cB cJ (va_A (bBP cI cC cZ cB cJ vI tJ jJ mY pG pD pE eO dN bD bJ aI mX dY) sz) vI tJ jJ mY pG pD pE eO dN bD bJ aI mX dY post) 0 0 (va_A (bBP cI cC cZ cB cJ vI tJ jJ mY pG pD pE eO dN bD bJ aI mX dY) sz) := by
  refine aBJ (own := RX3) (dC, dI) (tyl cI cC cZ cB cJ) (bBP cI cC cZ cB cJ vI tJ jJ mY pG pD pE eO dN bD bJ aI mX dY) sz [.ref vI, .int p0, .int p1] (fun A => q_X3_moveSeconds dC dI cI cC cZ cB cJ A vI tJ jJ mY pG pD pE eO dN bD bJ aI mX dY post) pn_RX3 rfl (lbz rfl) ?_
  intro p e s m args below meth c A H locs ls C0 hP hD hS hl
  have hl : lv_has ls 3 [(0, .ref vI), (1, .int p0), (2, .int p1)] := hl
  obtain ⟨hx, hb, hr, hml, hown, hts, hlocks, hA, hK, hN, tL, tM, hZL, hTL, hZM, hTM, hZX⟩ := id C0
  have hp := hw
  unfold bBZ at hp
  refine lv_iload_n hx hb aKu.1 rfl (lv_at hl 1 rfl) ?_
  refine lv_iconst (v := (-1)) hx hb aKu.2.1 aEJ ?_
  refine lv_icmp_ne (tgt := 10) hx hb aKu.2.2.1 (by decide) (fun hc => ?_) (fun hc => ?_)
  · have hp := hp.1 hc
    refine lv_bipush (v := 9) hx hb aKu.2.2.2.2.2.1 bp_9 ?_
    refine lv_aload_n hx hb aKu.2.2.2.2.2.2.1 rfl (lv_at hl 0 rfl) ?_
    refine va_get (D := (dC, dI)) (ci := 3) (v := .ref eO) (C := RX3) (T := TX3) (N := 11) hx hb hts i_X3 hown hK hP 0 rfl rfl 6 (lbz rfl) (hts _ q_225) (fun _ h9 => h9) rfl aKu.2.2.2.2.2.2.2.1 ?_
    refine lv_iconst (v := 3) hx hb aKu.2.2.2.2.2.2.2.2.1 ic_3 ?_
    refine va_iald hx hb hK hP 2 0 rfl rfl (g_in rfl) aKu.2.2.2.2.2.2.2.2.2.1 ?_
    refine lv_topi (fun v_1 aFJ => ?_)
    have hp := hp v_1 aFJ
    refine lv_aload_n hx hb aKu.2.2.2.2.2.2.2.2.2.2.1 rfl (lv_at hl 0 rfl) ?_
    refine va_get (D := (dC, dI)) (ci := 3) (v := .ref pD) (C := RX3) (T := TX3) (N := 11) hx hb hts i_X3 hown hK hP 0 rfl rfl 4 (lbz rfl) (hts _ q_53) (fun _ h9 => h9) rfl aKu.2.2.2.2.2.2.2.2.2.2.2.1 ?_
    refine lv_iload_n hx hb aKu.2.2.2.2.2.2.2.2.2.2.2.2.1 rfl (lv_at hl 1 rfl) ?_
    have hin := hp.1
    have hp := hp.2
    refine va_iald hx hb hK hP 1 0 rfl rfl hin aKu.2.2.2.2.2.2.2.2.2.2.2.2.2.1 ?_
    refine lv_topi (fun v_2 aGO => ?_)
    have hp := hp v_2 aGO
    refine lv_aload_n hx hb aKu.2.2.2.2.2.2.2.2.2.2.2.2.2.2.1 rfl (lv_at hl 0 rfl) ?_
    refine va_get (D := (dC, dI)) (ci := 3) (v := .ref pD) (C := RX3) (T := TX3) (N := 11) hx hb hts i_X3 hown hK hP 0 rfl rfl 4 (lbz rfl) (hts _ q_53) (fun _ h9 => h9) rfl aKu.2.2.2.2.2.2.2.2.2.2.2.2.2.2.2 ?_
    refine lv_iload_n hx hb bBd.1 rfl (lv_at hl 2 rfl) ?_
    have hin := hp.1
    have hp := hp.2
    refine va_iald hx hb hK hP 1 0 rfl rfl hin bBd.2.1 ?_
    refine lv_isub hx hb bBd.2.2.1 ?_
    refine lv_topi (fun v_3 aGW => ?_)
    have hp := hp v_3 aGW
    refine va_mabs hx hb (by rw [hml]; exact hl.1.symm) hown (hts _ q_165) (hts _ q_166) (hts _ q_16) (hts _ q_167) (lbz rfl) (lbz rfl) (Nat.zero_le _) (Nat.zero_le _) bBd.2.2.2.1 ?_
    refine lv_topi (fun v_4 aHM => ?_)
    have hp := hp v_4 aHM
    refine lv_imul hx hb bBd.2.2.2.2.1 ?_
    refine lv_iadd hx hb bBd.2.2.2.2.2.1 ?_
    exact W.iret (v := 9 + (v_1 * v_4)) hx hb hr (fun t ht hW => ⟨⟨9 + (v_1 * v_4), (), rfl, hp, by rw [ht]; exact hP, va_K.moved hW.alike hK, hD⟩, hS.F ht⟩) hS.2.2 bBd.2.2.2.2.2.2
  · have hp := hp.2 hc
    refine lv_bipush (v := 9) hx hb aKu.2.2.2.1 bp_9 ?_
    refine lv_goto (tgt := 36) hx hb aKu.2.2.2.2.1 (by decide) ?_
    exact W.iret (v := 9) hx hb hr (fun t ht hW => ⟨⟨9, (), rfl, hp, by rw [ht]; exact hP, va_K.moved hW.alike hK, hD⟩, hS.F ht⟩) hS.2.2 bBd.2.2.2.2.2.2
abbrev aUX (cI cC cZ cB cJ : ClassId) (wY : Nat) (jE eW eY dU fY gJ jG nU : Int32) : va_W := [(wY, .inr (2, [.int jE, .int eW, .int eY, .int dU, .int fY, .int gJ, .int jG, .int nU]))]
abbrev q_X2_emptyApron (dC : Nat -> ClassId) (dI : Nat -> Nat -> Nat) (cI cC cZ cB cJ : ClassId) (A : Nat -> Prop) (wY : Nat) (eY dU fY gJ jG nU : Int32) (post : Int32 -> Int32 -> Prop) : Array Value -> State -> Outcome -> State -> Prop := va_Qv (fun (u : Int32 × Int32) => post u.1 u.2) (fun u t => gB (dC, dI) (tyl cI cC cZ cB cJ) A (aUX cI cC cZ cB cJ wY u.1 u.2 eY dU fY gJ jG nU) t) A
abbrev rm_X2_emptyApron : Room := { frames := 0, cells := 0, slots := 0, locals := 0 }
def wp_X2_emptyApron (post : Int32 -> Int32 -> Prop) (jE eW : Int32) : Prop := ∀ v_1 : Int32, v_1 = eW ||| jE -> post 0 v_1
set_option maxHeartbeats 4000000 in
set_option maxRecDepth 100000 in
theorem c_X2_emptyApron (l : Launch) (dC : Nat -> ClassId) (dI : Nat -> Nat -> Nat) (cI cC cZ cB cJ : ClassId) (wY sz : Nat) (jE eW eY dU fY gJ jG nU : Int32) (post : Int32 -> Int32 -> Prop) (hw : wp_X2_emptyApron post jE eW) : Met l yX2_emptyApron (gw yX2_emptyApron aXU 1 none) rm_X2_emptyApron (va_Pc [.ref wY] (gPre (dC, dI) (tyl cI cC cZ cB cJ) (aUX cI cC cZ cB cJ wY jE eW eY dU fY gJ jG nU) sz)) (q_X2_emptyApron dC dI cI cC cZ cB cJ (va_A (aUX cI cC cZ cB cJ wY jE eW eY dU fY gJ jG nU) sz) wY eY dU fY gJ jG nU post) 0 0 (va_A (aUX cI cC cZ cB cJ wY jE eW eY dU fY gJ jG nU) sz) := by
  refine aBJ (own := RX2) (dC, dI) (tyl cI cC cZ cB cJ) (aUX cI cC cZ cB cJ wY jE eW eY dU fY gJ jG nU) sz [.ref wY] (fun A => q_X2_emptyApron dC dI cI cC cZ cB cJ A wY eY dU fY gJ jG nU post) pn_RX2 rfl (lbz rfl) ?_
  intro p e s m args below meth c A H locs ls C0 hP hD hS hl
  have hl : lv_has ls 1 [(0, .ref wY)] := hl
  obtain ⟨hx, hb, hr, hml, hown, hts, hlocks, hA, hK, hN, tL, tM, hZL, hTL, hZM, hTM, hZX⟩ := id C0
  have hp := hw
  unfold wp_X2_emptyApron at hp
  refine lv_aload_n hx hb aXb.1 rfl (lv_at hl 0 rfl) ?_
  refine lv_dup hx hb aXb.2.1 rfl ?_
  refine va_get (D := (dC, dI)) (ci := 2) (v := .int eW) (C := RX2) (T := TX2) (N := 8) hx hb hts i_X2 hown hK hP 0 rfl rfl 1 (lbz rfl) (hts _ q_169) (fun _ h9 => h9) rfl aXb.2.2.1 ?_
  refine lv_aload_n hx hb aXb.2.2.2.1 rfl (lv_at hl 0 rfl) ?_
  refine va_get (D := (dC, dI)) (ci := 2) (v := .int jE) (C := RX2) (T := TX2) (N := 8) hx hb hts i_X2 hown hK hP 0 rfl rfl 0 (lbz rfl) (hts _ q_168) (fun _ h9 => h9) rfl aXb.2.2.2.2.1 ?_
  refine lv_ior hx hb aXb.2.2.2.2.2.1 ?_
  refine lv_topi (fun v_1 aFJ => ?_)
  have hp := hp v_1 aFJ
  refine va_put (D := (dC, dI)) (ci := 2) (v := .int v_1) (ty := .int) (C := RX2) (T := TX2) (N := 8) hx hb hts i_X2 tyX2 aIa nmX2 hown hK hP hD hS 0 rfl rfl 1 (lbz rfl) (hts _ q_169) (fun _ h9 => h9) rfl (aIa 1 (lbz rfl)) rfl rfl (lbz rfl) aXb.2.2.2.2.2.2.1 (fun H locs hP hD hS => ?_)
  have hPD := PDw (ws' := (aUX cI cC cZ cB cJ wY jE v_1 eY dU fY gJ jG nU)) hP hD rfl
  have hP := hPD.1
  have hD := hPD.2
  refine lv_aload_n hx hb aXb.2.2.2.2.2.2.2.1 rfl (lv_at hl 0 rfl) ?_
  refine lv_iconst (v := 0) hx hb aXb.2.2.2.2.2.2.2.2.1 aCi ?_
  refine va_put (D := (dC, dI)) (ci := 2) (v := .int 0) (ty := .int) (C := RX2) (T := TX2) (N := 8) hx hb hts i_X2 tyX2 aIa nmX2 hown hK hP hD hS 0 rfl rfl 0 (lbz rfl) (hts _ q_168) (fun _ h9 => h9) rfl (aIa 0 (lbz rfl)) rfl rfl (lbz rfl) aXb.2.2.2.2.2.2.2.2.2.1 (fun H locs hP hD hS => ?_)
  have hPD := PDw (ws' := (aUX cI cC cZ cB cJ wY 0 v_1 eY dU fY gJ jG nU)) hP hD rfl
  have hP := hPD.1
  have hD := hPD.2
  exact W.vret hx hb hr (fun t ht hW => ⟨⟨(0, v_1), rfl, hp, by rw [ht]; exact hP, va_K.moved hW.alike hK, hD⟩, hS.F ht⟩) hS.2.2 aXb.2.2.2.2.2.2.2.2.2.2
abbrev wd_X2_spend (cI cC cZ cB cJ : ClassId) (wY : Nat) (jE eW eY dU fY gJ jG nU : Int32) : va_W := [(wY, .inr (2, [.int jE, .int eW, .int eY, .int dU, .int fY, .int gJ, .int jG, .int nU]))]
abbrev q_X2_spend (dC : Nat -> ClassId) (dI : Nat -> Nat -> Nat) (cI cC cZ cB cJ : ClassId) (A : Nat -> Prop) (wY : Nat) (jE eW eY dU fY gJ jG : Int32) (post : Int32 -> Prop) : Array Value -> State -> Outcome -> State -> Prop := va_Qv (fun (u : Int32) => post u) (fun u t => gB (dC, dI) (tyl cI cC cZ cB cJ) A (wd_X2_spend cI cC cZ cB cJ wY jE eW eY dU fY gJ jG u) t) A
abbrev rm_X2_spend : Room := { frames := 1, cells := 0, slots := 0, locals := 21 }
def wp_X2_spend (post : Int32 -> Prop) (p0 nU : Int32) : Prop := ∀ v_1 : Int32, v_1 = nU + p0 -> ∀ v_2 : Int32, v_2 = (if v_1 < 9999 then v_1 else 9999) -> post v_2
set_option maxHeartbeats 4000000 in
set_option maxRecDepth 100000 in
theorem c_X2_spend (l : Launch) (dC : Nat -> ClassId) (dI : Nat -> Nat -> Nat) (cI cC cZ cB cJ : ClassId) (wY sz : Nat) (p0 jE eW eY dU fY gJ jG nU : Int32) (post : Int32 -> Prop) (hw : wp_X2_spend post p0 nU) : Met l yX2_spend (gw yX2_spend cX2_spend 2 none) rm_X2_spend (va_Pc [.ref wY, .int p0] (gPre (dC, dI) (tyl cI cC cZ cB cJ) (wd_X2_spend cI cC cZ cB cJ wY jE eW eY dU fY gJ jG nU) sz)) (q_X2_spend dC dI cI cC cZ cB cJ (va_A (wd_X2_spend cI cC cZ cB cJ wY jE eW eY dU fY gJ jG nU) sz) wY jE eW eY dU fY gJ jG post) 0 0 (va_A (wd_X2_spend cI cC cZ cB cJ wY jE eW eY dU fY gJ jG nU) sz) := by
  refine aBJ (own := RX2) (dC, dI) (tyl cI cC cZ cB cJ) (wd_X2_spend cI cC cZ cB cJ wY jE eW eY dU fY gJ jG nU) sz [.ref wY, .int p0] (fun A => q_X2_spend dC dI cI cC cZ cB cJ A wY jE eW eY dU fY gJ jG post) pn_RX2 rfl (lbz rfl) ?_
  intro p e s m args below meth c A H locs ls C0 hP hD hS hl
  have hl : lv_has ls 2 [(0, .ref wY), (1, .int p0)] := hl
  obtain ⟨hx, hb, hr, hml, hown, hts, hlocks, hA, hK, hN, tL, tM, hZL, hTL, hZM, hTM, hZX⟩ := id C0
  have hp := hw
  unfold wp_X2_spend at hp
  refine lv_aload_n hx hb eX2_spend_0.1 rfl (lv_at hl 0 rfl) ?_
  refine lv_sipush (v := 9999) hx hb eX2_spend_0.2.1 sp_9999 ?_
  refine lv_aload_n hx hb eX2_spend_0.2.2.1 rfl (lv_at hl 0 rfl) ?_
  refine va_get (D := (dC, dI)) (ci := 2) (v := .int nU) (C := RX2) (T := TX2) (N := 8) hx hb hts i_X2 hown hK hP 0 rfl rfl 7 (lbz rfl) (hts _ q_218) (fun _ h9 => h9) rfl eX2_spend_0.2.2.2.1 ?_
  refine lv_iload_n hx hb eX2_spend_0.2.2.2.2.1 rfl (lv_at hl 1 rfl) ?_
  refine lv_iadd hx hb eX2_spend_0.2.2.2.2.2.1 ?_
  refine lv_topi (fun v_1 aFJ => ?_)
  have hp := hp v_1 aFJ
  refine va_mmin hx hb (by rw [hml]; exact hl.1.symm) hown (hts _ q_226) (hts _ q_15) (hts _ q_16) (hts _ q_17) (lbz rfl) (lbz rfl) (Nat.zero_le _) (Nat.zero_le _) eX2_spend_0.2.2.2.2.2.2.1 ?_
  refine lv_topi (fun v_2 aGO => ?_)
  have hp := hp v_2 aGO
  refine va_put (D := (dC, dI)) (ci := 2) (v := .int v_2) (ty := .int) (C := RX2) (T := TX2) (N := 8) hx hb hts i_X2 tyX2 aIa nmX2 hown hK hP hD hS 0 rfl rfl 7 (lbz rfl) (hts _ q_218) (fun _ h9 => h9) rfl (aIa 7 (lbz rfl)) rfl rfl (lbz rfl) eX2_spend_0.2.2.2.2.2.2.2.1 (fun H locs hP hD hS => ?_)
  have hPD := PDw (ws' := (wd_X2_spend cI cC cZ cB cJ wY jE eW eY dU fY gJ jG v_2)) hP hD rfl
  have hP := hPD.1
  have hD := hPD.2
  exact W.vret hx hb hr (fun t ht hW => ⟨⟨v_2, rfl, hp, by rw [ht]; exact hP, va_K.moved hW.alike hK, hD⟩, hS.F ht⟩) hS.2.2 eX2_spend_0.2.2.2.2.2.2.2.2
abbrev aOX (cI cC cZ cB cJ : ClassId) (xB vI wY xO tJ jJ mY pG pD pE eO : Nat) (dN bD bJ aI : Int32) (mX oE dY : Nat -> Int32) (jE eW eY dU fY gJ jG nU : Int32) : va_W := [(xB, .inr (0, [.ref vI, .ref wY, .ref xO])), (vI, .inr (3, [.ref tJ, .ref jJ, .ref mY, .ref pG, .ref pD, .ref pE, .ref eO, .int dN, .int bD, .int bJ, .int aI])), (pD, .inl (cI, 8, .inl mX)), (pE, .inl (cI, 8, .inl oE)), (eO, .inl (cI, 5, .inl dY)), (wY, .inr (2, [.int jE, .int eW, .int eY, .int dU, .int fY, .int gJ, .int jG, .int nU]))]
abbrev q_X0_setLadder (dC : Nat -> ClassId) (dI : Nat -> Nat -> Nat) (cI cC cZ cB cJ : ClassId) (A : Nat -> Prop) (xB vI wY xO tJ jJ mY pG pD pE eO : Nat) (dN bD bJ aI : Int32) (mX oE dY : Nat -> Int32) (eY dU gJ jG : Int32) (post : Int32 -> Int32 -> Int32 -> Int32 -> Int32 -> Prop) : Array Value -> State -> Outcome -> State -> Prop := va_Qi (fun (r : Int32) (u : Int32 × Int32 × Int32 × Int32) => post r u.1 u.2.1 u.2.2.1 u.2.2.2) (fun u t => gB (dC, dI) (tyl cI cC cZ cB cJ) A (aOX cI cC cZ cB cJ xB vI wY xO tJ jJ mY pG pD pE eO dN bD bJ aI mX oE dY u.1 u.2.1 eY dU u.2.2.1 gJ jG u.2.2.2) t) A
abbrev rm_X0_setLadder : Room := { frames := 2, cells := 0, slots := 0, locals := 43 }
section S_X0_setLadder
variable {p : Program} {l : Launch} {e : Env} {s : State} {m : MethodId} {args : Array Value} {below : List Frame} {meth : Method} {c : Code} {dC : Nat -> ClassId} {dI : Nat -> Nat -> Nat} {cI cC cZ cB cJ : ClassId} {A : Nat -> Prop} {xB vI wY xO tJ jJ mY pG pD pE eO : Nat} {dN bD bJ aI : Int32} {mX oE dY : Nat -> Int32} {eY dU gJ jG : Int32} {post : Int32 -> Int32 -> Int32 -> Int32 -> Int32 -> Prop}
def bBw (post : Int32 -> Int32 -> Int32 -> Int32 -> Int32 -> Prop) (bD : Int32) (mX oE dY : Nat -> Int32) (x1 x2 jE eW fY nU : Int32) : Prop := wp_X2_emptyApron (fun aJy aLG => wp_X2_spend (fun aIm => post x2 aJy aLG x1 aIm) x2 nU) jE eW
set_option maxHeartbeats 4000000 in
set_option maxRecDepth 100000 in
theorem ks_X0_setLadder_81 (C0 : gc aC4 (some .int) 3 RX0 (dC, dI) (tyl cI cC cZ cB cJ) A p s m args meth c) : ∀ (x1 x2 jE eW fY nU : Int32) (H : Heap) (locs : List Loc) (ls : Array Slot), (bBw post bD mX oE dY) x1 x2 jE eW fY nU -> va_P (dC, dI) classes (aOX cI cC cZ cB cJ xB vI wY xO tJ jJ mY pG pD pE eO dN bD bJ aI mX oE dY jE eW eY dU fY gJ jG nU) H -> va_D A (aOX cI cC cZ cB cJ xB vI wY xO tJ jJ mY pG pD pE eO dN bD bJ aI mX oE dY jE eW eY dU fY gJ jG nU) -> va_S A s.heap H locs -> lv_has ls 3 [(0, .ref xB), (1, .int x1), (2, .int x2)] -> W p l e rm_X0_setLadder s m args below meth c H locs 0 0 (MQ below (q_X0_setLadder dC dI cI cC cZ cB cJ A xB vI wY xO tJ jJ mY pG pD pE eO dN bD bJ aI mX oE dY eY dU gJ jG post) args s 0 0 A) (F0 m 81 ls []) := by
  obtain ⟨hx, hb, hr, hml, hown, hts, hlocks, hA, hK, hN, tL, tM, hZL, hTL, hZM, hTM, hZX⟩ := id C0
  intro x1 x2 jE eW fY nU H locs ls hp hP hD hS hl
  unfold bBw at hp
  refine lv_aload_n hx hb aL6.2.2.2.2.2.2.2.2.1 rfl (lv_at hl 0 rfl) ?_
  refine va_get (D := (dC, dI)) (ci := 0) (v := .ref wY) (C := RX0) (T := TX0) (N := 3) hx hb hts i_X0 hown hK hP 0 rfl rfl 1 (lbz rfl) (hts _ q_161) (fun _ h9 => h9) rfl aL6.2.2.2.2.2.2.2.2.2.1 ?_
  have hm := mgk (wc := (aUX cI cC cZ cB cJ wY jE eW eY dU fY gJ jG nU)) hP mk_38 6 rfl rfl rfl
  refine aBn hP hD hS hA (yS mk_38) (aAi mk_38) hm.1 hm.2 (aAk _) (zW _) (zF (As := []) (rest := []) C0 hP hD hS (yS mk_38) hm.1 (aAl _) 5 2 rfl rfl (c_X2_emptyApron l dC dI cI cC cZ cB cJ wY H.size jE eW eY dU fY gJ jG nU _ hp) q_233 q_236 q_234 q_235 q_181 h_X2_emptyApron rfl rfl ⟨lbz rfl, lbz rfl⟩ rfl rfl hl.1 rfl (lv_room (lbz rfl)) aL6.2.2.2.2.2.2.2.2.2.2.1 ⟨Nat.zero_le _, Nat.zero_le _⟩) (fun u H locs hp hP hD hS => ?_)
  obtain ⟨aJy, aLG⟩ := u
  have hPD := PDm (ws' := (aOX cI cC cZ cB cJ xB vI wY xO tJ jJ mY pG pD pE eO dN bD bJ aI mX oE dY aJy aLG eY dU fY gJ jG nU)) hP hD 6 rfl rfl rfl
  have hP := hPD.1
  have hD := hPD.2
  refine lv_aload_n hx hb aL6.2.2.2.2.2.2.2.2.2.2.2.1 rfl (lv_at hl 0 rfl) ?_
  refine va_get (D := (dC, dI)) (ci := 0) (v := .ref wY) (C := RX0) (T := TX0) (N := 3) hx hb hts i_X0 hown hK hP 0 rfl rfl 1 (lbz rfl) (hts _ q_161) (fun _ h9 => h9) rfl aL6.2.2.2.2.2.2.2.2.2.2.2.2.1 ?_
  refine lv_iload_n hx hb aL6.2.2.2.2.2.2.2.2.2.2.2.2.2.1 rfl (lv_at hl 1 rfl) ?_
  refine va_put (D := (dC, dI)) (ci := 2) (v := .int x1) (ty := .int) (C := RX2) (T := TX2) (N := 8) hx hb hts i_X2 tyX2 aIa nmX2 hown hK hP hD hS 5 rfl rfl 4 (lbz rfl) (hts _ q_228) (fun _ h9 => h9) rfl (aIa 4 (lbz rfl)) rfl rfl (lbz rfl) aL6.2.2.2.2.2.2.2.2.2.2.2.2.2.2.1 (fun H locs hP hD hS => ?_)
  have hPD := PDw (ws' := (aOX cI cC cZ cB cJ xB vI wY xO tJ jJ mY pG pD pE eO dN bD bJ aI mX oE dY aJy aLG eY dU x1 gJ jG nU)) hP hD rfl
  have hP := hPD.1
  have hD := hPD.2
  refine lv_aload_n hx hb aL6.2.2.2.2.2.2.2.2.2.2.2.2.2.2.2 rfl (lv_at hl 0 rfl) ?_
  refine va_get (D := (dC, dI)) (ci := 0) (v := .ref wY) (C := RX0) (T := TX0) (N := 3) hx hb hts i_X0 hown hK hP 0 rfl rfl 1 (lbz rfl) (hts _ q_161) (fun _ h9 => h9) rfl eX0_setLadder_97.1 ?_
  refine lv_iload_n hx hb eX0_setLadder_97.2.1 rfl (lv_at hl 2 rfl) ?_
  have hm := mgk (wc := (wd_X2_spend cI cC cZ cB cJ wY aJy aLG eY dU x1 gJ jG nU)) hP mk_38 6 rfl rfl rfl
  refine aBn hP hD hS hA (yS mk_38) (aAi mk_38) hm.1 hm.2 (aAk _) (zW _) (zF (As := [.int x2]) (rest := []) C0 hP hD hS (yS mk_38) hm.1 (aAl _) 5 2 rfl rfl (c_X2_spend l dC dI cI cC cZ cB cJ wY H.size x2 aJy aLG eY dU x1 gJ jG nU _ hp) q_237 q_240 q_238 q_239 q_181 h_X2_spend rfl rfl ⟨lbz rfl, lbz rfl⟩ rfl rfl hl.1 rfl (lv_room (lbz rfl)) eX0_setLadder_97.2.2.1 ⟨Nat.zero_le _, Nat.zero_le _⟩) (fun u H locs hp hP hD hS => ?_)
  obtain ⟨aIm, rfl⟩ : ∃ z, z = u := ⟨_, rfl⟩
  have hPD := PDm (ws' := (aOX cI cC cZ cB cJ xB vI wY xO tJ jJ mY pG pD pE eO dN bD bJ aI mX oE dY aJy aLG eY dU x1 gJ jG aIm)) hP hD 6 rfl rfl rfl
  have hP := hPD.1
  have hD := hPD.2
  refine lv_iload_n hx hb eX0_setLadder_97.2.2.2.1 rfl (lv_at hl 2 rfl) ?_
  exact W.iret (v := x2) hx hb hr (fun t ht hW => ⟨⟨x2, (aJy, aLG, x1, aIm), rfl, hp, by rw [ht]; exact hP, va_K.moved hW.alike hK, hD⟩, hS.F ht⟩) hS.2.2 eX0_setLadder_97.2.2.2.2
end S_X0_setLadder
def wp_X0_setLadder (post : Int32 -> Int32 -> Int32 -> Int32 -> Int32 -> Prop) (p0 bD : Int32) (mX oE dY : Nat -> Int32) (jE eW fY nU : Int32) : Prop := aK6 (fun r_1 => (¬ r_1 = 0 -> (¬ p0 = fY -> bBZ (fun r_2 => (jE = 0 -> bBw post bD mX oE dY p0 r_2 jE eW fY nU) /\ (¬ jE = 0 -> (fY = (-1) -> bBw post bD mX oE dY p0 r_2 jE eW fY nU) /\ (¬ fY = (-1) -> aYG (fun r_6 => ∀ v_7 : Int32, v_7 = r_2 + r_6 -> bBw post bD mX oE dY p0 v_7 jE eW fY nU) fY oE))) fY p0 mX dY) /\ (p0 = fY -> post (-2) jE eW fY nU)) /\ (r_1 = 0 -> post (-1) jE eW fY nU)) p0 bD
set_option maxHeartbeats 4000000 in
set_option maxRecDepth 100000 in
theorem c_X0_setLadder (l : Launch) (dC : Nat -> ClassId) (dI : Nat -> Nat -> Nat) (cI cC cZ cB cJ : ClassId) (xB vI wY xO tJ jJ mY pG pD pE eO sz : Nat) (p0 dN bD bJ aI : Int32) (mX oE dY : Nat -> Int32) (jE eW eY dU fY gJ jG nU : Int32) (post : Int32 -> Int32 -> Int32 -> Int32 -> Int32 -> Prop) (hw : wp_X0_setLadder post p0 bD mX oE dY jE eW fY nU) : Met l yX0_setLadder (gw yX0_setLadder aC4 3 (some .int)) rm_X0_setLadder (va_Pc [.ref xB, .int p0] (gPre (dC, dI) (tyl cI cC cZ cB cJ) (aOX cI cC cZ cB cJ xB vI wY xO tJ jJ mY pG pD pE eO dN bD bJ aI mX oE dY jE eW eY dU fY gJ jG nU) sz)) (q_X0_setLadder dC dI cI cC cZ cB cJ (va_A (aOX cI cC cZ cB cJ xB vI wY xO tJ jJ mY pG pD pE eO dN bD bJ aI mX oE dY jE eW eY dU fY gJ jG nU) sz) xB vI wY xO tJ jJ mY pG pD pE eO dN bD bJ aI mX oE dY eY dU gJ jG post) 0 0 (va_A (aOX cI cC cZ cB cJ xB vI wY xO tJ jJ mY pG pD pE eO dN bD bJ aI mX oE dY jE eW eY dU fY gJ jG nU) sz) := by
  refine aBJ (own := RX0) (dC, dI) (tyl cI cC cZ cB cJ) (aOX cI cC cZ cB cJ xB vI wY xO tJ jJ mY pG pD pE eO dN bD bJ aI mX oE dY jE eW eY dU fY gJ jG nU) sz [.ref xB, .int p0] (fun A => q_X0_setLadder dC dI cI cC cZ cB cJ A xB vI wY xO tJ jJ mY pG pD pE eO dN bD bJ aI mX oE dY eY dU gJ jG post) pn_RX0 rfl (lbz rfl) ?_
  intro p e s m args below meth c A H locs ls C0 hP hD hS hl
  have hl : lv_has ls 3 [(0, .ref xB), (1, .int p0)] := hl
  obtain ⟨hx, hb, hr, hml, hown, hts, hlocks, hA, hK, hN, tL, tM, hZL, hTL, hZM, hTM, hZX⟩ := id C0
  have hp := hw
  unfold wp_X0_setLadder at hp
  refine lv_aload_n hx hb aNc.1 rfl (lv_at hl 0 rfl) ?_
  refine va_get (D := (dC, dI)) (ci := 0) (v := .ref vI) (C := RX0) (T := TX0) (N := 3) hx hb hts i_X0 hown hK hP 0 rfl rfl 0 (lbz rfl) (hts _ q_156) (fun _ h9 => h9) rfl aNc.2.1 ?_
  refine lv_iload_n hx hb aNc.2.2.1 rfl (lv_at hl 1 rfl) ?_
  have hm := mgk (wc := (aLv cI cC cZ cB cJ vI tJ jJ mY pG pD pE eO dN bD bJ aI)) hP mk_39 6 rfl rfl rfl
  refine yW hP hD hS hA (yS mk_39) (aAi mk_39) hm.1 hm.2 (aAk _) (zW _) (zF (As := [.int p0]) (rest := []) C0 hP hD hS (yS mk_39) hm.1 (aAl _) 1 3 rfl rfl (aZS l dC dI cI cC cZ cB cJ vI tJ jJ mY pG pD pE eO H.size p0 dN bD bJ aI _ hp) q_195 q_227 q_196 q_197 q_48 aZZ rfl rfl ⟨lbz rfl, lbz rfl⟩ rfl rfl hl.1 rfl (lv_room (lbz rfl)) aNc.2.2.2.1 ⟨Nat.zero_le _, Nat.zero_le _⟩) (fun r_1 u H locs hp hP hD hS => ?_)
  have hPD := PDm (ws' := (aOX cI cC cZ cB cJ xB vI wY xO tJ jJ mY pG pD pE eO dN bD bJ aI mX oE dY jE eW eY dU fY gJ jG nU)) hP hD 6 rfl rfl rfl
  have hP := hPD.1
  have hD := hPD.2
  refine lv_if_ne (tgt := 13) hx hb aNc.2.2.2.2.1 (by decide) (fun hc => ?_) (fun hc => ?_)
  · have hp := hp.1 hc
    refine lv_iload_n hx hb aNc.2.2.2.2.2.2.2.1 rfl (lv_at hl 1 rfl) ?_
    refine lv_aload_n hx hb aNc.2.2.2.2.2.2.2.2.1 rfl (lv_at hl 0 rfl) ?_
    refine va_get (D := (dC, dI)) (ci := 0) (v := .ref wY) (C := RX0) (T := TX0) (N := 3) hx hb hts i_X0 hown hK hP 0 rfl rfl 1 (lbz rfl) (hts _ q_161) (fun _ h9 => h9) rfl aNc.2.2.2.2.2.2.2.2.2.1 ?_
    refine va_get (D := (dC, dI)) (ci := 2) (v := .int fY) (C := RX2) (T := TX2) (N := 8) hx hb hts i_X2 hown hK hP 5 rfl rfl 4 (lbz rfl) (hts _ q_228) (fun _ h9 => h9) rfl aNc.2.2.2.2.2.2.2.2.2.2.1 ?_
    refine lv_icmp_ne (tgt := 27) hx hb aNc.2.2.2.2.2.2.2.2.2.2.2.1 (by decide) (fun hc => ?_) (fun hc => ?_)
    · have hp := hp.1 hc
      refine lv_aload_n hx hb aNc.2.2.2.2.2.2.2.2.2.2.2.2.2.2.1 rfl (lv_at hl 0 rfl) ?_
      refine va_get (D := (dC, dI)) (ci := 0) (v := .ref vI) (C := RX0) (T := TX0) (N := 3) hx hb hts i_X0 hown hK hP 0 rfl rfl 0 (lbz rfl) (hts _ q_156) (fun _ h9 => h9) rfl aNc.2.2.2.2.2.2.2.2.2.2.2.2.2.2.2 ?_
      refine lv_aload_n hx hb aL5.1 rfl (lv_at hl 0 rfl) ?_
      refine va_get (D := (dC, dI)) (ci := 0) (v := .ref wY) (C := RX0) (T := TX0) (N := 3) hx hb hts i_X0 hown hK hP 0 rfl rfl 1 (lbz rfl) (hts _ q_161) (fun _ h9 => h9) rfl aL5.2.1 ?_
      refine va_get (D := (dC, dI)) (ci := 2) (v := .int fY) (C := RX2) (T := TX2) (N := 8) hx hb hts i_X2 hown hK hP 5 rfl rfl 4 (lbz rfl) (hts _ q_228) (fun _ h9 => h9) rfl aL5.2.2.1 ?_
      refine lv_iload_n hx hb aL5.2.2.2.1 rfl (lv_at hl 1 rfl) ?_
      have hm := mgk (wc := (bBP cI cC cZ cB cJ vI tJ jJ mY pG pD pE eO dN bD bJ aI mX dY)) hP mk_40 6 rfl rfl rfl
      refine yW hP hD hS hA (yS mk_40) (aAi mk_40) hm.1 hm.2 (aAk _) (zW _) (zF (As := [.int fY, .int p0]) (rest := []) C0 hP hD hS (yS mk_40) hm.1 (aAl _) 1 3 rfl rfl (c_X3_moveSeconds l dC dI cI cC cZ cB cJ vI tJ jJ mY pG pD pE eO H.size fY p0 dN bD bJ aI mX dY _ hp) q_229 q_232 q_230 q_231 q_48 h_X3_moveSeconds rfl rfl ⟨lbz rfl, lbz rfl⟩ rfl rfl hl.1 rfl (lv_room (lbz rfl)) aL5.2.2.2.2.1 ⟨Nat.zero_le _, Nat.zero_le _⟩) (fun r_2 u H locs hp hP hD hS => ?_)
      have hPD := PDm (ws' := (aOX cI cC cZ cB cJ xB vI wY xO tJ jJ mY pG pD pE eO dN bD bJ aI mX oE dY jE eW eY dU fY gJ jG nU)) hP hD 6 rfl rfl rfl
      have hP := hPD.1
      have hD := hPD.2
      refine lv_istore_n (lv' := [(2, .int r_2), (0, .ref xB), (1, .int p0)]) hx hb aL5.2.2.2.2.2.1 rfl hl (by decide) rfl (fun ls hl => ?_)
      refine lv_aload_n hx hb aL5.2.2.2.2.2.2.1 rfl (lv_at hl 1 rfl) ?_
      refine va_get (D := (dC, dI)) (ci := 0) (v := .ref wY) (C := RX0) (T := TX0) (N := 3) hx hb hts i_X0 hown hK hP 0 rfl rfl 1 (lbz rfl) (hts _ q_161) (fun _ h9 => h9) rfl aL5.2.2.2.2.2.2.2.1 ?_
      refine va_get (D := (dC, dI)) (ci := 2) (v := .int jE) (C := RX2) (T := TX2) (N := 8) hx hb hts i_X2 hown hK hP 5 rfl rfl 0 (lbz rfl) (hts _ q_162) (fun _ h9 => h9) rfl aL5.2.2.2.2.2.2.2.2.1 ?_
      refine lv_if_eq (tgt := 81) hx hb aL5.2.2.2.2.2.2.2.2.2.1 (by decide) (fun hc => ?_) (fun hc => ?_)
      · have hp := hp.1 hc
        exact ks_X0_setLadder_81 C0 p0 r_2 jE eW fY nU H locs ls hp hP hD hS (lv_sub hl [1, 2, 0] rfl)
      · have hp := hp.2 hc
        refine lv_aload_n hx hb aL5.2.2.2.2.2.2.2.2.2.2.1 rfl (lv_at hl 1 rfl) ?_
        refine va_get (D := (dC, dI)) (ci := 0) (v := .ref wY) (C := RX0) (T := TX0) (N := 3) hx hb hts i_X0 hown hK hP 0 rfl rfl 1 (lbz rfl) (hts _ q_161) (fun _ h9 => h9) rfl aL5.2.2.2.2.2.2.2.2.2.2.2.1 ?_
        refine va_get (D := (dC, dI)) (ci := 2) (v := .int fY) (C := RX2) (T := TX2) (N := 8) hx hb hts i_X2 hown hK hP 5 rfl rfl 4 (lbz rfl) (hts _ q_228) (fun _ h9 => h9) rfl aL5.2.2.2.2.2.2.2.2.2.2.2.2.1 ?_
        refine lv_iconst (v := (-1)) hx hb aL5.2.2.2.2.2.2.2.2.2.2.2.2.2.1 aEJ ?_
        refine lv_icmp_eq (tgt := 81) hx hb aL5.2.2.2.2.2.2.2.2.2.2.2.2.2.2.1 (by decide) (fun hc => ?_) (fun hc => ?_)
        · have hp := hp.1 hc
          exact ks_X0_setLadder_81 C0 p0 r_2 jE eW fY nU H locs ls hp hP hD hS (lv_sub hl [1, 2, 0] rfl)
        · have hp := hp.2 hc
          refine lv_iload_n hx hb aL5.2.2.2.2.2.2.2.2.2.2.2.2.2.2.2 rfl (lv_at hl 0 rfl) ?_
          refine lv_aload_n hx hb aL6.1 rfl (lv_at hl 1 rfl) ?_
          refine va_get (D := (dC, dI)) (ci := 0) (v := .ref vI) (C := RX0) (T := TX0) (N := 3) hx hb hts i_X0 hown hK hP 0 rfl rfl 0 (lbz rfl) (hts _ q_156) (fun _ h9 => h9) rfl aL6.2.1 ?_
          refine lv_aload_n hx hb aL6.2.2.1 rfl (lv_at hl 1 rfl) ?_
          refine va_get (D := (dC, dI)) (ci := 0) (v := .ref wY) (C := RX0) (T := TX0) (N := 3) hx hb hts i_X0 hown hK hP 0 rfl rfl 1 (lbz rfl) (hts _ q_161) (fun _ h9 => h9) rfl aL6.2.2.2.1 ?_
          refine va_get (D := (dC, dI)) (ci := 2) (v := .int fY) (C := RX2) (T := TX2) (N := 8) hx hb hts i_X2 hown hK hP 5 rfl rfl 4 (lbz rfl) (hts _ q_228) (fun _ h9 => h9) rfl aL6.2.2.2.2.1 ?_
          have hm := mgk (wc := (bBO cI cC cZ cB cJ vI tJ jJ mY pG pD pE eO dN bD bJ aI oE)) hP mk_41 6 rfl rfl rfl
          refine yW hP hD hS hA (yS mk_41) (aAi mk_41) hm.1 hm.2 (aAk _) (zW _) (zF (As := [.int fY]) (rest := [.int r_2]) C0 hP hD hS (yS mk_41) hm.1 (aAl _) 1 3 rfl rfl (c_X3_downSeconds l dC dI cI cC cZ cB cJ vI tJ jJ mY pG pD pE eO H.size fY dN bD bJ aI oE _ hp) q_201 q_241 q_202 q_203 q_48 h_X3_downSeconds rfl rfl ⟨lbz rfl, lbz rfl⟩ rfl rfl hl.1 rfl (lv_room (lbz rfl)) aL6.2.2.2.2.2.1 ⟨Nat.zero_le _, Nat.zero_le _⟩) (fun r_6 u H locs hp hP hD hS => ?_)
          have hPD := PDm (ws' := (aOX cI cC cZ cB cJ xB vI wY xO tJ jJ mY pG pD pE eO dN bD bJ aI mX oE dY jE eW eY dU fY gJ jG nU)) hP hD 6 rfl rfl rfl
          have hP := hPD.1
          have hD := hPD.2
          refine lv_iadd hx hb aL6.2.2.2.2.2.2.1 ?_
          refine lv_topi (fun v_7 ev_7 => ?_)
          have hp := hp v_7 ev_7
          refine lv_istore_n (lv' := [(2, .int v_7), (0, .ref xB), (1, .int p0)]) hx hb aL6.2.2.2.2.2.2.2.1 rfl hl (by decide) rfl (fun ls hl => ?_)
          exact ks_X0_setLadder_81 C0 p0 v_7 jE eW fY nU H locs ls hp hP hD hS (lv_sub hl [1, 2, 0] rfl)
    · have hp := hp.2 hc
      refine lv_bipush (v := (-2)) hx hb aNc.2.2.2.2.2.2.2.2.2.2.2.2.1 bp_m2 ?_
      exact W.iret (v := (-2)) hx hb hr (fun t ht hW => ⟨⟨(-2), (jE, eW, fY, nU), rfl, hp, by rw [ht]; exact hP, va_K.moved hW.alike hK, hD⟩, hS.F ht⟩) hS.2.2 aNc.2.2.2.2.2.2.2.2.2.2.2.2.2.1
  · have hp := hp.2 hc
    refine lv_iconst (v := (-1)) hx hb aNc.2.2.2.2.2.1 aEJ ?_
    exact W.iret (v := (-1)) hx hb hr (fun t ht hW => ⟨⟨(-1), (jE, eW, fY, nU), rfl, hp, by rw [ht]; exact hP, va_K.moved hW.alike hK, hD⟩, hS.F ht⟩) hS.2.2 aNc.2.2.2.2.2.2.1
abbrev wd_X4_hold (cI cC cZ cB cJ : ClassId) (xX wF uT wD : Nat) (pR uM : Int32) : va_W := [(xX, .inr (4, [.ref wF, .ref uT, .ref wD, .int pR, .int uM]))]
abbrev q_X4_hold (dC : Nat -> ClassId) (dI : Nat -> Nat -> Nat) (cI cC cZ cB cJ : ClassId) (A : Nat -> Prop) (xX wF uT wD : Nat) (post : Int32 -> Int32 -> Prop) : Array Value -> State -> Outcome -> State -> Prop := va_Qv (fun (u : Int32 × Int32) => post u.1 u.2) (fun u t => gB (dC, dI) (tyl cI cC cZ cB cJ) A (wd_X4_hold cI cC cZ cB cJ xX wF uT wD u.1 u.2) t) A
abbrev rm_X4_hold : Room := { frames := 1, cells := 0, slots := 0, locals := 21 }
def wp_X4_hold (post : Int32 -> Int32 -> Prop) (pR uM : Int32) : Prop := ∀ v_1 : Int32, v_1 = uM + 1 -> ∀ v_2 : Int32, v_2 = v_1 - v_1 / 13 * 13 -> ∀ v_3 : Int32, v_3 = pR + 1 -> ∀ v_4 : Int32, v_4 = (if v_3 < 12 then v_3 else 12) -> post v_4 v_2
set_option maxHeartbeats 4000000 in
set_option maxRecDepth 100000 in
theorem c_X4_hold (l : Launch) (dC : Nat -> ClassId) (dI : Nat -> Nat -> Nat) (cI cC cZ cB cJ : ClassId) (xX wF uT wD sz : Nat) (pR uM : Int32) (post : Int32 -> Int32 -> Prop) (hw : wp_X4_hold post pR uM) : Met l yX4_hold (gw yX4_hold cX4_hold 1 none) rm_X4_hold (va_Pc [.ref xX] (gPre (dC, dI) (tyl cI cC cZ cB cJ) (wd_X4_hold cI cC cZ cB cJ xX wF uT wD pR uM) sz)) (q_X4_hold dC dI cI cC cZ cB cJ (va_A (wd_X4_hold cI cC cZ cB cJ xX wF uT wD pR uM) sz) xX wF uT wD post) 0 0 (va_A (wd_X4_hold cI cC cZ cB cJ xX wF uT wD pR uM) sz) := by
  refine aBJ (own := RX4) (dC, dI) (tyl cI cC cZ cB cJ) (wd_X4_hold cI cC cZ cB cJ xX wF uT wD pR uM) sz [.ref xX] (fun A => q_X4_hold dC dI cI cC cZ cB cJ A xX wF uT wD post) pn_RX4 rfl (lbz rfl) ?_
  intro p e s m args below meth c A H locs ls C0 hP hD hS hl
  have hl : lv_has ls 1 [(0, .ref xX)] := hl
  obtain ⟨hx, hb, hr, hml, hown, hts, hlocks, hA, hK, hN, tL, tM, hZL, hTL, hZM, hTM, hZX⟩ := id C0
  have hp := hw
  unfold wp_X4_hold at hp
  refine lv_aload_n hx hb eX4_hold_0.1 rfl (lv_at hl 0 rfl) ?_
  refine lv_aload_n hx hb eX4_hold_0.2.1 rfl (lv_at hl 0 rfl) ?_
  refine va_get (D := (dC, dI)) (ci := 4) (v := .int uM) (C := RX4) (T := TX4) (N := 5) hx hb hts i_X4 hown hK hP 0 rfl rfl 4 (lbz rfl) (hts _ q_220) (fun _ h9 => h9) rfl eX4_hold_0.2.2.1 ?_
  refine lv_iconst (v := 1) hx hb eX4_hold_0.2.2.2.1 aDx ?_
  refine lv_iadd hx hb eX4_hold_0.2.2.2.2.1 ?_
  refine lv_topi (fun v_1 aFJ => ?_)
  have hp := hp v_1 aFJ
  refine lv_bipush (v := 13) hx hb eX4_hold_0.2.2.2.2.2.1 bp_13 ?_
  refine lv_irem hx hb eX4_hold_0.2.2.2.2.2.2.1 (by decide) ?_
  refine lv_topi (fun v_2 aGO => ?_)
  have hp := hp v_2 aGO
  refine va_put (D := (dC, dI)) (ci := 4) (v := .int v_2) (ty := .int) (C := RX4) (T := TX4) (N := 5) hx hb hts i_X4 tyX4 tyX4_ok nmX4 hown hK hP hD hS 0 rfl rfl 4 (lbz rfl) (hts _ q_220) (fun _ h9 => h9) rfl (tyX4_ok 4 (lbz rfl)) rfl rfl (lbz rfl) eX4_hold_0.2.2.2.2.2.2.2.1 (fun H locs hP hD hS => ?_)
  have hPD := PDw (ws' := (wd_X4_hold cI cC cZ cB cJ xX wF uT wD pR v_2)) hP hD rfl
  have hP := hPD.1
  have hD := hPD.2
  refine lv_aload_n hx hb eX4_hold_0.2.2.2.2.2.2.2.2.1 rfl (lv_at hl 0 rfl) ?_
  refine lv_bipush (v := 12) hx hb eX4_hold_0.2.2.2.2.2.2.2.2.2.1 bp_12 ?_
  refine lv_aload_n hx hb eX4_hold_0.2.2.2.2.2.2.2.2.2.2.1 rfl (lv_at hl 0 rfl) ?_
  refine va_get (D := (dC, dI)) (ci := 4) (v := .int pR) (C := RX4) (T := TX4) (N := 5) hx hb hts i_X4 hown hK hP 0 rfl rfl 3 (lbz rfl) (hts _ q_23) (fun _ h9 => h9) rfl eX4_hold_0.2.2.2.2.2.2.2.2.2.2.2.1 ?_
  refine lv_iconst (v := 1) hx hb eX4_hold_0.2.2.2.2.2.2.2.2.2.2.2.2.1 aDx ?_
  refine lv_iadd hx hb eX4_hold_0.2.2.2.2.2.2.2.2.2.2.2.2.2.1 ?_
  refine lv_topi (fun v_3 aGW => ?_)
  have hp := hp v_3 aGW
  refine va_mmin hx hb (by rw [hml]; exact hl.1.symm) hown (hts _ q_242) (hts _ q_15) (hts _ q_16) (hts _ q_17) (lbz rfl) (lbz rfl) (Nat.zero_le _) (Nat.zero_le _) eX4_hold_0.2.2.2.2.2.2.2.2.2.2.2.2.2.2.1 ?_
  refine lv_topi (fun v_4 aHM => ?_)
  have hp := hp v_4 aHM
  refine va_put (D := (dC, dI)) (ci := 4) (v := .int v_4) (ty := .int) (C := RX4) (T := TX4) (N := 5) hx hb hts i_X4 tyX4 tyX4_ok nmX4 hown hK hP hD hS 0 rfl rfl 3 (lbz rfl) (hts _ q_23) (fun _ h9 => h9) rfl (tyX4_ok 3 (lbz rfl)) rfl rfl (lbz rfl) eX4_hold_0.2.2.2.2.2.2.2.2.2.2.2.2.2.2.2 (fun H locs hP hD hS => ?_)
  have hPD := PDw (ws' := (wd_X4_hold cI cC cZ cB cJ xX wF uT wD v_4 v_2)) hP hD rfl
  have hP := hPD.1
  have hD := hPD.2
  exact W.vret hx hb hr (fun t ht hW => ⟨⟨(v_4, v_2), rfl, hp, by rw [ht]; exact hP, va_K.moved hW.alike hK, hD⟩, hS.F ht⟩) hS.2.2 dX4_hold_28
abbrev aUY (cI cC cZ cB cJ : ClassId) (a_x xI xH xB vI wY xX yA xY uD wF uT wD : Nat) (pR uM : Int32) : va_W := [(a_x, .inr (9, [.ref xI, .ref xH, .ref xB, .ref vI, .ref wY, .ref xX, .ref yA, .ref xY, .ref uD])), (xX, .inr (4, [.ref wF, .ref uT, .ref wD, .int pR, .int uM]))]
abbrev q_X9_holdIfDone (dC : Nat -> ClassId) (dI : Nat -> Nat -> Nat) (cI cC cZ cB cJ : ClassId) (A : Nat -> Prop) (a_x xI xH xB vI wY xX yA xY uD wF uT wD : Nat) (post : Int32 -> Int32 -> Int32 -> Prop) : Array Value -> State -> Outcome -> State -> Prop := va_Qi (fun (r : Int32) (u : Int32 × Int32) => post r u.1 u.2) (fun u t => gB (dC, dI) (tyl cI cC cZ cB cJ) A (aUY cI cC cZ cB cJ a_x xI xH xB vI wY xX yA xY uD wF uT wD u.1 u.2) t) A
abbrev rm_X9_holdIfDone : Room := { frames := 2, cells := 0, slots := 0, locals := 41 }
def aUb (post : Int32 -> Int32 -> Int32 -> Prop) (p0 pR uM : Int32) : Prop := (p0 < 0 -> post p0 pR uM) /\ (¬ p0 < 0 -> wp_X4_hold (fun pa_undoable_1 pa_free_2 => post p0 pa_undoable_1 pa_free_2) pR uM)
set_option maxHeartbeats 4000000 in
set_option maxRecDepth 100000 in
theorem c_X9_holdIfDone (l : Launch) (dC : Nat -> ClassId) (dI : Nat -> Nat -> Nat) (cI cC cZ cB cJ : ClassId) (a_x xI xH xB vI wY xX yA xY uD wF uT wD sz : Nat) (p0 pR uM : Int32) (post : Int32 -> Int32 -> Int32 -> Prop) (hw : aUb post p0 pR uM) : Met l bB4 (gw bB4 cX9_holdIfDone 2 (some .int)) rm_X9_holdIfDone (va_Pc [.ref a_x, .int p0] (gPre (dC, dI) (tyl cI cC cZ cB cJ) (aUY cI cC cZ cB cJ a_x xI xH xB vI wY xX yA xY uD wF uT wD pR uM) sz)) (q_X9_holdIfDone dC dI cI cC cZ cB cJ (va_A (aUY cI cC cZ cB cJ a_x xI xH xB vI wY xX yA xY uD wF uT wD pR uM) sz) a_x xI xH xB vI wY xX yA xY uD wF uT wD post) 0 0 (va_A (aUY cI cC cZ cB cJ a_x xI xH xB vI wY xX yA xY uD wF uT wD pR uM) sz) := by
  refine aBJ (own := RX9) (dC, dI) (tyl cI cC cZ cB cJ) (aUY cI cC cZ cB cJ a_x xI xH xB vI wY xX yA xY uD wF uT wD pR uM) sz [.ref a_x, .int p0] (fun A => q_X9_holdIfDone dC dI cI cC cZ cB cJ A a_x xI xH xB vI wY xX yA xY uD wF uT wD post) pn_RX9 rfl (lbz rfl) ?_
  intro p e s m args below meth c A H locs ls C0 hP hD hS hl
  have hl : lv_has ls 2 [(0, .ref a_x), (1, .int p0)] := hl
  obtain ⟨hx, hb, hr, hml, hown, hts, hlocks, hA, hK, hN, tL, tM, hZL, hTL, hZM, hTM, hZX⟩ := id C0
  have hp := hw
  unfold aUb at hp
  refine lv_iload_n hx hb bCT.1 rfl (lv_at hl 1 rfl) ?_
  refine lv_if_lt (tgt := 11) hx hb bCT.2.1 (by decide) (fun hc => ?_) (fun hc => ?_)
  · have hp := hp.1 hc
    refine lv_iload_n hx hb bCT.2.2.2.2.2.1 rfl (lv_at hl 1 rfl) ?_
    exact W.iret (v := p0) hx hb hr (fun t ht hW => ⟨⟨p0, (pR, uM), rfl, hp, by rw [ht]; exact hP, va_K.moved hW.alike hK, hD⟩, hS.F ht⟩) hS.2.2 bCT.2.2.2.2.2.2
  · have hp := hp.2 hc
    refine lv_aload_n hx hb bCT.2.2.1 rfl (lv_at hl 0 rfl) ?_
    refine va_get (D := (dC, dI)) (ci := 9) (v := .ref xX) (C := RX9) (T := TX9) (N := 9) hx hb hts aC3 hown hK hP 0 rfl rfl 5 (lbz rfl) (hts _ q_91) (fun _ h9 => h9) rfl bCT.2.2.2.1 ?_
    refine aBn (wc := (wd_X4_hold cI cC cZ cB cJ xX wF uT wD pR uM)) hP hD hS hA [1] [0] rfl rfl rfl rfl (zF (As := []) (rest := []) C0 hP hD hS [1] rfl rfl 1 4 rfl rfl (c_X4_hold l dC dI cI cC cZ cB cJ xX wF uT wD H.size pR uM _ hp) q_243 q_246 q_244 q_245 q_93 h_X4_hold rfl rfl ⟨lbz rfl, lbz rfl⟩ rfl rfl hl.1 rfl (lv_room (lbz rfl)) bCT.2.2.2.2.1 ⟨Nat.zero_le _, Nat.zero_le _⟩) (fun u H locs hp hP hD hS => ?_)
    obtain ⟨pa_undoable_1, pa_free_2⟩ := u
    have hPD := PDs (ws' := (aUY cI cC cZ cB cJ a_x xI xH xB vI wY xX yA xY uD wF uT wD pa_undoable_1 pa_free_2)) hP hD [0, 1] (by decide) rfl
    have hP := hPD.1
    have hD := hPD.2
    refine lv_iload_n hx hb bCT.2.2.2.2.2.1 rfl (lv_at hl 1 rfl) ?_
    exact W.iret (v := p0) hx hb hr (fun t ht hW => ⟨⟨p0, (pa_undoable_1, pa_free_2), rfl, hp, by rw [ht]; exact hP, va_K.moved hW.alike hK, hD⟩, hS.F ht⟩) hS.2.2 bCT.2.2.2.2.2.2
abbrev wd_X9_move (cI cC cZ cB cJ : ClassId) (a_x xI xH xB vI wY xX yA xY uD xO tJ jJ mY pG pD pE eO wF uT wD : Nat) (dN bD bJ aI : Int32) (mX oE dY : Nat -> Int32) (jE eW eY dU fY gJ jG nU pR uM : Int32) (tD : Nat -> Int32) : va_W := [(a_x, .inr (9, [.ref xI, .ref xH, .ref xB, .ref vI, .ref wY, .ref xX, .ref yA, .ref xY, .ref uD])), (xB, .inr (0, [.ref vI, .ref wY, .ref xO])), (vI, .inr (3, [.ref tJ, .ref jJ, .ref mY, .ref pG, .ref pD, .ref pE, .ref eO, .int dN, .int bD, .int bJ, .int aI])), (pD, .inl (cI, 8, .inl mX)), (pE, .inl (cI, 8, .inl oE)), (eO, .inl (cI, 5, .inl dY)), (wY, .inr (2, [.int jE, .int eW, .int eY, .int dU, .int fY, .int gJ, .int jG, .int nU])), (xX, .inr (4, [.ref wF, .ref uT, .ref wD, .int pR, .int uM])), (wF, .inl (cI, 104, .inl tD))]
abbrev q_X9_move (dC : Nat -> ClassId) (dI : Nat -> Nat -> Nat) (cI cC cZ cB cJ : ClassId) (A : Nat -> Prop) (a_x xI xH xB vI wY xX yA xY uD xO tJ jJ mY pG pD pE eO wF uT wD : Nat) (dN bD bJ aI : Int32) (mX oE dY : Nat -> Int32) (eY dU gJ jG : Int32) (post : Int32 -> Int32 -> Int32 -> Int32 -> Int32 -> Int32 -> Int32 -> (Nat -> Int32) -> Prop) : Array Value -> State -> Outcome -> State -> Prop := va_Qi (fun (r : Int32) (u : Int32 × Int32 × Int32 × Int32 × Int32 × Int32 × (Nat -> Int32)) => post r u.1 u.2.1 u.2.2.1 u.2.2.2.1 u.2.2.2.2.1 u.2.2.2.2.2.1 u.2.2.2.2.2.2) (fun u t => gB (dC, dI) (tyl cI cC cZ cB cJ) A (wd_X9_move cI cC cZ cB cJ a_x xI xH xB vI wY xX yA xY uD xO tJ jJ mY pG pD pE eO wF uT wD dN bD bJ aI mX oE dY u.1 u.2.1 eY dU u.2.2.1 gJ jG u.2.2.2.1 u.2.2.2.2.1 u.2.2.2.2.2.1 u.2.2.2.2.2.2) t) A
abbrev rm_X9_move : Room := { frames := 3, cells := 0, slots := 0, locals := 65 }
def wp_X9_move (post : Int32 -> Int32 -> Int32 -> Int32 -> Int32 -> Int32 -> Int32 -> (Nat -> Int32) -> Prop) (p0 bD : Int32) (mX oE dY : Nat -> Int32) (jE eW eY dU fY gJ jG nU pR uM : Int32) (tD : Nat -> Int32) : Prop := wp_X4_note (fun aGG => wp_X0_setLadder (fun r_2 aJy aLG bAu no_clock_6 => aUb (fun r_7 pa_undoable_8 pa_free_9 => post r_7 aJy aLG bAu no_clock_6 pa_undoable_8 pa_free_9 aGG) r_2 pR uM) p0 bD mX oE dY jE eW fY nU) jE eW eY dU fY gJ jG nU uM tD
set_option maxHeartbeats 4000000 in
set_option maxRecDepth 100000 in
theorem c_X9_move (l : Launch) (dC : Nat -> ClassId) (dI : Nat -> Nat -> Nat) (cI cC cZ cB cJ : ClassId) (a_x xI xH xB vI wY xX yA xY uD xO tJ jJ mY pG pD pE eO wF uT wD sz : Nat) (p0 dN bD bJ aI : Int32) (mX oE dY : Nat -> Int32) (jE eW eY dU fY gJ jG nU pR uM : Int32) (tD : Nat -> Int32) (post : Int32 -> Int32 -> Int32 -> Int32 -> Int32 -> Int32 -> Int32 -> (Nat -> Int32) -> Prop) (hw : wp_X9_move post p0 bD mX oE dY jE eW eY dU fY gJ jG nU pR uM tD) : Met l yX9_move (gw yX9_move cX9_move 2 (some .int)) rm_X9_move (va_Pc [.ref a_x, .int p0] (gPre (dC, dI) (tyl cI cC cZ cB cJ) (wd_X9_move cI cC cZ cB cJ a_x xI xH xB vI wY xX yA xY uD xO tJ jJ mY pG pD pE eO wF uT wD dN bD bJ aI mX oE dY jE eW eY dU fY gJ jG nU pR uM tD) sz)) (q_X9_move dC dI cI cC cZ cB cJ (va_A (wd_X9_move cI cC cZ cB cJ a_x xI xH xB vI wY xX yA xY uD xO tJ jJ mY pG pD pE eO wF uT wD dN bD bJ aI mX oE dY jE eW eY dU fY gJ jG nU pR uM tD) sz) a_x xI xH xB vI wY xX yA xY uD xO tJ jJ mY pG pD pE eO wF uT wD dN bD bJ aI mX oE dY eY dU gJ jG post) 0 0 (va_A (wd_X9_move cI cC cZ cB cJ a_x xI xH xB vI wY xX yA xY uD xO tJ jJ mY pG pD pE eO wF uT wD dN bD bJ aI mX oE dY jE eW eY dU fY gJ jG nU pR uM tD) sz) := by
  refine aBJ (own := RX9) (dC, dI) (tyl cI cC cZ cB cJ) (wd_X9_move cI cC cZ cB cJ a_x xI xH xB vI wY xX yA xY uD xO tJ jJ mY pG pD pE eO wF uT wD dN bD bJ aI mX oE dY jE eW eY dU fY gJ jG nU pR uM tD) sz [.ref a_x, .int p0] (fun A => q_X9_move dC dI cI cC cZ cB cJ A a_x xI xH xB vI wY xX yA xY uD xO tJ jJ mY pG pD pE eO wF uT wD dN bD bJ aI mX oE dY eY dU gJ jG post) pn_RX9 rfl (lbz rfl) ?_
  intro p e s m args below meth c A H locs ls C0 hP hD hS hl
  have hl : lv_has ls 2 [(0, .ref a_x), (1, .int p0)] := hl
  obtain ⟨hx, hb, hr, hml, hown, hts, hlocks, hA, hK, hN, tL, tM, hZL, hTL, hZM, hTM, hZX⟩ := id C0
  have hp := hw
  unfold wp_X9_move at hp
  refine lv_aload_n hx hb eX9_move_0.1 rfl (lv_at hl 0 rfl) ?_
  refine va_get (D := (dC, dI)) (ci := 9) (v := .ref xX) (C := RX9) (T := TX9) (N := 9) hx hb hts aC3 hown hK hP 0 rfl rfl 5 (lbz rfl) (hts _ q_91) (fun _ h9 => h9) rfl eX9_move_0.2.1 ?_
  refine lv_aload_n hx hb eX9_move_0.2.2.1 rfl (lv_at hl 0 rfl) ?_
  refine va_get (D := (dC, dI)) (ci := 9) (v := .ref wY) (C := RX9) (T := TX9) (N := 9) hx hb hts aC3 hown hK hP 0 rfl rfl 4 (lbz rfl) (hts _ q_179) (fun _ h9 => h9) rfl eX9_move_0.2.2.2.1 ?_
  have hm := mgk (wc := (wd_X4_note cI cC cZ cB cJ wY xX wF uT wD jE eW eY dU fY gJ jG nU pR uM tD)) hP mk_42 9 rfl rfl rfl
  refine aBn hP hD hS hA (yS mk_42) (aAi mk_42) hm.1 hm.2 (aAk _) (zW _) (zF (As := [.ref wY]) (rest := []) C0 hP hD hS (yS mk_42) hm.1 (aAl _) 7 4 rfl rfl (c_X4_note l dC dI cI cC cZ cB cJ wY xX wF uT wD H.size jE eW eY dU fY gJ jG nU pR uM tD _ hp) q_247 q_250 q_248 q_249 q_93 h_X4_note rfl rfl ⟨lbz rfl, lbz rfl⟩ rfl rfl hl.1 rfl (lv_room (lbz rfl)) eX9_move_0.2.2.2.2.1 ⟨Nat.zero_le _, Nat.zero_le _⟩) (fun u H locs hp hP hD hS => ?_)
  obtain ⟨aGG, rfl⟩ : ∃ z, z = u := ⟨_, rfl⟩
  have hPD := PDm (ws' := (wd_X9_move cI cC cZ cB cJ a_x xI xH xB vI wY xX yA xY uD xO tJ jJ mY pG pD pE eO wF uT wD dN bD bJ aI mX oE dY jE eW eY dU fY gJ jG nU pR uM aGG)) hP hD 9 rfl rfl rfl
  have hP := hPD.1
  have hD := hPD.2
  refine lv_aload_n hx hb eX9_move_0.2.2.2.2.2.1 rfl (lv_at hl 0 rfl) ?_
  refine lv_aload_n hx hb eX9_move_0.2.2.2.2.2.2.1 rfl (lv_at hl 0 rfl) ?_
  refine va_get (D := (dC, dI)) (ci := 9) (v := .ref xB) (C := RX9) (T := TX9) (N := 9) hx hb hts aC3 hown hK hP 0 rfl rfl 2 (lbz rfl) (hts _ q_146) (fun _ h9 => h9) rfl eX9_move_0.2.2.2.2.2.2.2.1 ?_
  refine lv_iload_n hx hb eX9_move_0.2.2.2.2.2.2.2.2.1 rfl (lv_at hl 1 rfl) ?_
  have hm := mgk (wc := (aOX cI cC cZ cB cJ xB vI wY xO tJ jJ mY pG pD pE eO dN bD bJ aI mX oE dY jE eW eY dU fY gJ jG nU)) hP mk_43 9 rfl rfl rfl
  refine yW hP hD hS hA (yS mk_43) (aAi mk_43) hm.1 hm.2 (aAk _) (zW _) (zF (As := [.int p0]) (rest := [.ref a_x]) C0 hP hD hS (yS mk_43) hm.1 (aAl _) 1 0 rfl rfl (c_X0_setLadder l dC dI cI cC cZ cB cJ xB vI wY xO tJ jJ mY pG pD pE eO H.size p0 dN bD bJ aI mX oE dY jE eW eY dU fY gJ jG nU _ hp) q_251 q_254 q_252 q_253 q_187 h_X0_setLadder rfl rfl ⟨lbz rfl, lbz rfl⟩ rfl rfl hl.1 rfl (lv_room (lbz rfl)) eX9_move_0.2.2.2.2.2.2.2.2.2.1 ⟨Nat.zero_le _, Nat.zero_le _⟩) (fun r_2 u H locs hp hP hD hS => ?_)
  obtain ⟨aJy, aLG, bAu, no_clock_6⟩ := u
  have hPD := PDm (ws' := (wd_X9_move cI cC cZ cB cJ a_x xI xH xB vI wY xX yA xY uD xO tJ jJ mY pG pD pE eO wF uT wD dN bD bJ aI mX oE dY aJy aLG eY dU bAu gJ jG no_clock_6 pR uM aGG)) hP hD 9 rfl rfl rfl
  have hP := hPD.1
  have hD := hPD.2
  have hm := mgk (wc := (aUY cI cC cZ cB cJ a_x xI xH xB vI wY xX yA xY uD wF uT wD pR uM)) hP mk_44 9 rfl rfl rfl
  refine yW hP hD hS hA (yS mk_44) (aAi mk_44) hm.1 hm.2 (aAk _) (zW _) (zF (As := [.int r_2]) (rest := []) C0 hP hD hS (yS mk_44) hm.1 (aAl _) 0 9 rfl rfl (c_X9_holdIfDone l dC dI cI cC cZ cB cJ a_x xI xH xB vI wY xX yA xY uD wF uT wD H.size r_2 pR uM _ hp) q_255 q_259 q_257 q_258 aIl h_X9_holdIfDone rfl rfl ⟨lbz rfl, lbz rfl⟩ rfl rfl hl.1 rfl (lv_room (lbz rfl)) eX9_move_0.2.2.2.2.2.2.2.2.2.2.1 ⟨Nat.zero_le _, Nat.zero_le _⟩) (fun r_7 u H locs hp hP hD hS => ?_)
  obtain ⟨pa_undoable_8, pa_free_9⟩ := u
  have hPD := PDm (ws' := (wd_X9_move cI cC cZ cB cJ a_x xI xH xB vI wY xX yA xY uD xO tJ jJ mY pG pD pE eO wF uT wD dN bD bJ aI mX oE dY aJy aLG eY dU bAu gJ jG no_clock_6 pa_undoable_8 pa_free_9 aGG)) hP hD 9 rfl rfl rfl
  have hP := hPD.1
  have hD := hPD.2
  exact W.iret (v := r_7) hx hb hr (fun t ht hW => ⟨⟨r_7, (aJy, aLG, bAu, no_clock_6, pa_undoable_8, pa_free_9, aGG), rfl, hp, by rw [ht]; exact hP, va_K.moved hW.alike hK, hD⟩, hS.F ht⟩) hS.2.2 eX9_move_0.2.2.2.2.2.2.2.2.2.2.2
abbrev aY5 (cI cC cZ cB cJ : ClassId) : va_W := []
abbrev q_X9_isYesOrNo (dC : Nat -> ClassId) (dI : Nat -> Nat -> Nat) (cI cC cZ cB cJ : ClassId) (A : Nat -> Prop) (post : Int32 -> Prop) : Array Value -> State -> Outcome -> State -> Prop := va_Qi (fun (r : Int32) (u : Unit) => post r) (fun u t => gB (dC, dI) (tyl cI cC cZ cB cJ) A (aY5 cI cC cZ cB cJ) t) A
abbrev rm_X9_isYesOrNo : Room := { frames := 0, cells := 0, slots := 0, locals := 0 }
section S_X9_isYesOrNo
variable {p : Program} {l : Launch} {e : Env} {s : State} {m : MethodId} {args : Array Value} {below : List Frame} {meth : Method} {c : Code} {dC : Nat -> ClassId} {dI : Nat -> Nat -> Nat} {cI cC cZ cB cJ : ClassId} {A : Nat -> Prop} {post : Int32 -> Prop}
def ws_X9_isYesOrNo_9 (post : Int32 -> Prop) : Prop := post 1
set_option maxHeartbeats 4000000 in
set_option maxRecDepth 100000 in
theorem ks_X9_isYesOrNo_9 (C0 : gc bB7 (some .boolean) 1 RX9 (dC, dI) (tyl cI cC cZ cB cJ) A p s m args meth c) : ∀ (H : Heap) (locs : List Loc) (ls : Array Slot), (ws_X9_isYesOrNo_9 post) -> va_P (dC, dI) classes (aY5 cI cC cZ cB cJ) H -> va_D A (aY5 cI cC cZ cB cJ) -> va_S A s.heap H locs -> lv_has ls 1 [] -> W p l e rm_X9_isYesOrNo s m args below meth c H locs 0 0 (MQ below (q_X9_isYesOrNo dC dI cI cC cZ cB cJ A post) args s 0 0 A) (F0 m 9 ls []) := by
  obtain ⟨hx, hb, hr, hml, hown, hts, hlocks, hA, hK, hN, tL, tM, hZL, hTL, hZM, hTM, hZX⟩ := id C0
  intro H locs ls hp hP hD hS hl
  unfold ws_X9_isYesOrNo_9 at hp
  refine lv_iconst (v := 1) hx hb bCC.2.2.2.2.2.1 aDx ?_
  refine lv_goto (tgt := 14) hx hb bCC.2.2.2.2.2.2.1 (by decide) ?_
  exact W.zret (v := 1) hx hb hr rfl (fun t ht hW => ⟨⟨1, (), rfl, hp, by rw [ht]; exact hP, va_K.moved hW.alike hK, hD⟩, hS.F ht⟩) hS.2.2 bCC.2.2.2.2.2.2.2.2
end S_X9_isYesOrNo
def aY9 (post : Int32 -> Prop) (p0 : Int32) : Prop := (p0 = 0 -> ws_X9_isYesOrNo_9 post) /\ (¬ p0 = 0 -> (¬ p0 = 1 -> post 0) /\ (p0 = 1 -> ws_X9_isYesOrNo_9 post))
set_option maxHeartbeats 4000000 in
set_option maxRecDepth 100000 in
theorem c_X9_isYesOrNo (l : Launch) (dC : Nat -> ClassId) (dI : Nat -> Nat -> Nat) (cI cC cZ cB cJ : ClassId) (sz : Nat) (p0 : Int32) (post : Int32 -> Prop) (hw : aY9 post p0) : Met l yX9_isYesOrNo (gw yX9_isYesOrNo bB7 1 (some .boolean)) rm_X9_isYesOrNo (va_Pc [.int p0] (gPre (dC, dI) (tyl cI cC cZ cB cJ) (aY5 cI cC cZ cB cJ) sz)) (q_X9_isYesOrNo dC dI cI cC cZ cB cJ (va_A (aY5 cI cC cZ cB cJ) sz) post) 0 0 (va_A (aY5 cI cC cZ cB cJ) sz) := by
  refine aBJ (own := RX9) (dC, dI) (tyl cI cC cZ cB cJ) (aY5 cI cC cZ cB cJ) sz [.int p0] (fun A => q_X9_isYesOrNo dC dI cI cC cZ cB cJ A post) pn_RX9 rfl (lbz rfl) ?_
  intro p e s m args below meth c A H locs ls C0 hP hD hS hl
  have hl : lv_has ls 1 [(0, .int p0)] := hl
  obtain ⟨hx, hb, hr, hml, hown, hts, hlocks, hA, hK, hN, tL, tM, hZL, hTL, hZM, hTM, hZX⟩ := id C0
  have hp := hw
  unfold aY9 at hp
  refine lv_iload_n hx hb bCC.1 rfl (lv_at hl 0 rfl) ?_
  refine lv_if_eq (tgt := 9) hx hb bCC.2.1 (by decide) (fun hc => ?_) (fun hc => ?_)
  · have hp := hp.1 hc
    exact ks_X9_isYesOrNo_9 C0 H locs ls hp hP hD hS (lv_sub hl [] rfl)
  · have hp := hp.2 hc
    refine lv_iload_n hx hb bCC.2.2.1 rfl (lv_at hl 0 rfl) ?_
    refine lv_iconst (v := 1) hx hb bCC.2.2.2.1 aDx ?_
    refine lv_icmp_ne (tgt := 13) hx hb bCC.2.2.2.2.1 (by decide) (fun hc => ?_) (fun hc => ?_)
    · have hp := hp.1 hc
      refine lv_iconst (v := 0) hx hb bCC.2.2.2.2.2.2.2.1 aCi ?_
      exact W.zret (v := 0) hx hb hr rfl (fun t ht hW => ⟨⟨0, (), rfl, hp, by rw [ht]; exact hP, va_K.moved hW.alike hK, hD⟩, hS.F ht⟩) hS.2.2 bCC.2.2.2.2.2.2.2.2
    · have hp := hp.2 hc
      exact ks_X9_isYesOrNo_9 C0 H locs ls hp hP hD hS (lv_sub hl [] rfl)
abbrev aY1 (cI cC cZ cB cJ : ClassId) (xB vI wY xO : Nat) (jE eW eY dU fY gJ jG nU : Int32) : va_W := [(xB, .inr (0, [.ref vI, .ref wY, .ref xO])), (wY, .inr (2, [.int jE, .int eW, .int eY, .int dU, .int fY, .int gJ, .int jG, .int nU]))]
abbrev q_X0_setHelper (dC : Nat -> ClassId) (dI : Nat -> Nat -> Nat) (cI cC cZ cB cJ : ClassId) (A : Nat -> Prop) (xB vI wY xO : Nat) (jE eW eY dU fY jG nU : Int32) (post : Int32 -> Int32 -> Prop) : Array Value -> State -> Outcome -> State -> Prop := va_Qi (fun (r u : Int32) => post r u) (fun u t => gB (dC, dI) (tyl cI cC cZ cB cJ) A (aY1 cI cC cZ cB cJ xB vI wY xO jE eW eY dU fY u jG nU) t) A
abbrev rm_X0_setHelper : Room := { frames := 1, cells := 0, slots := 0, locals := 20 }
def wp_X0_setHelper (post : Int32 -> Int32 -> Prop) (p0 gJ : Int32) : Prop := aY9 (fun r_1 => (¬ r_1 = 0 -> post gJ p0) /\ (r_1 = 0 -> post (-1) gJ)) p0
set_option maxHeartbeats 4000000 in
set_option maxRecDepth 100000 in
theorem c_X0_setHelper (l : Launch) (dC : Nat -> ClassId) (dI : Nat -> Nat -> Nat) (cI cC cZ cB cJ : ClassId) (xB vI wY xO sz : Nat) (p0 jE eW eY dU fY gJ jG nU : Int32) (post : Int32 -> Int32 -> Prop) (hw : wp_X0_setHelper post p0 gJ) : Met l yX0_setHelper (gw yX0_setHelper aRO 3 (some .int)) rm_X0_setHelper (va_Pc [.ref xB, .int p0] (gPre (dC, dI) (tyl cI cC cZ cB cJ) (aY1 cI cC cZ cB cJ xB vI wY xO jE eW eY dU fY gJ jG nU) sz)) (q_X0_setHelper dC dI cI cC cZ cB cJ (va_A (aY1 cI cC cZ cB cJ xB vI wY xO jE eW eY dU fY gJ jG nU) sz) xB vI wY xO jE eW eY dU fY jG nU post) 0 0 (va_A (aY1 cI cC cZ cB cJ xB vI wY xO jE eW eY dU fY gJ jG nU) sz) := by
  refine aBJ (own := RX0) (dC, dI) (tyl cI cC cZ cB cJ) (aY1 cI cC cZ cB cJ xB vI wY xO jE eW eY dU fY gJ jG nU) sz [.ref xB, .int p0] (fun A => q_X0_setHelper dC dI cI cC cZ cB cJ A xB vI wY xO jE eW eY dU fY jG nU post) pn_RX0 rfl (lbz rfl) ?_
  intro p e s m args below meth c A H locs ls C0 hP hD hS hl
  have hl : lv_has ls 3 [(0, .ref xB), (1, .int p0)] := hl
  obtain ⟨hx, hb, hr, hml, hown, hts, hlocks, hA, hK, hN, tL, tM, hZL, hTL, hZM, hTM, hZX⟩ := id C0
  have hp := hw
  unfold wp_X0_setHelper at hp
  refine lv_iload_n hx hb aPN.1 rfl (lv_at hl 1 rfl) ?_
  refine yW (wc := (aY5 cI cC cZ cB cJ)) hP hD hS hA [] [0, 1] rfl rfl rfl rfl (g_runSN (As := [.int p0]) (rest := []) C0 hP hD hS [] rfl rfl (c_X9_isYesOrNo l dC dI cI cC cZ cB cJ H.size p0 _ hp) q_260 n_1 q_261 aIl h_X9_isYesOrNo rfl rfl ⟨lbz rfl, lbz rfl⟩ rfl rfl hl.1 rfl (lv_room (lbz rfl)) aPN.2.1 ⟨Nat.zero_le _, Nat.zero_le _⟩) (fun r_1 u H locs hp hP hD hS => ?_)
  have hPD := PDs (ws' := (aY1 cI cC cZ cB cJ xB vI wY xO jE eW eY dU fY gJ jG nU)) hP hD [0, 1] (by decide) rfl
  have hP := hPD.1
  have hD := hPD.2
  refine lv_if_ne (tgt := 9) hx hb aPN.2.2.1 (by decide) (fun hc => ?_) (fun hc => ?_)
  · have hp := hp.1 hc
    refine lv_aload_n hx hb aPN.2.2.2.2.2.1 rfl (lv_at hl 0 rfl) ?_
    refine va_get (D := (dC, dI)) (ci := 0) (v := .ref wY) (C := RX0) (T := TX0) (N := 3) hx hb hts i_X0 hown hK hP 0 rfl rfl 1 (lbz rfl) (hts _ q_161) (fun _ h9 => h9) rfl aPN.2.2.2.2.2.2.1 ?_
    refine va_get (D := (dC, dI)) (ci := 2) (v := .int gJ) (C := RX2) (T := TX2) (N := 8) hx hb hts i_X2 hown hK hP 1 rfl rfl 5 (lbz rfl) (hts _ q_262) (fun _ h9 => h9) rfl aPN.2.2.2.2.2.2.2.1 ?_
    refine lv_istore_n (lv' := [(2, .int gJ), (0, .ref xB), (1, .int p0)]) hx hb aPN.2.2.2.2.2.2.2.2.1 rfl hl (by decide) rfl (fun ls hl => ?_)
    refine lv_aload_n hx hb aPN.2.2.2.2.2.2.2.2.2.1 rfl (lv_at hl 1 rfl) ?_
    refine va_get (D := (dC, dI)) (ci := 0) (v := .ref wY) (C := RX0) (T := TX0) (N := 3) hx hb hts i_X0 hown hK hP 0 rfl rfl 1 (lbz rfl) (hts _ q_161) (fun _ h9 => h9) rfl aPN.2.2.2.2.2.2.2.2.2.2.1 ?_
    refine lv_iload_n hx hb aPN.2.2.2.2.2.2.2.2.2.2.2.1 rfl (lv_at hl 2 rfl) ?_
    refine va_put (D := (dC, dI)) (ci := 2) (v := .int p0) (ty := .int) (C := RX2) (T := TX2) (N := 8) hx hb hts i_X2 tyX2 aIa nmX2 hown hK hP hD hS 1 rfl rfl 5 (lbz rfl) (hts _ q_262) (fun _ h9 => h9) rfl (aIa 5 (lbz rfl)) rfl rfl (lbz rfl) aPN.2.2.2.2.2.2.2.2.2.2.2.2.1 (fun H locs hP hD hS => ?_)
    have hPD := PDw (ws' := (aY1 cI cC cZ cB cJ xB vI wY xO jE eW eY dU fY p0 jG nU)) hP hD rfl
    have hP := hPD.1
    have hD := hPD.2
    refine lv_iload_n hx hb aPN.2.2.2.2.2.2.2.2.2.2.2.2.2.1 rfl (lv_at hl 0 rfl) ?_
    exact W.iret (v := gJ) hx hb hr (fun t ht hW => ⟨⟨gJ, p0, rfl, hp, by rw [ht]; exact hP, va_K.moved hW.alike hK, hD⟩, hS.F ht⟩) hS.2.2 aPN.2.2.2.2.2.2.2.2.2.2.2.2.2.2
  · have hp := hp.2 hc
    refine lv_iconst (v := (-1)) hx hb aPN.2.2.2.1 aEJ ?_
    exact W.iret (v := (-1)) hx hb hr (fun t ht hW => ⟨⟨(-1), gJ, rfl, hp, by rw [ht]; exact hP, va_K.moved hW.alike hK, hD⟩, hS.F ht⟩) hS.2.2 aPN.2.2.2.2.1
abbrev wd_X9_foot (cI cC cZ cB cJ : ClassId) (a_x xI xH xB vI wY xX yA xY uD xO wF uT wD : Nat) (jE eW eY dU fY gJ jG nU pR uM : Int32) (tD : Nat -> Int32) : va_W := [(a_x, .inr (9, [.ref xI, .ref xH, .ref xB, .ref vI, .ref wY, .ref xX, .ref yA, .ref xY, .ref uD])), (xB, .inr (0, [.ref vI, .ref wY, .ref xO])), (wY, .inr (2, [.int jE, .int eW, .int eY, .int dU, .int fY, .int gJ, .int jG, .int nU])), (xX, .inr (4, [.ref wF, .ref uT, .ref wD, .int pR, .int uM])), (wF, .inl (cI, 104, .inl tD))]
abbrev q_X9_foot (dC : Nat -> ClassId) (dI : Nat -> Nat -> Nat) (cI cC cZ cB cJ : ClassId) (A : Nat -> Prop) (a_x xI xH xB vI wY xX yA xY uD xO wF uT wD : Nat) (jE eW eY dU fY jG nU : Int32) (post : Int32 -> Int32 -> Int32 -> Int32 -> (Nat -> Int32) -> Prop) : Array Value -> State -> Outcome -> State -> Prop := va_Qi (fun (r : Int32) (u : Int32 × Int32 × Int32 × (Nat -> Int32)) => post r u.1 u.2.1 u.2.2.1 u.2.2.2) (fun u t => gB (dC, dI) (tyl cI cC cZ cB cJ) A (wd_X9_foot cI cC cZ cB cJ a_x xI xH xB vI wY xX yA xY uD xO wF uT wD jE eW eY dU fY u.1 jG nU u.2.1 u.2.2.1 u.2.2.2) t) A
abbrev rm_X9_foot : Room := { frames := 3, cells := 0, slots := 0, locals := 62 }
def wp_X9_foot (post : Int32 -> Int32 -> Int32 -> Int32 -> (Nat -> Int32) -> Prop) (p0 jE eW eY dU fY gJ jG nU pR uM : Int32) (tD : Nat -> Int32) : Prop := wp_X4_note (fun aGG => wp_X0_setHelper (fun r_2 no_helper_3 => aUb (fun r_4 pa_undoable_5 pa_free_6 => post r_4 no_helper_3 pa_undoable_5 pa_free_6 aGG) r_2 pR uM) p0 gJ) jE eW eY dU fY gJ jG nU uM tD
set_option maxHeartbeats 4000000 in
set_option maxRecDepth 100000 in
theorem c_X9_foot (l : Launch) (dC : Nat -> ClassId) (dI : Nat -> Nat -> Nat) (cI cC cZ cB cJ : ClassId) (a_x xI xH xB vI wY xX yA xY uD xO wF uT wD sz : Nat) (p0 jE eW eY dU fY gJ jG nU pR uM : Int32) (tD : Nat -> Int32) (post : Int32 -> Int32 -> Int32 -> Int32 -> (Nat -> Int32) -> Prop) (hw : wp_X9_foot post p0 jE eW eY dU fY gJ jG nU pR uM tD) : Met l yX9_foot (gw yX9_foot cX9_foot 2 (some .int)) rm_X9_foot (va_Pc [.ref a_x, .int p0] (gPre (dC, dI) (tyl cI cC cZ cB cJ) (wd_X9_foot cI cC cZ cB cJ a_x xI xH xB vI wY xX yA xY uD xO wF uT wD jE eW eY dU fY gJ jG nU pR uM tD) sz)) (q_X9_foot dC dI cI cC cZ cB cJ (va_A (wd_X9_foot cI cC cZ cB cJ a_x xI xH xB vI wY xX yA xY uD xO wF uT wD jE eW eY dU fY gJ jG nU pR uM tD) sz) a_x xI xH xB vI wY xX yA xY uD xO wF uT wD jE eW eY dU fY jG nU post) 0 0 (va_A (wd_X9_foot cI cC cZ cB cJ a_x xI xH xB vI wY xX yA xY uD xO wF uT wD jE eW eY dU fY gJ jG nU pR uM tD) sz) := by
  refine aBJ (own := RX9) (dC, dI) (tyl cI cC cZ cB cJ) (wd_X9_foot cI cC cZ cB cJ a_x xI xH xB vI wY xX yA xY uD xO wF uT wD jE eW eY dU fY gJ jG nU pR uM tD) sz [.ref a_x, .int p0] (fun A => q_X9_foot dC dI cI cC cZ cB cJ A a_x xI xH xB vI wY xX yA xY uD xO wF uT wD jE eW eY dU fY jG nU post) pn_RX9 rfl (lbz rfl) ?_
  intro p e s m args below meth c A H locs ls C0 hP hD hS hl
  have hl : lv_has ls 2 [(0, .ref a_x), (1, .int p0)] := hl
  obtain ⟨hx, hb, hr, hml, hown, hts, hlocks, hA, hK, hN, tL, tM, hZL, hTL, hZM, hTM, hZX⟩ := id C0
  have hp := hw
  unfold wp_X9_foot at hp
  refine lv_aload_n hx hb eX9_foot_0.1 rfl (lv_at hl 0 rfl) ?_
  refine va_get (D := (dC, dI)) (ci := 9) (v := .ref xX) (C := RX9) (T := TX9) (N := 9) hx hb hts aC3 hown hK hP 0 rfl rfl 5 (lbz rfl) (hts _ q_91) (fun _ h9 => h9) rfl eX9_foot_0.2.1 ?_
  refine lv_aload_n hx hb eX9_foot_0.2.2.1 rfl (lv_at hl 0 rfl) ?_
  refine va_get (D := (dC, dI)) (ci := 9) (v := .ref wY) (C := RX9) (T := TX9) (N := 9) hx hb hts aC3 hown hK hP 0 rfl rfl 4 (lbz rfl) (hts _ q_179) (fun _ h9 => h9) rfl eX9_foot_0.2.2.2.1 ?_
  have hm := mgk (wc := (wd_X4_note cI cC cZ cB cJ wY xX wF uT wD jE eW eY dU fY gJ jG nU pR uM tD)) hP mk_22 5 rfl rfl rfl
  refine aBn hP hD hS hA (yS mk_22) (aAi mk_22) hm.1 hm.2 (aAk _) (zW _) (zF (As := [.ref wY]) (rest := []) C0 hP hD hS (yS mk_22) hm.1 (aAl _) 3 4 rfl rfl (c_X4_note l dC dI cI cC cZ cB cJ wY xX wF uT wD H.size jE eW eY dU fY gJ jG nU pR uM tD _ hp) q_247 q_250 q_248 q_249 q_93 h_X4_note rfl rfl ⟨lbz rfl, lbz rfl⟩ rfl rfl hl.1 rfl (lv_room (lbz rfl)) eX9_foot_0.2.2.2.2.1 ⟨Nat.zero_le _, Nat.zero_le _⟩) (fun u H locs hp hP hD hS => ?_)
  obtain ⟨aGG, rfl⟩ : ∃ z, z = u := ⟨_, rfl⟩
  have hPD := PDm (ws' := (wd_X9_foot cI cC cZ cB cJ a_x xI xH xB vI wY xX yA xY uD xO wF uT wD jE eW eY dU fY gJ jG nU pR uM aGG)) hP hD 5 rfl rfl rfl
  have hP := hPD.1
  have hD := hPD.2
  refine lv_aload_n hx hb eX9_foot_0.2.2.2.2.2.1 rfl (lv_at hl 0 rfl) ?_
  refine lv_aload_n hx hb eX9_foot_0.2.2.2.2.2.2.1 rfl (lv_at hl 0 rfl) ?_
  refine va_get (D := (dC, dI)) (ci := 9) (v := .ref xB) (C := RX9) (T := TX9) (N := 9) hx hb hts aC3 hown hK hP 0 rfl rfl 2 (lbz rfl) (hts _ q_146) (fun _ h9 => h9) rfl eX9_foot_0.2.2.2.2.2.2.2.1 ?_
  refine lv_iload_n hx hb eX9_foot_0.2.2.2.2.2.2.2.2.1 rfl (lv_at hl 1 rfl) ?_
  have hm := mgk (wc := (aY1 cI cC cZ cB cJ xB vI wY xO jE eW eY dU fY gJ jG nU)) hP mk_45 5 rfl rfl rfl
  refine yW hP hD hS hA (yS mk_45) (aAi mk_45) hm.1 hm.2 (aAk _) (zW _) (zF (As := [.int p0]) (rest := [.ref a_x]) C0 hP hD hS (yS mk_45) hm.1 (aAl _) 1 0 rfl rfl (c_X0_setHelper l dC dI cI cC cZ cB cJ xB vI wY xO H.size p0 jE eW eY dU fY gJ jG nU _ hp) q_263 q_266 q_264 q_265 q_187 h_X0_setHelper rfl rfl ⟨lbz rfl, lbz rfl⟩ rfl rfl hl.1 rfl (lv_room (lbz rfl)) eX9_foot_0.2.2.2.2.2.2.2.2.2.1 ⟨Nat.zero_le _, Nat.zero_le _⟩) (fun r_2 u H locs hp hP hD hS => ?_)
  obtain ⟨no_helper_3, rfl⟩ : ∃ z, z = u := ⟨_, rfl⟩
  have hPD := PDm (ws' := (wd_X9_foot cI cC cZ cB cJ a_x xI xH xB vI wY xX yA xY uD xO wF uT wD jE eW eY dU fY no_helper_3 jG nU pR uM aGG)) hP hD 5 rfl rfl rfl
  have hP := hPD.1
  have hD := hPD.2
  have hm := mgk (wc := (aUY cI cC cZ cB cJ a_x xI xH xB vI wY xX yA xY uD wF uT wD pR uM)) hP mk_46 5 rfl rfl rfl
  refine yW hP hD hS hA (yS mk_46) (aAi mk_46) hm.1 hm.2 (aAk _) (zW _) (zF (As := [.int r_2]) (rest := []) C0 hP hD hS (yS mk_46) hm.1 (aAl _) 0 9 rfl rfl (c_X9_holdIfDone l dC dI cI cC cZ cB cJ a_x xI xH xB vI wY xX yA xY uD wF uT wD H.size r_2 pR uM _ hp) q_255 q_259 q_257 q_258 aIl h_X9_holdIfDone rfl rfl ⟨lbz rfl, lbz rfl⟩ rfl rfl hl.1 rfl (lv_room (lbz rfl)) eX9_foot_0.2.2.2.2.2.2.2.2.2.2.1 ⟨Nat.zero_le _, Nat.zero_le _⟩) (fun r_4 u H locs hp hP hD hS => ?_)
  obtain ⟨pa_undoable_5, pa_free_6⟩ := u
  have hPD := PDm (ws' := (wd_X9_foot cI cC cZ cB cJ a_x xI xH xB vI wY xX yA xY uD xO wF uT wD jE eW eY dU fY no_helper_3 jG nU pa_undoable_5 pa_free_6 aGG)) hP hD 5 rfl rfl rfl
  have hP := hPD.1
  have hD := hPD.2
  exact W.iret (v := r_4) hx hb hr (fun t ht hW => ⟨⟨r_4, (no_helper_3, pa_undoable_5, pa_free_6, aGG), rfl, hp, by rw [ht]; exact hP, va_K.moved hW.alike hK, hD⟩, hS.F ht⟩) hS.2.2 eX9_foot_0.2.2.2.2.2.2.2.2.2.2.2
abbrev wd_X3_reach (cI cC cZ cB cJ : ClassId) (vI tJ jJ mY pG pD pE eO : Nat) (dN bD bJ aI : Int32) (dY : Nat -> Int32) : va_W := [(vI, .inr (3, [.ref tJ, .ref jJ, .ref mY, .ref pG, .ref pD, .ref pE, .ref eO, .int dN, .int bD, .int bJ, .int aI])), (eO, .inl (cI, 5, .inl dY))]
abbrev q_X3_reach (dC : Nat -> ClassId) (dI : Nat -> Nat -> Nat) (cI cC cZ cB cJ : ClassId) (A : Nat -> Prop) (vI tJ jJ mY pG pD pE eO : Nat) (dN bD bJ aI : Int32) (dY : Nat -> Int32) (post : Int32 -> Prop) : Array Value -> State -> Outcome -> State -> Prop := va_Qi (fun (r : Int32) (u : Unit) => post r) (fun u t => gB (dC, dI) (tyl cI cC cZ cB cJ) A (wd_X3_reach cI cC cZ cB cJ vI tJ jJ mY pG pD pE eO dN bD bJ aI dY) t) A
abbrev rm_X3_reach : Room := { frames := 0, cells := 0, slots := 0, locals := 0 }
def bAw (post : Int32 -> Prop) (p0 p1 : Int32) (dY : Nat -> Int32) : Prop := ∀ v_1 : Int32, v_1 = dY (0 : Int32).toNatClampNeg -> ∀ v_2 : Int32, v_2 = v_1 + (p0 * (dY (1 : Int32).toNatClampNeg)) -> post (v_2 + (p1 * (dY (2 : Int32).toNatClampNeg)))
set_option maxHeartbeats 4000000 in
set_option maxRecDepth 100000 in
theorem c_X3_reach (l : Launch) (dC : Nat -> ClassId) (dI : Nat -> Nat -> Nat) (cI cC cZ cB cJ : ClassId) (vI tJ jJ mY pG pD pE eO sz : Nat) (p0 p1 dN bD bJ aI : Int32) (dY : Nat -> Int32) (post : Int32 -> Prop) (hw : bAw post p0 p1 dY) : Met l yX3_reach (gw yX3_reach aZQ 3 (some .int)) rm_X3_reach (va_Pc [.ref vI, .int p0, .int p1] (gPre (dC, dI) (tyl cI cC cZ cB cJ) (wd_X3_reach cI cC cZ cB cJ vI tJ jJ mY pG pD pE eO dN bD bJ aI dY) sz)) (q_X3_reach dC dI cI cC cZ cB cJ (va_A (wd_X3_reach cI cC cZ cB cJ vI tJ jJ mY pG pD pE eO dN bD bJ aI dY) sz) vI tJ jJ mY pG pD pE eO dN bD bJ aI dY post) 0 0 (va_A (wd_X3_reach cI cC cZ cB cJ vI tJ jJ mY pG pD pE eO dN bD bJ aI dY) sz) := by
  refine aBJ (own := RX3) (dC, dI) (tyl cI cC cZ cB cJ) (wd_X3_reach cI cC cZ cB cJ vI tJ jJ mY pG pD pE eO dN bD bJ aI dY) sz [.ref vI, .int p0, .int p1] (fun A => q_X3_reach dC dI cI cC cZ cB cJ A vI tJ jJ mY pG pD pE eO dN bD bJ aI dY post) pn_RX3 rfl (lbz rfl) ?_
  intro p e s m args below meth c A H locs ls C0 hP hD hS hl
  have hl : lv_has ls 3 [(0, .ref vI), (1, .int p0), (2, .int p1)] := hl
  obtain ⟨hx, hb, hr, hml, hown, hts, hlocks, hA, hK, hN, tL, tM, hZL, hTL, hZM, hTM, hZX⟩ := id C0
  have hp := hw
  unfold bAw at hp
  refine lv_aload_n hx hb bAV.1 rfl (lv_at hl 0 rfl) ?_
  refine va_get (D := (dC, dI)) (ci := 3) (v := .ref eO) (C := RX3) (T := TX3) (N := 11) hx hb hts i_X3 hown hK hP 0 rfl rfl 6 (lbz rfl) (hts _ q_225) (fun _ h9 => h9) rfl bAV.2.1 ?_
  refine lv_iconst (v := 0) hx hb bAV.2.2.1 aCi ?_
  refine va_iald hx hb hK hP 1 0 rfl rfl (g_in rfl) bAV.2.2.2.1 ?_
  refine lv_topi (fun v_1 aFJ => ?_)
  have hp := hp v_1 aFJ
  refine lv_iload_n hx hb bAV.2.2.2.2.1 rfl (lv_at hl 1 rfl) ?_
  refine lv_aload_n hx hb bAV.2.2.2.2.2.1 rfl (lv_at hl 0 rfl) ?_
  refine va_get (D := (dC, dI)) (ci := 3) (v := .ref eO) (C := RX3) (T := TX3) (N := 11) hx hb hts i_X3 hown hK hP 0 rfl rfl 6 (lbz rfl) (hts _ q_225) (fun _ h9 => h9) rfl bAV.2.2.2.2.2.2.1 ?_
  refine lv_iconst (v := 1) hx hb bAV.2.2.2.2.2.2.2.1 aDx ?_
  refine va_iald hx hb hK hP 1 0 rfl rfl (g_in rfl) bAV.2.2.2.2.2.2.2.2.1 ?_
  refine lv_imul hx hb bAV.2.2.2.2.2.2.2.2.2.1 ?_
  refine lv_iadd hx hb bAV.2.2.2.2.2.2.2.2.2.2.1 ?_
  refine lv_topi (fun v_2 aGO => ?_)
  have hp := hp v_2 aGO
  refine lv_iload_n hx hb bAV.2.2.2.2.2.2.2.2.2.2.2.1 rfl (lv_at hl 2 rfl) ?_
  refine lv_aload_n hx hb bAV.2.2.2.2.2.2.2.2.2.2.2.2.1 rfl (lv_at hl 0 rfl) ?_
  refine va_get (D := (dC, dI)) (ci := 3) (v := .ref eO) (C := RX3) (T := TX3) (N := 11) hx hb hts i_X3 hown hK hP 0 rfl rfl 6 (lbz rfl) (hts _ q_225) (fun _ h9 => h9) rfl bAV.2.2.2.2.2.2.2.2.2.2.2.2.2.1 ?_
  refine lv_iconst (v := 2) hx hb bAV.2.2.2.2.2.2.2.2.2.2.2.2.2.2.1 ic_2 ?_
  refine va_iald hx hb hK hP 1 0 rfl rfl (g_in rfl) bAV.2.2.2.2.2.2.2.2.2.2.2.2.2.2.2 ?_
  refine lv_imul hx hb eX3_reach_22.1 ?_
  refine lv_iadd hx hb eX3_reach_22.2.1 ?_
  exact W.iret (v := v_2 + (p1 * (dY (2 : Int32).toNatClampNeg))) hx hb hr (fun t ht hW => ⟨⟨v_2 + (p1 * (dY (2 : Int32).toNatClampNeg)), (), rfl, hp, by rw [ht]; exact hP, va_K.moved hW.alike hK, hD⟩, hS.F ht⟩) hS.2.2 eX3_reach_22.2.2
abbrev wd_X3_aside (cI cC cZ cB cJ : ClassId) (vI tJ jJ mY pG pD pE eO : Nat) (dN bD bJ aI : Int32) (uU mX : Nat -> Int32) : va_W := [(vI, .inr (3, [.ref tJ, .ref jJ, .ref mY, .ref pG, .ref pD, .ref pE, .ref eO, .int dN, .int bD, .int bJ, .int aI])), (tJ, .inl (cI, 16, .inl uU)), (pD, .inl (cI, 8, .inl mX))]
abbrev q_X3_aside (dC : Nat -> ClassId) (dI : Nat -> Nat -> Nat) (cI cC cZ cB cJ : ClassId) (A : Nat -> Prop) (vI tJ jJ mY pG pD pE eO : Nat) (dN bD bJ aI : Int32) (uU mX : Nat -> Int32) (post : Int32 -> Prop) : Array Value -> State -> Outcome -> State -> Prop := va_Qi (fun (r : Int32) (u : Unit) => post r) (fun u t => gB (dC, dI) (tyl cI cC cZ cB cJ) A (wd_X3_aside cI cC cZ cB cJ vI tJ jJ mY pG pD pE eO dN bD bJ aI uU mX) t) A
abbrev rm_X3_aside : Room := { frames := 0, cells := 0, slots := 0, locals := 0 }
def wp_X3_aside (post : Int32 -> Prop) (p0 p1 : Int32) (uU mX : Nat -> Int32) : Prop := vp_in p0 16 /\ (∀ v_1 : Int32, v_1 = uU p0.toNatClampNeg -> vp_in p1 8 /\ ((v_1 <= (mX p1.toNatClampNeg) -> vp_in p1 8 /\ (∀ v_2 : Int32, v_2 = mX p1.toNatClampNeg -> vp_in p0 16 /\ (post (v_2 - (uU p0.toNatClampNeg))))) /\ (¬ v_1 <= (mX p1.toNatClampNeg) -> vp_in p0 16 /\ (∀ v_3 : Int32, v_3 = uU p0.toNatClampNeg -> vp_in p1 8 /\ (∀ v_4 : Int32, v_4 = v_3 - (mX p1.toNatClampNeg) -> post v_4)))))
set_option maxHeartbeats 4000000 in
set_option maxRecDepth 100000 in
theorem c_X3_aside (l : Launch) (dC : Nat -> ClassId) (dI : Nat -> Nat -> Nat) (cI cC cZ cB cJ : ClassId) (vI tJ jJ mY pG pD pE eO sz : Nat) (p0 p1 dN bD bJ aI : Int32) (uU mX : Nat -> Int32) (post : Int32 -> Prop) (hw : wp_X3_aside post p0 p1 uU mX) : Met l yX3_aside (gw yX3_aside aNO 3 (some .int)) rm_X3_aside (va_Pc [.ref vI, .int p0, .int p1] (gPre (dC, dI) (tyl cI cC cZ cB cJ) (wd_X3_aside cI cC cZ cB cJ vI tJ jJ mY pG pD pE eO dN bD bJ aI uU mX) sz)) (q_X3_aside dC dI cI cC cZ cB cJ (va_A (wd_X3_aside cI cC cZ cB cJ vI tJ jJ mY pG pD pE eO dN bD bJ aI uU mX) sz) vI tJ jJ mY pG pD pE eO dN bD bJ aI uU mX post) 0 0 (va_A (wd_X3_aside cI cC cZ cB cJ vI tJ jJ mY pG pD pE eO dN bD bJ aI uU mX) sz) := by
  refine aBJ (own := RX3) (dC, dI) (tyl cI cC cZ cB cJ) (wd_X3_aside cI cC cZ cB cJ vI tJ jJ mY pG pD pE eO dN bD bJ aI uU mX) sz [.ref vI, .int p0, .int p1] (fun A => q_X3_aside dC dI cI cC cZ cB cJ A vI tJ jJ mY pG pD pE eO dN bD bJ aI uU mX post) pn_RX3 rfl (lbz rfl) ?_
  intro p e s m args below meth c A H locs ls C0 hP hD hS hl
  have hl : lv_has ls 3 [(0, .ref vI), (1, .int p0), (2, .int p1)] := hl
  obtain ⟨hx, hb, hr, hml, hown, hts, hlocks, hA, hK, hN, tL, tM, hZL, hTL, hZM, hTM, hZX⟩ := id C0
  have hp := hw
  unfold wp_X3_aside at hp
  refine lv_aload_n hx hb bAS.1 rfl (lv_at hl 0 rfl) ?_
  refine va_get (D := (dC, dI)) (ci := 3) (v := .ref tJ) (C := RX3) (T := TX3) (N := 11) hx hb hts i_X3 hown hK hP 0 rfl rfl 0 (lbz rfl) (hts _ q_45) (fun _ h9 => h9) rfl bAS.2.1 ?_
  refine lv_iload_n hx hb bAS.2.2.1 rfl (lv_at hl 1 rfl) ?_
  have hin := hp.1
  have hp := hp.2
  refine va_iald hx hb hK hP 1 0 rfl rfl hin bAS.2.2.2.1 ?_
  refine lv_topi (fun v_1 aFJ => ?_)
  have hp := hp v_1 aFJ
  refine lv_aload_n hx hb bAS.2.2.2.2.1 rfl (lv_at hl 0 rfl) ?_
  refine va_get (D := (dC, dI)) (ci := 3) (v := .ref pD) (C := RX3) (T := TX3) (N := 11) hx hb hts i_X3 hown hK hP 0 rfl rfl 4 (lbz rfl) (hts _ q_53) (fun _ h9 => h9) rfl bAS.2.2.2.2.2.1 ?_
  refine lv_iload_n hx hb bAS.2.2.2.2.2.2.1 rfl (lv_at hl 2 rfl) ?_
  have hin := hp.1
  have hp := hp.2
  refine va_iald hx hb hK hP 2 0 rfl rfl hin bAS.2.2.2.2.2.2.2.1 ?_
  refine lv_icmp_le (tgt := 31) hx hb bAS.2.2.2.2.2.2.2.2.1 (by decide) (fun hc => ?_) (fun hc => ?_)
  · have hp := hp.1 hc
    refine lv_aload_n hx hb bBF.2.2.2.1 rfl (lv_at hl 0 rfl) ?_
    refine va_get (D := (dC, dI)) (ci := 3) (v := .ref pD) (C := RX3) (T := TX3) (N := 11) hx hb hts i_X3 hown hK hP 0 rfl rfl 4 (lbz rfl) (hts _ q_53) (fun _ h9 => h9) rfl bBF.2.2.2.2.1 ?_
    refine lv_iload_n hx hb bBF.2.2.2.2.2.1 rfl (lv_at hl 2 rfl) ?_
    have hin := hp.1
    have hp := hp.2
    refine va_iald hx hb hK hP 2 0 rfl rfl hin bBF.2.2.2.2.2.2.1 ?_
    refine lv_topi (fun v_2 aGO => ?_)
    have hp := hp v_2 aGO
    refine lv_aload_n hx hb bBF.2.2.2.2.2.2.2.1 rfl (lv_at hl 0 rfl) ?_
    refine va_get (D := (dC, dI)) (ci := 3) (v := .ref tJ) (C := RX3) (T := TX3) (N := 11) hx hb hts i_X3 hown hK hP 0 rfl rfl 0 (lbz rfl) (hts _ q_45) (fun _ h9 => h9) rfl bBF.2.2.2.2.2.2.2.2.1 ?_
    refine lv_iload_n hx hb bBF.2.2.2.2.2.2.2.2.2.1 rfl (lv_at hl 1 rfl) ?_
    have hin := hp.1
    have hp := hp.2
    refine va_iald hx hb hK hP 1 0 rfl rfl hin bBF.2.2.2.2.2.2.2.2.2.2.1 ?_
    refine lv_isub hx hb bBF.2.2.2.2.2.2.2.2.2.2.2.1 ?_
    exact W.iret (v := v_2 - (uU p0.toNatClampNeg)) hx hb hr (fun t ht hW => ⟨⟨v_2 - (uU p0.toNatClampNeg), (), rfl, hp, by rw [ht]; exact hP, va_K.moved hW.alike hK, hD⟩, hS.F ht⟩) hS.2.2 bBF.2.2.2.2.2.2.2.2.2.2.2.2
  · have hp := hp.2 hc
    refine lv_aload_n hx hb bAS.2.2.2.2.2.2.2.2.2.1 rfl (lv_at hl 0 rfl) ?_
    refine va_get (D := (dC, dI)) (ci := 3) (v := .ref tJ) (C := RX3) (T := TX3) (N := 11) hx hb hts i_X3 hown hK hP 0 rfl rfl 0 (lbz rfl) (hts _ q_45) (fun _ h9 => h9) rfl bAS.2.2.2.2.2.2.2.2.2.2.1 ?_
    refine lv_iload_n hx hb bAS.2.2.2.2.2.2.2.2.2.2.2.1 rfl (lv_at hl 1 rfl) ?_
    have hin := hp.1
    have hp := hp.2
    refine va_iald hx hb hK hP 1 0 rfl rfl hin bAS.2.2.2.2.2.2.2.2.2.2.2.2.1 ?_
    refine lv_topi (fun v_3 aGW => ?_)
    have hp := hp v_3 aGW
    refine lv_aload_n hx hb bAS.2.2.2.2.2.2.2.2.2.2.2.2.2.1 rfl (lv_at hl 0 rfl) ?_
    refine va_get (D := (dC, dI)) (ci := 3) (v := .ref pD) (C := RX3) (T := TX3) (N := 11) hx hb hts i_X3 hown hK hP 0 rfl rfl 4 (lbz rfl) (hts _ q_53) (fun _ h9 => h9) rfl bAS.2.2.2.2.2.2.2.2.2.2.2.2.2.2.1 ?_
    refine lv_iload_n hx hb bAS.2.2.2.2.2.2.2.2.2.2.2.2.2.2.2 rfl (lv_at hl 2 rfl) ?_
    have hin := hp.1
    have hp := hp.2
    refine va_iald hx hb hK hP 2 0 rfl rfl hin bBF.1 ?_
    refine lv_isub hx hb bBF.2.1 ?_
    refine lv_topi (fun v_4 aHM => ?_)
    have hp := hp v_4 aHM
    refine lv_goto (tgt := 44) hx hb bBF.2.2.1 (by decide) ?_
    exact W.iret (v := v_4) hx hb hr (fun t ht hW => ⟨⟨v_4, (), rfl, hp, by rw [ht]; exact hP, va_K.moved hW.alike hK, hD⟩, hS.F ht⟩) hS.2.2 bBF.2.2.2.2.2.2.2.2.2.2.2.2
abbrev wd_X3_above (cI cC cZ cB cJ : ClassId) (vI tJ jJ mY pG pD pE eO : Nat) (dN bD bJ aI : Int32) (gF oE : Nat -> Int32) : va_W := [(vI, .inr (3, [.ref tJ, .ref jJ, .ref mY, .ref pG, .ref pD, .ref pE, .ref eO, .int dN, .int bD, .int bJ, .int aI])), (jJ, .inl (cI, 16, .inl gF)), (pE, .inl (cI, 8, .inl oE))]
abbrev q_X3_above (dC : Nat -> ClassId) (dI : Nat -> Nat -> Nat) (cI cC cZ cB cJ : ClassId) (A : Nat -> Prop) (vI tJ jJ mY pG pD pE eO : Nat) (dN bD bJ aI : Int32) (gF oE : Nat -> Int32) (post : Int32 -> Prop) : Array Value -> State -> Outcome -> State -> Prop := va_Qi (fun (r : Int32) (u : Unit) => post r) (fun u t => gB (dC, dI) (tyl cI cC cZ cB cJ) A (wd_X3_above cI cC cZ cB cJ vI tJ jJ mY pG pD pE eO dN bD bJ aI gF oE) t) A
abbrev rm_X3_above : Room := { frames := 0, cells := 0, slots := 0, locals := 0 }
def wp_X3_above (post : Int32 -> Prop) (p0 p1 : Int32) (gF oE : Nat -> Int32) : Prop := vp_in p0 16 /\ (∀ v_1 : Int32, v_1 = gF p0.toNatClampNeg -> vp_in p1 8 /\ ((v_1 <= (oE p1.toNatClampNeg) -> post 0) /\ (¬ v_1 <= (oE p1.toNatClampNeg) -> vp_in p0 16 /\ (∀ v_2 : Int32, v_2 = gF p0.toNatClampNeg -> vp_in p1 8 /\ (∀ v_3 : Int32, v_3 = v_2 - (oE p1.toNatClampNeg) -> post v_3)))))
set_option maxHeartbeats 4000000 in
set_option maxRecDepth 100000 in
theorem c_X3_above (l : Launch) (dC : Nat -> ClassId) (dI : Nat -> Nat -> Nat) (cI cC cZ cB cJ : ClassId) (vI tJ jJ mY pG pD pE eO sz : Nat) (p0 p1 dN bD bJ aI : Int32) (gF oE : Nat -> Int32) (post : Int32 -> Prop) (hw : wp_X3_above post p0 p1 gF oE) : Met l yX3_above (gw yX3_above aXV 3 (some .int)) rm_X3_above (va_Pc [.ref vI, .int p0, .int p1] (gPre (dC, dI) (tyl cI cC cZ cB cJ) (wd_X3_above cI cC cZ cB cJ vI tJ jJ mY pG pD pE eO dN bD bJ aI gF oE) sz)) (q_X3_above dC dI cI cC cZ cB cJ (va_A (wd_X3_above cI cC cZ cB cJ vI tJ jJ mY pG pD pE eO dN bD bJ aI gF oE) sz) vI tJ jJ mY pG pD pE eO dN bD bJ aI gF oE post) 0 0 (va_A (wd_X3_above cI cC cZ cB cJ vI tJ jJ mY pG pD pE eO dN bD bJ aI gF oE) sz) := by
  refine aBJ (own := RX3) (dC, dI) (tyl cI cC cZ cB cJ) (wd_X3_above cI cC cZ cB cJ vI tJ jJ mY pG pD pE eO dN bD bJ aI gF oE) sz [.ref vI, .int p0, .int p1] (fun A => q_X3_above dC dI cI cC cZ cB cJ A vI tJ jJ mY pG pD pE eO dN bD bJ aI gF oE post) pn_RX3 rfl (lbz rfl) ?_
  intro p e s m args below meth c A H locs ls C0 hP hD hS hl
  have hl : lv_has ls 3 [(0, .ref vI), (1, .int p0), (2, .int p1)] := hl
  obtain ⟨hx, hb, hr, hml, hown, hts, hlocks, hA, hK, hN, tL, tM, hZL, hTL, hZM, hTM, hZX⟩ := id C0
  have hp := hw
  unfold wp_X3_above at hp
  refine lv_aload_n hx hb bAR.1 rfl (lv_at hl 0 rfl) ?_
  refine va_get (D := (dC, dI)) (ci := 3) (v := .ref jJ) (C := RX3) (T := TX3) (N := 11) hx hb hts i_X3 hown hK hP 0 rfl rfl 1 (lbz rfl) (hts _ q_46) (fun _ h9 => h9) rfl bAR.2.1 ?_
  refine lv_iload_n hx hb bAR.2.2.1 rfl (lv_at hl 1 rfl) ?_
  have hin := hp.1
  have hp := hp.2
  refine va_iald hx hb hK hP 1 0 rfl rfl hin bAR.2.2.2.1 ?_
  refine lv_topi (fun v_1 aFJ => ?_)
  have hp := hp v_1 aFJ
  refine lv_aload_n hx hb bAR.2.2.2.2.1 rfl (lv_at hl 0 rfl) ?_
  refine va_get (D := (dC, dI)) (ci := 3) (v := .ref pE) (C := RX3) (T := TX3) (N := 11) hx hb hts i_X3 hown hK hP 0 rfl rfl 5 (lbz rfl) (hts _ q_54) (fun _ h9 => h9) rfl bAR.2.2.2.2.2.1 ?_
  refine lv_iload_n hx hb bAR.2.2.2.2.2.2.1 rfl (lv_at hl 2 rfl) ?_
  have hin := hp.1
  have hp := hp.2
  refine va_iald hx hb hK hP 2 0 rfl rfl hin bAR.2.2.2.2.2.2.2.1 ?_
  refine lv_icmp_le (tgt := 31) hx hb bAR.2.2.2.2.2.2.2.2.1 (by decide) (fun hc => ?_) (fun hc => ?_)
  · have hp := hp.1 hc
    refine lv_iconst (v := 0) hx hb eX3_above_26.2.2.2.1 aCi ?_
    exact W.iret (v := 0) hx hb hr (fun t ht hW => ⟨⟨0, (), rfl, hp, by rw [ht]; exact hP, va_K.moved hW.alike hK, hD⟩, hS.F ht⟩) hS.2.2 eX3_above_26.2.2.2.2
  · have hp := hp.2 hc
    refine lv_aload_n hx hb bAR.2.2.2.2.2.2.2.2.2.1 rfl (lv_at hl 0 rfl) ?_
    refine va_get (D := (dC, dI)) (ci := 3) (v := .ref jJ) (C := RX3) (T := TX3) (N := 11) hx hb hts i_X3 hown hK hP 0 rfl rfl 1 (lbz rfl) (hts _ q_46) (fun _ h9 => h9) rfl bAR.2.2.2.2.2.2.2.2.2.2.1 ?_
    refine lv_iload_n hx hb bAR.2.2.2.2.2.2.2.2.2.2.2.1 rfl (lv_at hl 1 rfl) ?_
    have hin := hp.1
    have hp := hp.2
    refine va_iald hx hb hK hP 1 0 rfl rfl hin bAR.2.2.2.2.2.2.2.2.2.2.2.2.1 ?_
    refine lv_topi (fun v_2 aGO => ?_)
    have hp := hp v_2 aGO
    refine lv_aload_n hx hb bAR.2.2.2.2.2.2.2.2.2.2.2.2.2.1 rfl (lv_at hl 0 rfl) ?_
    refine va_get (D := (dC, dI)) (ci := 3) (v := .ref pE) (C := RX3) (T := TX3) (N := 11) hx hb hts i_X3 hown hK hP 0 rfl rfl 5 (lbz rfl) (hts _ q_54) (fun _ h9 => h9) rfl bAR.2.2.2.2.2.2.2.2.2.2.2.2.2.2.1 ?_
    refine lv_iload_n hx hb bAR.2.2.2.2.2.2.2.2.2.2.2.2.2.2.2 rfl (lv_at hl 2 rfl) ?_
    have hin := hp.1
    have hp := hp.2
    refine va_iald hx hb hK hP 2 0 rfl rfl hin eX3_above_26.1 ?_
    refine lv_isub hx hb eX3_above_26.2.1 ?_
    refine lv_topi (fun v_3 aGW => ?_)
    have hp := hp v_3 aGW
    refine lv_goto (tgt := 32) hx hb eX3_above_26.2.2.1 (by decide) ?_
    exact W.iret (v := v_3) hx hb hr (fun t ht hW => ⟨⟨v_3, (), rfl, hp, by rw [ht]; exact hP, va_K.moved hW.alike hK, hD⟩, hS.F ht⟩) hS.2.2 eX3_above_26.2.2.2.2
abbrev aY3 (cI cC cZ cB cJ : ClassId) (vI tJ jJ mY pG pD pE eO : Nat) (dN bD bJ aI : Int32) (uU gF mX oE : Nat -> Int32) : va_W := [(vI, .inr (3, [.ref tJ, .ref jJ, .ref mY, .ref pG, .ref pD, .ref pE, .ref eO, .int dN, .int bD, .int bJ, .int aI])), (tJ, .inl (cI, 16, .inl uU)), (jJ, .inl (cI, 16, .inl gF)), (pD, .inl (cI, 8, .inl mX)), (pE, .inl (cI, 8, .inl oE))]
abbrev q_X3_isWithin (dC : Nat -> ClassId) (dI : Nat -> Nat -> Nat) (cI cC cZ cB cJ : ClassId) (A : Nat -> Prop) (vI tJ jJ mY pG pD pE eO : Nat) (dN bD bJ aI : Int32) (uU gF mX oE : Nat -> Int32) (post : Int32 -> Prop) : Array Value -> State -> Outcome -> State -> Prop := va_Qi (fun (r : Int32) (u : Unit) => post r) (fun u t => gB (dC, dI) (tyl cI cC cZ cB cJ) A (aY3 cI cC cZ cB cJ vI tJ jJ mY pG pD pE eO dN bD bJ aI uU gF mX oE) t) A
abbrev rm_X3_isWithin : Room := { frames := 1, cells := 0, slots := 0, locals := 22 }
def bBv (post : Int32 -> Prop) (p0 p1 p2 : Int32) (uU gF mX oE : Nat -> Int32) : Prop := wp_X3_aside (fun r_1 => wp_X3_above (fun r_2 => ∀ v_3 : Int32, v_3 = r_1 * r_1 -> ∀ v_4 : Int32, v_4 = v_3 + (r_2 * r_2) -> ((p2 * p2) < v_4 -> post 0) /\ (¬ (p2 * p2) < v_4 -> post 1)) p0 p1 gF oE) p0 p1 uU mX
set_option maxHeartbeats 4000000 in
set_option maxRecDepth 100000 in
theorem c_X3_isWithin (l : Launch) (dC : Nat -> ClassId) (dI : Nat -> Nat -> Nat) (cI cC cZ cB cJ : ClassId) (vI tJ jJ mY pG pD pE eO sz : Nat) (p0 p1 p2 dN bD bJ aI : Int32) (uU gF mX oE : Nat -> Int32) (post : Int32 -> Prop) (hw : bBv post p0 p1 p2 uU gF mX oE) : Met l yX3_isWithin (gw yX3_isWithin aJO 6 (some .boolean)) rm_X3_isWithin (va_Pc [.ref vI, .int p0, .int p1, .int p2] (gPre (dC, dI) (tyl cI cC cZ cB cJ) (aY3 cI cC cZ cB cJ vI tJ jJ mY pG pD pE eO dN bD bJ aI uU gF mX oE) sz)) (q_X3_isWithin dC dI cI cC cZ cB cJ (va_A (aY3 cI cC cZ cB cJ vI tJ jJ mY pG pD pE eO dN bD bJ aI uU gF mX oE) sz) vI tJ jJ mY pG pD pE eO dN bD bJ aI uU gF mX oE post) 0 0 (va_A (aY3 cI cC cZ cB cJ vI tJ jJ mY pG pD pE eO dN bD bJ aI uU gF mX oE) sz) := by
  refine aBJ (own := RX3) (dC, dI) (tyl cI cC cZ cB cJ) (aY3 cI cC cZ cB cJ vI tJ jJ mY pG pD pE eO dN bD bJ aI uU gF mX oE) sz [.ref vI, .int p0, .int p1, .int p2] (fun A => q_X3_isWithin dC dI cI cC cZ cB cJ A vI tJ jJ mY pG pD pE eO dN bD bJ aI uU gF mX oE post) pn_RX3 rfl (lbz rfl) ?_
  intro p e s m args below meth c A H locs ls C0 hP hD hS hl
  have hl : lv_has ls 6 [(0, .ref vI), (1, .int p0), (2, .int p1), (3, .int p2)] := hl
  obtain ⟨hx, hb, hr, hml, hown, hts, hlocks, hA, hK, hN, tL, tM, hZL, hTL, hZM, hTM, hZX⟩ := id C0
  have hp := hw
  unfold bBv at hp
  refine lv_aload_n hx hb aQj.1 rfl (lv_at hl 0 rfl) ?_
  refine lv_iload_n hx hb aQj.2.1 rfl (lv_at hl 1 rfl) ?_
  refine lv_iload_n hx hb aQj.2.2.1 rfl (lv_at hl 2 rfl) ?_
  have hm := mgk (wc := (wd_X3_aside cI cC cZ cB cJ vI tJ jJ mY pG pD pE eO dN bD bJ aI uU mX)) hP mk_47 5 rfl rfl rfl
  refine yW hP hD hS hA (yS mk_47) (aAi mk_47) hm.1 hm.2 (aAk _) (zW _) (zF (As := [.int p0, .int p1]) (rest := []) C0 hP hD hS (yS mk_47) hm.1 (aAl _) 0 3 rfl rfl (c_X3_aside l dC dI cI cC cZ cB cJ vI tJ jJ mY pG pD pE eO H.size p0 p1 dN bD bJ aI uU mX _ hp) q_267 q_270 q_268 q_269 q_48 h_X3_aside rfl rfl ⟨lbz rfl, lbz rfl⟩ rfl rfl hl.1 rfl (lv_room (lbz rfl)) aQj.2.2.2.1 ⟨Nat.zero_le _, Nat.zero_le _⟩) (fun r_1 u H locs hp hP hD hS => ?_)
  have hPD := PDm (ws' := (aY3 cI cC cZ cB cJ vI tJ jJ mY pG pD pE eO dN bD bJ aI uU gF mX oE)) hP hD 5 rfl rfl rfl
  have hP := hPD.1
  have hD := hPD.2
  refine lv_istore (lv' := [(4, .int r_1), (0, .ref vI), (1, .int p0), (2, .int p1), (3, .int p2)]) hx hb aQj.2.2.2.2.1 hl (by decide) rfl (fun ls hl => ?_)
  refine lv_aload_n hx hb aQj.2.2.2.2.2.1 rfl (lv_at hl 1 rfl) ?_
  refine lv_iload_n hx hb aQj.2.2.2.2.2.2.1 rfl (lv_at hl 2 rfl) ?_
  refine lv_iload_n hx hb aQj.2.2.2.2.2.2.2.1 rfl (lv_at hl 3 rfl) ?_
  have hm := mgk (wc := (wd_X3_above cI cC cZ cB cJ vI tJ jJ mY pG pD pE eO dN bD bJ aI gF oE)) hP mk_48 5 rfl rfl rfl
  refine yW hP hD hS hA (yS mk_48) (aAi mk_48) hm.1 hm.2 (aAk _) (zW _) (zF (As := [.int p0, .int p1]) (rest := []) C0 hP hD hS (yS mk_48) hm.1 (aAl _) 0 3 rfl rfl (c_X3_above l dC dI cI cC cZ cB cJ vI tJ jJ mY pG pD pE eO H.size p0 p1 dN bD bJ aI gF oE _ hp) q_271 q_274 q_272 q_273 q_48 h_X3_above rfl rfl ⟨lbz rfl, lbz rfl⟩ rfl rfl hl.1 rfl (lv_room (lbz rfl)) aQj.2.2.2.2.2.2.2.2.1 ⟨Nat.zero_le _, Nat.zero_le _⟩) (fun r_2 u H locs hp hP hD hS => ?_)
  have hPD := PDm (ws' := (aY3 cI cC cZ cB cJ vI tJ jJ mY pG pD pE eO dN bD bJ aI uU gF mX oE)) hP hD 5 rfl rfl rfl
  have hP := hPD.1
  have hD := hPD.2
  refine lv_istore (lv' := [(5, .int r_2), (4, .int r_1), (0, .ref vI), (1, .int p0), (2, .int p1), (3, .int p2)]) hx hb aQj.2.2.2.2.2.2.2.2.2.1 hl (by decide) rfl (fun ls hl => ?_)
  refine lv_iload hx hb aQj.2.2.2.2.2.2.2.2.2.2.1 (lv_at hl 1 rfl) ?_
  refine lv_iload hx hb aQj.2.2.2.2.2.2.2.2.2.2.2.1 (lv_at hl 1 rfl) ?_
  refine lv_imul hx hb aQj.2.2.2.2.2.2.2.2.2.2.2.2.1 ?_
  refine lv_topi (fun v_3 aGW => ?_)
  have hp := hp v_3 aGW
  refine lv_iload hx hb aQj.2.2.2.2.2.2.2.2.2.2.2.2.2.1 (lv_at hl 0 rfl) ?_
  refine lv_iload hx hb aQj.2.2.2.2.2.2.2.2.2.2.2.2.2.2.1 (lv_at hl 0 rfl) ?_
  refine lv_imul hx hb aQj.2.2.2.2.2.2.2.2.2.2.2.2.2.2.2 ?_
  refine lv_iadd hx hb bCA.1 ?_
  refine lv_topi (fun v_4 aHM => ?_)
  have hp := hp v_4 aHM
  refine lv_iload_n hx hb bCA.2.1 rfl (lv_at hl 5 rfl) ?_
  refine lv_iload_n hx hb bCA.2.2.1 rfl (lv_at hl 5 rfl) ?_
  refine lv_imul hx hb bCA.2.2.2.1 ?_
  refine lv_icmp_gt (tgt := 37) hx hb bCA.2.2.2.2.1 (by decide) (fun hc => ?_) (fun hc => ?_)
  · have hp := hp.1 hc
    refine lv_iconst (v := 0) hx hb bCA.2.2.2.2.2.2.2.1 aCi ?_
    exact W.zret (v := 0) hx hb hr rfl (fun t ht hW => ⟨⟨0, (), rfl, hp, by rw [ht]; exact hP, va_K.moved hW.alike hK, hD⟩, hS.F ht⟩) hS.2.2 bCA.2.2.2.2.2.2.2.2
  · have hp := hp.2 hc
    refine lv_iconst (v := 1) hx hb bCA.2.2.2.2.2.1 aDx ?_
    refine lv_goto (tgt := 38) hx hb bCA.2.2.2.2.2.2.1 (by decide) ?_
    exact W.zret (v := 1) hx hb hr rfl (fun t ht hW => ⟨⟨1, (), rfl, hp, by rw [ht]; exact hP, va_K.moved hW.alike hK, hD⟩, hS.F ht⟩) hS.2.2 bCA.2.2.2.2.2.2.2.2
abbrev aBh (cI cC cZ cB cJ : ClassId) : va_W := []
abbrev q_J6_bitCount_0f7a4 (dC : Nat -> ClassId) (dI : Nat -> Nat -> Nat) (cI cC cZ cB cJ : ClassId) (A : Nat -> Prop) (post : Int32 -> Prop) : Array Value -> State -> Outcome -> State -> Prop := va_Qi (fun (r : Int32) (u : Unit) => post r) (fun u t => gB (dC, dI) (tyl cI cC cZ cB cJ) A (aBh cI cC cZ cB cJ) t) A
abbrev rm_J6_bitCount_0f7a4 : Room := { frames := 0, cells := 0, slots := 0, locals := 0 }
def aBb (post : Int32 -> Prop) (p0 : Int32) : Prop := ∀ v_1 : Int32, v_1 = (p0.toUInt32 >>> ((1 : Int32).toUInt32 &&& Int32.toUInt32 31)).toInt32 -> ∀ v_2 : Int32, v_2 = p0 - (v_1 &&& 1431655765) -> ∀ v_3 : Int32, v_3 = v_2 &&& 858993459 -> ∀ v_4 : Int32, v_4 = (v_2.toUInt32 >>> ((2 : Int32).toUInt32 &&& Int32.toUInt32 31)).toInt32 -> ∀ v_5 : Int32, v_5 = v_3 + (v_4 &&& 858993459) -> ∀ v_6 : Int32, v_6 = v_5 + ((v_5.toUInt32 >>> ((4 : Int32).toUInt32 &&& Int32.toUInt32 31)).toInt32) -> ∀ v_7 : Int32, v_7 = v_6 &&& 252645135 -> ∀ v_8 : Int32, v_8 = v_7 + ((v_7.toUInt32 >>> ((8 : Int32).toUInt32 &&& Int32.toUInt32 31)).toInt32) -> ∀ v_9 : Int32, v_9 = v_8 + ((v_8.toUInt32 >>> ((16 : Int32).toUInt32 &&& Int32.toUInt32 31)).toInt32) -> post (v_9 &&& 63)
set_option maxHeartbeats 4000000 in
set_option maxRecDepth 100000 in
theorem aBv (l : Launch) (dC : Nat -> ClassId) (dI : Nat -> Nat -> Nat) (cI cC cZ cB cJ : ClassId) (sz : Nat) (p0 : Int32) (post : Int32 -> Prop) (hw : aBb post p0) : Met l aPX (gw aPX aCj 1 (some .int)) rm_J6_bitCount_0f7a4 (va_Pc [.int p0] (gPre (dC, dI) (tyl cI cC cZ cB cJ) (aBh cI cC cZ cB cJ) sz)) (q_J6_bitCount_0f7a4 dC dI cI cC cZ cB cJ (va_A (aBh cI cC cZ cB cJ) sz) post) 0 0 (va_A (aBh cI cC cZ cB cJ) sz) := by
  refine aBJ (own := RJ6) (dC, dI) (tyl cI cC cZ cB cJ) (aBh cI cC cZ cB cJ) sz [.int p0] (fun A => q_J6_bitCount_0f7a4 dC dI cI cC cZ cB cJ A post) (by decide) rfl (lbz rfl) ?_
  intro p e s m args below meth c A H locs ls C0 hP hD hS hl
  have hl : lv_has ls 1 [(0, .int p0)] := hl
  obtain ⟨hx, hb, hr, hml, hown, hts, hlocks, hA, hK, hN, tL, tM, hZL, hTL, hZM, hTM, hZX⟩ := id C0
  have hp := hw
  unfold aBb at hp
  refine lv_iload_n hx hb aIE.1 rfl (lv_at hl 0 rfl) ?_
  refine lv_iload_n hx hb aIE.2.1 rfl (lv_at hl 0 rfl) ?_
  refine lv_iconst (v := 1) hx hb aIE.2.2.1 aDx ?_
  refine lv_iushr hx hb aIE.2.2.2.1 rfl ?_
  refine lv_topi (fun v_1 aFJ => ?_)
  have hp := hp v_1 aFJ
  refine lv_ldcw (v := 1431655765) hx hb hown (hts _ q_275) aIE.2.2.2.2.1 ?_
  refine lv_iand hx hb aIE.2.2.2.2.2.1 ?_
  refine lv_isub hx hb aIE.2.2.2.2.2.2.1 ?_
  refine lv_topi (fun v_2 aGO => ?_)
  have hp := hp v_2 aGO
  refine lv_istore_n (lv' := [(0, .int v_2)]) hx hb aIE.2.2.2.2.2.2.2.1 rfl hl (by decide) rfl (fun ls hl => ?_)
  refine lv_iload_n hx hb aIE.2.2.2.2.2.2.2.2.1 rfl (lv_at hl 0 rfl) ?_
  refine lv_ldcw (v := 858993459) hx hb hown (hts _ q_276) aIE.2.2.2.2.2.2.2.2.2.1 ?_
  refine lv_iand hx hb aIE.2.2.2.2.2.2.2.2.2.2.1 ?_
  refine lv_topi (fun v_3 aGW => ?_)
  have hp := hp v_3 aGW
  refine lv_iload_n hx hb aIE.2.2.2.2.2.2.2.2.2.2.2.1 rfl (lv_at hl 0 rfl) ?_
  refine lv_iconst (v := 2) hx hb aIE.2.2.2.2.2.2.2.2.2.2.2.2.1 ic_2 ?_
  refine lv_iushr hx hb aIE.2.2.2.2.2.2.2.2.2.2.2.2.2.1 rfl ?_
  refine lv_topi (fun v_4 aHM => ?_)
  have hp := hp v_4 aHM
  refine lv_ldcw (v := 858993459) hx hb hown (hts _ q_276) aIE.2.2.2.2.2.2.2.2.2.2.2.2.2.2.1 ?_
  refine lv_iand hx hb aIE.2.2.2.2.2.2.2.2.2.2.2.2.2.2.2 ?_
  refine lv_iadd hx hb aHl.1 ?_
  refine lv_topi (fun v_5 aJD => ?_)
  have hp := hp v_5 aJD
  refine lv_istore_n (lv' := [(0, .int v_5)]) hx hb aHl.2.1 rfl hl (by decide) rfl (fun ls hl => ?_)
  refine lv_iload_n hx hb aHl.2.2.1 rfl (lv_at hl 0 rfl) ?_
  refine lv_iload_n hx hb aHl.2.2.2.1 rfl (lv_at hl 0 rfl) ?_
  refine lv_iconst (v := 4) hx hb aHl.2.2.2.2.1 ic_4 ?_
  refine lv_iushr hx hb aHl.2.2.2.2.2.1 rfl ?_
  refine lv_iadd hx hb aHl.2.2.2.2.2.2.1 ?_
  refine lv_topi (fun v_6 ev_6 => ?_)
  have hp := hp v_6 ev_6
  refine lv_ldcw (v := 252645135) hx hb hown (hts _ q_277) aHl.2.2.2.2.2.2.2.1 ?_
  refine lv_iand hx hb aHl.2.2.2.2.2.2.2.2.1 ?_
  refine lv_topi (fun v_7 ev_7 => ?_)
  have hp := hp v_7 ev_7
  refine lv_istore_n (lv' := [(0, .int v_7)]) hx hb aHl.2.2.2.2.2.2.2.2.2.1 rfl hl (by decide) rfl (fun ls hl => ?_)
  refine lv_iload_n hx hb aHl.2.2.2.2.2.2.2.2.2.2.1 rfl (lv_at hl 0 rfl) ?_
  refine lv_iload_n hx hb aHl.2.2.2.2.2.2.2.2.2.2.2.1 rfl (lv_at hl 0 rfl) ?_
  refine lv_bipush (v := 8) hx hb aHl.2.2.2.2.2.2.2.2.2.2.2.2.1 bp_8 ?_
  refine lv_iushr hx hb aHl.2.2.2.2.2.2.2.2.2.2.2.2.2.1 rfl ?_
  refine lv_iadd hx hb aHl.2.2.2.2.2.2.2.2.2.2.2.2.2.2.1 ?_
  refine lv_topi (fun v_8 ev_8 => ?_)
  have hp := hp v_8 ev_8
  refine lv_istore_n (lv' := [(0, .int v_8)]) hx hb aHl.2.2.2.2.2.2.2.2.2.2.2.2.2.2.2 rfl hl (by decide) rfl (fun ls hl => ?_)
  refine lv_iload_n hx hb aPG.1 rfl (lv_at hl 0 rfl) ?_
  refine lv_iload_n hx hb aPG.2.1 rfl (lv_at hl 0 rfl) ?_
  refine lv_bipush (v := 16) hx hb aPG.2.2.1 bp_16 ?_
  refine lv_iushr hx hb aPG.2.2.2.1 rfl ?_
  refine lv_iadd hx hb aPG.2.2.2.2.1 ?_
  refine lv_topi (fun v_9 ev_9 => ?_)
  have hp := hp v_9 ev_9
  refine lv_istore_n (lv' := [(0, .int v_9)]) hx hb aPG.2.2.2.2.2.1 rfl hl (by decide) rfl (fun ls hl => ?_)
  refine lv_iload_n hx hb aPG.2.2.2.2.2.2.1 rfl (lv_at hl 0 rfl) ?_
  refine lv_bipush (v := 63) hx hb aPG.2.2.2.2.2.2.2.1 bp_63 ?_
  refine lv_iand hx hb aPG.2.2.2.2.2.2.2.2.1 ?_
  exact W.iret (v := v_9 &&& 63) hx hb hr (fun t ht hW => ⟨⟨v_9 &&& 63, (), rfl, hp, by rw [ht]; exact hP, va_K.moved hW.alike hK, hD⟩, hS.F ht⟩) hS.2.2 aPG.2.2.2.2.2.2.2.2.2
abbrev aLh (cI cC cZ cB cJ : ClassId) (vI tJ jJ mY pG pD pE eO : Nat) (dN bD bJ aI : Int32) (pL : Nat -> Int32) : va_W := [(vI, .inr (3, [.ref tJ, .ref jJ, .ref mY, .ref pG, .ref pD, .ref pE, .ref eO, .int dN, .int bD, .int bJ, .int aI])), (mY, .inl (cI, 16, .inl pL))]
abbrev q_X3_worthOf (dC : Nat -> ClassId) (dI : Nat -> Nat -> Nat) (cI cC cZ cB cJ : ClassId) (A : Nat -> Prop) (vI tJ jJ mY pG pD pE eO : Nat) (dN bD bJ aI : Int32) (pL : Nat -> Int32) (post : Int32 -> Prop) : Array Value -> State -> Outcome -> State -> Prop := va_Qi (fun (r : Int32) (u : Unit) => post r) (fun u t => gB (dC, dI) (tyl cI cC cZ cB cJ) A (aLh cI cC cZ cB cJ vI tJ jJ mY pG pD pE eO dN bD bJ aI pL) t) A
abbrev rm_X3_worthOf : Room := { frames := 0, cells := 0, slots := 0, locals := 0 }
section S_X3_worthOf
variable {p : Program} {l : Launch} {e : Env} {s : State} {m : MethodId} {args : Array Value} {below : List Frame} {meth : Method} {c : Code} {dC : Nat -> ClassId} {dI : Nat -> Nat -> Nat} {cI cC cZ cB cJ : ClassId} {A : Nat -> Prop} {vI tJ jJ mY pG pD pE eO : Nat} {dN bD bJ aI : Int32} {pL : Nat -> Int32} {post : Int32 -> Prop}
def ws_X3_worthOf_54 (post : Int32 -> Prop) (K5 : Int32 -> Int32 -> Int32 -> Int32 -> Prop) (dN : Int32) (pL : Nat -> Int32) (x1 x2 x3 x4 : Int32) : Prop := ∀ v_2 : Int32, v_2 = x4 + 1 -> K5 x1 x2 x3 v_2
set_option maxHeartbeats 4000000 in
set_option maxRecDepth 100000 in
theorem ks_X3_worthOf_54 (C0 : gc aFl (some .int) 5 RX3 (dC, dI) (tyl cI cC cZ cB cJ) A p s m args meth c) {K5 : Int32 -> Int32 -> Int32 -> Int32 -> Prop} (hK5 : ∀ (x1 : Int32) (x2 : Int32) (x3 : Int32) (x4 : Int32) (H : Heap) (locs : List Loc) (ls : Array Slot), K5 x1 x2 x3 x4 -> va_P (dC, dI) classes (aLh cI cC cZ cB cJ vI tJ jJ mY pG pD pE eO dN bD bJ aI pL) H -> va_D A (aLh cI cC cZ cB cJ vI tJ jJ mY pG pD pE eO dN bD bJ aI pL) -> va_S A s.heap H locs -> lv_has ls 5 [(0, .ref vI), (1, .int x1), (2, .int x2), (3, .int x3), (4, .int x4)] -> W p l e rm_X3_worthOf s m args below meth c H locs 0 0 (MQ below (q_X3_worthOf dC dI cI cC cZ cB cJ A vI tJ jJ mY pG pD pE eO dN bD bJ aI pL post) args s 0 0 A) (F0 m 5 ls [])) : ∀ (x1 x2 x3 x4 : Int32) (H : Heap) (locs : List Loc) (ls : Array Slot), (ws_X3_worthOf_54 post K5 dN pL) x1 x2 x3 x4 -> va_P (dC, dI) classes (aLh cI cC cZ cB cJ vI tJ jJ mY pG pD pE eO dN bD bJ aI pL) H -> va_D A (aLh cI cC cZ cB cJ vI tJ jJ mY pG pD pE eO dN bD bJ aI pL) -> va_S A s.heap H locs -> lv_has ls 5 [(0, .ref vI), (1, .int x1), (2, .int x2), (3, .int x3), (4, .int x4)] -> W p l e rm_X3_worthOf s m args below meth c H locs 0 0 (MQ below (q_X3_worthOf dC dI cI cC cZ cB cJ A vI tJ jJ mY pG pD pE eO dN bD bJ aI pL post) args s 0 0 A) (F0 m 54 ls []) := by
  obtain ⟨hx, hb, hr, hml, hown, hts, hlocks, hA, hK, hN, tL, tM, hZL, hTL, hZM, hTM, hZX⟩ := id C0
  intro x1 x2 x3 x4 H locs ls hp hP hD hS hl
  unfold ws_X3_worthOf_54 at hp
  obtain ⟨v_2, aGO⟩ : ∃ y : Int32, y = x4 + 1 := ⟨_, rfl⟩
  refine lv_iinc (v := v_2) (lv' := [(4, .int v_2), (0, .ref vI), (1, .int x1), (2, .int x2), (3, .int x3)]) hx hb eX3_worthOf_52.2.2.1 hl (k := 4) rfl (by rw [aGO]; rfl) (by decide) rfl (fun ls hl => ?_)
  have hp := hp v_2 aGO
  refine lv_goto (tgt := 5) hx hb eX3_worthOf_52.2.2.2.1 (by decide) ?_
  exact hK5 x1 x2 x3 v_2 H locs ls hp hP hD hS (lv_sub hl [1, 2, 3, 4, 0] rfl)
def ws_X3_worthOf_52 (post : Int32 -> Prop) (K5 : Int32 -> Int32 -> Int32 -> Int32 -> Prop) (dN : Int32) (pL : Nat -> Int32) (x1 x2 x4 k0 k1 : Int32) : Prop := ∀ v_5 : Int32, v_5 = k0 + k1 -> ws_X3_worthOf_54 post K5 dN pL x1 x2 v_5 x4
set_option maxHeartbeats 4000000 in
set_option maxRecDepth 100000 in
theorem ks_X3_worthOf_52 (C0 : gc aFl (some .int) 5 RX3 (dC, dI) (tyl cI cC cZ cB cJ) A p s m args meth c) {K5 : Int32 -> Int32 -> Int32 -> Int32 -> Prop} (hK5 : ∀ (x1 : Int32) (x2 : Int32) (x3 : Int32) (x4 : Int32) (H : Heap) (locs : List Loc) (ls : Array Slot), K5 x1 x2 x3 x4 -> va_P (dC, dI) classes (aLh cI cC cZ cB cJ vI tJ jJ mY pG pD pE eO dN bD bJ aI pL) H -> va_D A (aLh cI cC cZ cB cJ vI tJ jJ mY pG pD pE eO dN bD bJ aI pL) -> va_S A s.heap H locs -> lv_has ls 5 [(0, .ref vI), (1, .int x1), (2, .int x2), (3, .int x3), (4, .int x4)] -> W p l e rm_X3_worthOf s m args below meth c H locs 0 0 (MQ below (q_X3_worthOf dC dI cI cC cZ cB cJ A vI tJ jJ mY pG pD pE eO dN bD bJ aI pL post) args s 0 0 A) (F0 m 5 ls [])) : ∀ (x1 x2 x4 k0 k1 : Int32) (H : Heap) (locs : List Loc) (ls : Array Slot), (ws_X3_worthOf_52 post K5 dN pL) x1 x2 x4 k0 k1 -> va_P (dC, dI) classes (aLh cI cC cZ cB cJ vI tJ jJ mY pG pD pE eO dN bD bJ aI pL) H -> va_D A (aLh cI cC cZ cB cJ vI tJ jJ mY pG pD pE eO dN bD bJ aI pL) -> va_S A s.heap H locs -> lv_has ls 5 [(0, .ref vI), (1, .int x1), (2, .int x2), (4, .int x4)] -> W p l e rm_X3_worthOf s m args below meth c H locs 0 0 (MQ below (q_X3_worthOf dC dI cI cC cZ cB cJ A vI tJ jJ mY pG pD pE eO dN bD bJ aI pL post) args s 0 0 A) (F0 m 52 ls [.int k1, .int k0]) := by
  obtain ⟨hx, hb, hr, hml, hown, hts, hlocks, hA, hK, hN, tL, tM, hZL, hTL, hZM, hTM, hZX⟩ := id C0
  intro x1 x2 x4 k0 k1 H locs ls hp hP hD hS hl
  unfold ws_X3_worthOf_52 at hp
  refine lv_iadd hx hb eX3_worthOf_52.1 ?_
  refine lv_topi (fun v_5 aJD => ?_)
  have hp := hp v_5 aJD
  refine lv_istore_n (lv' := [(3, .int v_5), (0, .ref vI), (1, .int x1), (2, .int x2), (4, .int x4)]) hx hb eX3_worthOf_52.2.1 rfl hl (by decide) rfl (fun ls hl => ?_)
  exact ks_X3_worthOf_54 C0 hK5 x1 x2 v_5 x4 H locs ls hp hP hD hS (lv_sub hl [1, 2, 3, 0, 4] rfl)
def ws_X3_worthOf_5 (post : Int32 -> Prop) (next : Int32 -> Int32 -> Int32 -> Int32 -> Prop) (dN : Int32) (pL : Nat -> Int32) (x1 x2 x3 x4 : Int32) : Prop := (dN <= x4 -> post x3) /\ (¬ dN <= x4 -> ∀ v_1 : Int32, v_1 = x1 >>> (x4 &&& 31) -> ((v_1 &&& 1) = 0 -> ws_X3_worthOf_54 post next dN pL x1 x2 x3 x4) /\ (¬ (v_1 &&& 1) = 0 -> ∀ v_3 : Int32, v_3 = x2 >>> (x4 &&& 31) -> ((v_3 &&& 1) = 0 -> vp_in x4 16 /\ (∀ v_4 : Int32, v_4 = pL x4.toNatClampNeg -> ws_X3_worthOf_52 post next dN pL x1 x2 x4 x3 v_4)) /\ (¬ (v_3 &&& 1) = 0 -> vp_in x4 16 /\ (∀ v_6 : Int32, v_6 = pL x4.toNatClampNeg -> ∀ v_7 : Int32, v_7 = v_6 / 2 -> ws_X3_worthOf_52 post next dN pL x1 x2 x4 x3 v_7))))
noncomputable def wb_X3_worthOf_5 (post : Int32 -> Prop) (dN : Int32) (pL : Nat -> Int32) : Nat -> Int32 -> Int32 -> Int32 -> Int32 -> Prop := fun n => Nat.rec (motive := fun _ => Int32 -> Int32 -> Int32 -> Int32 -> Prop) (fun _ _ _ _ => False) (fun _ ih => ws_X3_worthOf_5 post ih dN pL) n
set_option maxHeartbeats 4000000 in
set_option maxRecDepth 100000 in
theorem ks_X3_worthOf_5 (C0 : gc aFl (some .int) 5 RX3 (dC, dI) (tyl cI cC cZ cB cJ) A p s m args meth c) {next : Int32 -> Int32 -> Int32 -> Int32 -> Prop} (hKn : ∀ (x1 : Int32) (x2 : Int32) (x3 : Int32) (x4 : Int32) (H : Heap) (locs : List Loc) (ls : Array Slot), next x1 x2 x3 x4 -> va_P (dC, dI) classes (aLh cI cC cZ cB cJ vI tJ jJ mY pG pD pE eO dN bD bJ aI pL) H -> va_D A (aLh cI cC cZ cB cJ vI tJ jJ mY pG pD pE eO dN bD bJ aI pL) -> va_S A s.heap H locs -> lv_has ls 5 [(0, .ref vI), (1, .int x1), (2, .int x2), (3, .int x3), (4, .int x4)] -> W p l e rm_X3_worthOf s m args below meth c H locs 0 0 (MQ below (q_X3_worthOf dC dI cI cC cZ cB cJ A vI tJ jJ mY pG pD pE eO dN bD bJ aI pL post) args s 0 0 A) (F0 m 5 ls [])) : ∀ (x1 x2 x3 x4 : Int32) (H : Heap) (locs : List Loc) (ls : Array Slot), (ws_X3_worthOf_5 post next dN pL) x1 x2 x3 x4 -> va_P (dC, dI) classes (aLh cI cC cZ cB cJ vI tJ jJ mY pG pD pE eO dN bD bJ aI pL) H -> va_D A (aLh cI cC cZ cB cJ vI tJ jJ mY pG pD pE eO dN bD bJ aI pL) -> va_S A s.heap H locs -> lv_has ls 5 [(0, .ref vI), (1, .int x1), (2, .int x2), (3, .int x3), (4, .int x4)] -> W p l e rm_X3_worthOf s m args below meth c H locs 0 0 (MQ below (q_X3_worthOf dC dI cI cC cZ cB cJ A vI tJ jJ mY pG pD pE eO dN bD bJ aI pL post) args s 0 0 A) (F0 m 5 ls []) := by
  obtain ⟨hx, hb, hr, hml, hown, hts, hlocks, hA, hK, hN, tL, tM, hZL, hTL, hZM, hTM, hZX⟩ := id C0
  intro x1 x2 x3 x4 H locs ls hp hP hD hS hl
  unfold ws_X3_worthOf_5 at hp
  refine lv_iload hx hb aTa.2.2.2.2.1 (lv_at hl 4 rfl) ?_
  refine lv_aload_n hx hb aTa.2.2.2.2.2.1 rfl (lv_at hl 0 rfl) ?_
  refine va_get (D := (dC, dI)) (ci := 3) (v := .int dN) (C := RX3) (T := TX3) (N := 11) hx hb hts i_X3 hown hK hP 0 rfl rfl 7 (lbz rfl) (hts _ q_20) (fun _ h9 => h9) rfl aTa.2.2.2.2.2.2.1 ?_
  refine lv_icmp_ge (tgt := 60) hx hb aTa.2.2.2.2.2.2.2.1 (by decide) (fun hc => ?_) (fun hc => ?_)
  · have hp := hp.1 hc
    refine lv_iload_n hx hb eX3_worthOf_52.2.2.2.2.1 rfl (lv_at hl 3 rfl) ?_
    exact W.iret (v := x3) hx hb hr (fun t ht hW => ⟨⟨x3, (), rfl, hp, by rw [ht]; exact hP, va_K.moved hW.alike hK, hD⟩, hS.F ht⟩) hS.2.2 eX3_worthOf_52.2.2.2.2.2
  · have hp := hp.2 hc
    refine lv_iload_n hx hb aTa.2.2.2.2.2.2.2.2.1 rfl (lv_at hl 1 rfl) ?_
    refine lv_iload hx hb aTa.2.2.2.2.2.2.2.2.2.1 (lv_at hl 4 rfl) ?_
    refine lv_ishr hx hb aTa.2.2.2.2.2.2.2.2.2.2.1 ?_
    refine lv_topi (fun v_1 aFJ => ?_)
    have hp := hp v_1 aFJ
    refine lv_iconst (v := 1) hx hb aTa.2.2.2.2.2.2.2.2.2.2.2.1 aDx ?_
    refine lv_iand hx hb aTa.2.2.2.2.2.2.2.2.2.2.2.2.1 ?_
    refine lv_if_eq (tgt := 54) hx hb aTa.2.2.2.2.2.2.2.2.2.2.2.2.2.1 (by decide) (fun hc => ?_) (fun hc => ?_)
    · have hp := hp.1 hc
      exact ks_X3_worthOf_54 C0 hKn x1 x2 x3 x4 H locs ls hp hP hD hS (lv_sub hl [0, 1, 2, 3, 4] rfl)
    · have hp := hp.2 hc
      refine lv_iload_n hx hb aTa.2.2.2.2.2.2.2.2.2.2.2.2.2.2.1 rfl (lv_at hl 3 rfl) ?_
      refine lv_iload_n hx hb aTa.2.2.2.2.2.2.2.2.2.2.2.2.2.2.2 rfl (lv_at hl 2 rfl) ?_
      refine lv_iload hx hb aQl.1 (lv_at hl 4 rfl) ?_
      refine lv_ishr hx hb aQl.2.1 ?_
      refine lv_topi (fun v_3 aGW => ?_)
      have hp := hp v_3 aGW
      refine lv_iconst (v := 1) hx hb aQl.2.2.1 aDx ?_
      refine lv_iand hx hb aQl.2.2.2.1 ?_
      refine lv_if_eq (tgt := 45) hx hb aQl.2.2.2.2.1 (by decide) (fun hc => ?_) (fun hc => ?_)
      · have hp := hp.1 hc
        refine lv_aload_n hx hb aQl.2.2.2.2.2.2.2.2.2.2.2.2.1 rfl (lv_at hl 0 rfl) ?_
        refine va_get (D := (dC, dI)) (ci := 3) (v := .ref mY) (C := RX3) (T := TX3) (N := 11) hx hb hts i_X3 hown hK hP 0 rfl rfl 2 (lbz rfl) (hts _ q_51) (fun _ h9 => h9) rfl aQl.2.2.2.2.2.2.2.2.2.2.2.2.2.1 ?_
        refine lv_iload hx hb aQl.2.2.2.2.2.2.2.2.2.2.2.2.2.2.1 (lv_at hl 4 rfl) ?_
        have hin := hp.1
        have hp := hp.2
        refine va_iald hx hb hK hP 1 0 rfl rfl hin aQl.2.2.2.2.2.2.2.2.2.2.2.2.2.2.2 ?_
        refine lv_topi (fun v_4 aHM => ?_)
        have hp := hp v_4 aHM
        exact ks_X3_worthOf_52 C0 hKn x1 x2 x4 x3 v_4 H locs ls hp hP hD hS (lv_sub hl [0, 1, 2, 4] rfl)
      · have hp := hp.2 hc
        refine lv_aload_n hx hb aQl.2.2.2.2.2.1 rfl (lv_at hl 0 rfl) ?_
        refine va_get (D := (dC, dI)) (ci := 3) (v := .ref mY) (C := RX3) (T := TX3) (N := 11) hx hb hts i_X3 hown hK hP 0 rfl rfl 2 (lbz rfl) (hts _ q_51) (fun _ h9 => h9) rfl aQl.2.2.2.2.2.2.1 ?_
        refine lv_iload hx hb aQl.2.2.2.2.2.2.2.1 (lv_at hl 4 rfl) ?_
        have hin := hp.1
        have hp := hp.2
        refine va_iald hx hb hK hP 1 0 rfl rfl hin aQl.2.2.2.2.2.2.2.2.1 ?_
        refine lv_topi (fun v_6 ev_6 => ?_)
        have hp := hp v_6 ev_6
        refine lv_iconst (v := 2) hx hb aQl.2.2.2.2.2.2.2.2.2.1 ic_2 ?_
        refine lv_idiv hx hb aQl.2.2.2.2.2.2.2.2.2.2.1 (by decide) ?_
        refine lv_topi (fun v_7 ev_7 => ?_)
        have hp := hp v_7 ev_7
        refine lv_goto (tgt := 52) hx hb aQl.2.2.2.2.2.2.2.2.2.2.2.1 (by decide) ?_
        exact ks_X3_worthOf_52 C0 hKn x1 x2 x4 x3 v_7 H locs ls hp hP hD hS (lv_sub hl [0, 1, 2, 4] rfl)
set_option maxHeartbeats 4000000 in
set_option maxRecDepth 100000 in
theorem kb_X3_worthOf_5 (C0 : gc aFl (some .int) 5 RX3 (dC, dI) (tyl cI cC cZ cB cJ) A p s m args meth c) : ∀ (n : Nat), ∀ (x1 x2 x3 x4 : Int32) (H : Heap) (locs : List Loc) (ls : Array Slot), (wb_X3_worthOf_5 post dN pL n) x1 x2 x3 x4 -> va_P (dC, dI) classes (aLh cI cC cZ cB cJ vI tJ jJ mY pG pD pE eO dN bD bJ aI pL) H -> va_D A (aLh cI cC cZ cB cJ vI tJ jJ mY pG pD pE eO dN bD bJ aI pL) -> va_S A s.heap H locs -> lv_has ls 5 [(0, .ref vI), (1, .int x1), (2, .int x2), (3, .int x3), (4, .int x4)] -> W p l e rm_X3_worthOf s m args below meth c H locs 0 0 (MQ below (q_X3_worthOf dC dI cI cC cZ cB cJ A vI tJ jJ mY pG pD pE eO dN bD bJ aI pL post) args s 0 0 A) (F0 m 5 ls []) := by
  intro n
  induction n with
  | zero =>
    intro x1 x2 x3 x4 H locs ls hp
    exact False.elim hp
  | succ n ih =>
    intro x1 x2 x3 x4 H locs ls hp
    exact ks_X3_worthOf_5 C0 ih x1 x2 x3 x4 H locs ls hp
end S_X3_worthOf
def wp_X3_worthOf (post : Int32 -> Prop) (p0 p1 dN : Int32) (pL : Nat -> Int32) : Prop := ∃ n : Nat, wb_X3_worthOf_5 post dN pL n p0 p1 0 0
set_option maxHeartbeats 4000000 in
set_option maxRecDepth 100000 in
theorem c_X3_worthOf (l : Launch) (dC : Nat -> ClassId) (dI : Nat -> Nat -> Nat) (cI cC cZ cB cJ : ClassId) (vI tJ jJ mY pG pD pE eO sz : Nat) (p0 p1 dN bD bJ aI : Int32) (pL : Nat -> Int32) (post : Int32 -> Prop) (hw : wp_X3_worthOf post p0 p1 dN pL) : Met l yX3_worthOf (gw yX3_worthOf aFl 5 (some .int)) rm_X3_worthOf (va_Pc [.ref vI, .int p0, .int p1] (gPre (dC, dI) (tyl cI cC cZ cB cJ) (aLh cI cC cZ cB cJ vI tJ jJ mY pG pD pE eO dN bD bJ aI pL) sz)) (q_X3_worthOf dC dI cI cC cZ cB cJ (va_A (aLh cI cC cZ cB cJ vI tJ jJ mY pG pD pE eO dN bD bJ aI pL) sz) vI tJ jJ mY pG pD pE eO dN bD bJ aI pL post) 0 0 (va_A (aLh cI cC cZ cB cJ vI tJ jJ mY pG pD pE eO dN bD bJ aI pL) sz) := by
  refine aBJ (own := RX3) (dC, dI) (tyl cI cC cZ cB cJ) (aLh cI cC cZ cB cJ vI tJ jJ mY pG pD pE eO dN bD bJ aI pL) sz [.ref vI, .int p0, .int p1] (fun A => q_X3_worthOf dC dI cI cC cZ cB cJ A vI tJ jJ mY pG pD pE eO dN bD bJ aI pL post) pn_RX3 rfl (lbz rfl) ?_
  intro p e s m args below meth c A H locs ls C0 hP hD hS hl
  have hl : lv_has ls 5 [(0, .ref vI), (1, .int p0), (2, .int p1)] := hl
  obtain ⟨hx, hb, hr, hml, hown, hts, hlocks, hA, hK, hN, tL, tM, hZL, hTL, hZM, hTM, hZX⟩ := id C0
  have hp := hw
  unfold wp_X3_worthOf at hp
  refine lv_iconst (v := 0) hx hb aTa.1 aCi ?_
  refine lv_istore_n (lv' := [(3, .int 0), (0, .ref vI), (1, .int p0), (2, .int p1)]) hx hb aTa.2.1 rfl hl (by decide) rfl (fun ls hl => ?_)
  refine lv_iconst (v := 0) hx hb aTa.2.2.1 aCi ?_
  refine lv_istore (lv' := [(4, .int 0), (3, .int 0), (0, .ref vI), (1, .int p0), (2, .int p1)]) hx hb aTa.2.2.2.1 hl (by decide) rfl (fun ls hl => ?_)
  obtain ⟨n9, hp⟩ := hp
  exact kb_X3_worthOf_5 C0 n9 p0 p1 0 0 H locs ls hp hP hD hS (lv_sub hl [2, 3, 4, 1, 0] rfl)
abbrev aT8 (cI cC cZ cB cJ : ClassId) (xB vI wY xO tJ jJ mY pG pD pE eO : Nat) (dN bD bJ aI : Int32) (pL : Nat -> Int32) (jE eW eY dU fY gJ jG nU : Int32) : va_W := [(xB, .inr (0, [.ref vI, .ref wY, .ref xO])), (vI, .inr (3, [.ref tJ, .ref jJ, .ref mY, .ref pG, .ref pD, .ref pE, .ref eO, .int dN, .int bD, .int bJ, .int aI])), (mY, .inl (cI, 16, .inl pL)), (wY, .inr (2, [.int jE, .int eW, .int eY, .int dU, .int fY, .int gJ, .int jG, .int nU]))]
abbrev q_X0_worthOf (dC : Nat -> ClassId) (dI : Nat -> Nat -> Nat) (cI cC cZ cB cJ : ClassId) (A : Nat -> Prop) (xB vI wY xO tJ jJ mY pG pD pE eO : Nat) (dN bD bJ aI : Int32) (pL : Nat -> Int32) (jE eW eY dU fY gJ jG nU : Int32) (post : Int32 -> Prop) : Array Value -> State -> Outcome -> State -> Prop := va_Qi (fun (r : Int32) (u : Unit) => post r) (fun u t => gB (dC, dI) (tyl cI cC cZ cB cJ) A (aT8 cI cC cZ cB cJ xB vI wY xO tJ jJ mY pG pD pE eO dN bD bJ aI pL jE eW eY dU fY gJ jG nU) t) A
abbrev rm_X0_worthOf : Room := { frames := 1, cells := 0, slots := 0, locals := 24 }
def aVC (post : Int32 -> Prop) (p0 dN : Int32) (pL : Nat -> Int32) (dU : Int32) : Prop := wp_X3_worthOf (fun r_1 => post r_1) p0 dU dN pL
set_option maxHeartbeats 4000000 in
set_option maxRecDepth 100000 in
theorem c_X0_worthOf (l : Launch) (dC : Nat -> ClassId) (dI : Nat -> Nat -> Nat) (cI cC cZ cB cJ : ClassId) (xB vI wY xO tJ jJ mY pG pD pE eO sz : Nat) (p0 dN bD bJ aI : Int32) (pL : Nat -> Int32) (jE eW eY dU fY gJ jG nU : Int32) (post : Int32 -> Prop) (hw : aVC post p0 dN pL dU) : Met l yX0_worthOf (gw yX0_worthOf cX0_worthOf 2 (some .int)) rm_X0_worthOf (va_Pc [.ref xB, .int p0] (gPre (dC, dI) (tyl cI cC cZ cB cJ) (aT8 cI cC cZ cB cJ xB vI wY xO tJ jJ mY pG pD pE eO dN bD bJ aI pL jE eW eY dU fY gJ jG nU) sz)) (q_X0_worthOf dC dI cI cC cZ cB cJ (va_A (aT8 cI cC cZ cB cJ xB vI wY xO tJ jJ mY pG pD pE eO dN bD bJ aI pL jE eW eY dU fY gJ jG nU) sz) xB vI wY xO tJ jJ mY pG pD pE eO dN bD bJ aI pL jE eW eY dU fY gJ jG nU post) 0 0 (va_A (aT8 cI cC cZ cB cJ xB vI wY xO tJ jJ mY pG pD pE eO dN bD bJ aI pL jE eW eY dU fY gJ jG nU) sz) := by
  refine aBJ (own := RX0) (dC, dI) (tyl cI cC cZ cB cJ) (aT8 cI cC cZ cB cJ xB vI wY xO tJ jJ mY pG pD pE eO dN bD bJ aI pL jE eW eY dU fY gJ jG nU) sz [.ref xB, .int p0] (fun A => q_X0_worthOf dC dI cI cC cZ cB cJ A xB vI wY xO tJ jJ mY pG pD pE eO dN bD bJ aI pL jE eW eY dU fY gJ jG nU post) pn_RX0 rfl (lbz rfl) ?_
  intro p e s m args below meth c A H locs ls C0 hP hD hS hl
  have hl : lv_has ls 2 [(0, .ref xB), (1, .int p0)] := hl
  obtain ⟨hx, hb, hr, hml, hown, hts, hlocks, hA, hK, hN, tL, tM, hZL, hTL, hZM, hTM, hZX⟩ := id C0
  have hp := hw
  unfold aVC at hp
  refine lv_aload_n hx hb eX0_worthOf_0.1 rfl (lv_at hl 0 rfl) ?_
  refine va_get (D := (dC, dI)) (ci := 0) (v := .ref vI) (C := RX0) (T := TX0) (N := 3) hx hb hts i_X0 hown hK hP 0 rfl rfl 0 (lbz rfl) (hts _ q_156) (fun _ h9 => h9) rfl eX0_worthOf_0.2.1 ?_
  refine lv_iload_n hx hb eX0_worthOf_0.2.2.1 rfl (lv_at hl 1 rfl) ?_
  refine lv_aload_n hx hb eX0_worthOf_0.2.2.2.1 rfl (lv_at hl 0 rfl) ?_
  refine va_get (D := (dC, dI)) (ci := 0) (v := .ref wY) (C := RX0) (T := TX0) (N := 3) hx hb hts i_X0 hown hK hP 0 rfl rfl 1 (lbz rfl) (hts _ q_161) (fun _ h9 => h9) rfl eX0_worthOf_0.2.2.2.2.1 ?_
  refine va_get (D := (dC, dI)) (ci := 2) (v := .int dU) (C := RX2) (T := TX2) (N := 8) hx hb hts i_X2 hown hK hP 3 rfl rfl 3 (lbz rfl) (hts _ q_278) (fun _ h9 => h9) rfl eX0_worthOf_0.2.2.2.2.2.1 ?_
  have hm := mgk (wc := (aLh cI cC cZ cB cJ vI tJ jJ mY pG pD pE eO dN bD bJ aI pL)) hP mk_49 4 rfl rfl rfl
  refine yW hP hD hS hA (yS mk_49) (aAi mk_49) hm.1 hm.2 (aAk _) (zW _) (zF (As := [.int p0, .int dU]) (rest := []) C0 hP hD hS (yS mk_49) hm.1 (aAl _) 1 3 rfl rfl (c_X3_worthOf l dC dI cI cC cZ cB cJ vI tJ jJ mY pG pD pE eO H.size p0 dU dN bD bJ aI pL _ hp) q_279 q_282 q_280 q_281 q_48 h_X3_worthOf rfl rfl ⟨lbz rfl, lbz rfl⟩ rfl rfl hl.1 rfl (lv_room (lbz rfl)) eX0_worthOf_0.2.2.2.2.2.2.1 ⟨Nat.zero_le _, Nat.zero_le _⟩) (fun r_1 u H locs hp hP hD hS => ?_)
  have hPD := PDm (ws' := (aT8 cI cC cZ cB cJ xB vI wY xO tJ jJ mY pG pD pE eO dN bD bJ aI pL jE eW eY dU fY gJ jG nU)) hP hD 4 rfl rfl rfl
  have hP := hPD.1
  have hD := hPD.2
  exact W.iret (v := r_1) hx hb hr (fun t ht hW => ⟨⟨r_1, (), rfl, hp, by rw [ht]; exact hP, va_K.moved hW.alike hK, hD⟩, hS.F ht⟩) hS.2.2 eX0_worthOf_0.2.2.2.2.2.2.2
abbrev wd_X7_meant (cI cC cZ cB cJ : ClassId) (xO uS tX uR rY tY : Nat) (pQ qI sY uG pY nJ : Int32) (qY : Nat -> Int32) : va_W := [(xO, .inr (7, [.ref uS, .ref tX, .ref uR, .ref rY, .ref tY, .int pQ, .int qI, .int sY, .int uG, .int pY, .int nJ])), (uS, .inl (cI, 7, .inl qY))]
abbrev q_X7_meant (dC : Nat -> ClassId) (dI : Nat -> Nat -> Nat) (cI cC cZ cB cJ : ClassId) (A : Nat -> Prop) (xO uS tX uR rY tY : Nat) (pQ qI sY uG pY nJ : Int32) (qY : Nat -> Int32) (post : Int32 -> Prop) : Array Value -> State -> Outcome -> State -> Prop := va_Qi (fun (r : Int32) (u : Unit) => post r) (fun u t => gB (dC, dI) (tyl cI cC cZ cB cJ) A (wd_X7_meant cI cC cZ cB cJ xO uS tX uR rY tY pQ qI sY uG pY nJ qY) t) A
abbrev rm_X7_meant : Room := { frames := 0, cells := 0, slots := 0, locals := 0 }
def wp_X7_meant (post : Int32 -> Prop) (p0 : Int32) (qY : Nat -> Int32) : Prop := ∀ v_1 : Int32, v_1 = p0 - 1000 -> (v_1 < 0 -> post p0) /\ (¬ v_1 < 0 -> (7 <= v_1 -> post p0) /\ (¬ 7 <= v_1 -> vp_in v_1 7 /\ (∀ v_2 : Int32, v_2 = qY v_1.toNatClampNeg -> post v_2)))
set_option maxHeartbeats 4000000 in
set_option maxRecDepth 100000 in
theorem c_X7_meant (l : Launch) (dC : Nat -> ClassId) (dI : Nat -> Nat -> Nat) (cI cC cZ cB cJ : ClassId) (xO uS tX uR rY tY sz : Nat) (p0 pQ qI sY uG pY nJ : Int32) (qY : Nat -> Int32) (post : Int32 -> Prop) (hw : wp_X7_meant post p0 qY) : Met l yX7_meant (gw yX7_meant cX7_meant 3 (some .int)) rm_X7_meant (va_Pc [.ref xO, .int p0] (gPre (dC, dI) (tyl cI cC cZ cB cJ) (wd_X7_meant cI cC cZ cB cJ xO uS tX uR rY tY pQ qI sY uG pY nJ qY) sz)) (q_X7_meant dC dI cI cC cZ cB cJ (va_A (wd_X7_meant cI cC cZ cB cJ xO uS tX uR rY tY pQ qI sY uG pY nJ qY) sz) xO uS tX uR rY tY pQ qI sY uG pY nJ qY post) 0 0 (va_A (wd_X7_meant cI cC cZ cB cJ xO uS tX uR rY tY pQ qI sY uG pY nJ qY) sz) := by
  refine aBJ (own := RX7) (dC, dI) (tyl cI cC cZ cB cJ) (wd_X7_meant cI cC cZ cB cJ xO uS tX uR rY tY pQ qI sY uG pY nJ qY) sz [.ref xO, .int p0] (fun A => q_X7_meant dC dI cI cC cZ cB cJ A xO uS tX uR rY tY pQ qI sY uG pY nJ qY post) pn_RX7 rfl (lbz rfl) ?_
  intro p e s m args below meth c A H locs ls C0 hP hD hS hl
  have hl : lv_has ls 3 [(0, .ref xO), (1, .int p0)] := hl
  obtain ⟨hx, hb, hr, hml, hown, hts, hlocks, hA, hK, hN, tL, tM, hZL, hTL, hZM, hTM, hZX⟩ := id C0
  have hp := hw
  unfold wp_X7_meant at hp
  refine lv_iload_n hx hb bAX.1 rfl (lv_at hl 1 rfl) ?_
  refine lv_sipush (v := 1000) hx hb bAX.2.1 sp_1000 ?_
  refine lv_isub hx hb bAX.2.2.1 ?_
  refine lv_topi (fun v_1 aFJ => ?_)
  have hp := hp v_1 aFJ
  refine lv_istore_n (lv' := [(2, .int v_1), (0, .ref xO), (1, .int p0)]) hx hb bAX.2.2.2.1 rfl hl (by decide) rfl (fun ls hl => ?_)
  refine lv_iload_n hx hb bAX.2.2.2.2.1 rfl (lv_at hl 0 rfl) ?_
  refine lv_if_lt (tgt := 28) hx hb bAX.2.2.2.2.2.1 (by decide) (fun hc => ?_) (fun hc => ?_)
  · have hp := hp.1 hc
    refine lv_iload_n hx hb eX7_meant_28.1 rfl (lv_at hl 2 rfl) ?_
    exact W.iret (v := p0) hx hb hr (fun t ht hW => ⟨⟨p0, (), rfl, hp, by rw [ht]; exact hP, va_K.moved hW.alike hK, hD⟩, hS.F ht⟩) hS.2.2 eX7_meant_28.2
  · have hp := hp.2 hc
    refine lv_iload_n hx hb bAX.2.2.2.2.2.2.1 rfl (lv_at hl 0 rfl) ?_
    refine lv_aload_n hx hb bAX.2.2.2.2.2.2.2.1 rfl (lv_at hl 1 rfl) ?_
    refine va_get (D := (dC, dI)) (ci := 7) (v := .ref uS) (C := RX7) (T := TX7) (N := 11) hx hb hts i_X7 hown hK hP 0 rfl rfl 0 (lbz rfl) (hts _ q_283) (fun _ h9 => h9) rfl bAX.2.2.2.2.2.2.2.2.1 ?_
    refine va_alen (v := 7) hx hb hK hP 1 0 rfl rfl rfl bAX.2.2.2.2.2.2.2.2.2.1 ?_
    refine lv_icmp_ge (tgt := 28) hx hb bAX.2.2.2.2.2.2.2.2.2.2.1 (by decide) (fun hc => ?_) (fun hc => ?_)
    · have hp := hp.1 hc
      refine lv_iload_n hx hb eX7_meant_28.1 rfl (lv_at hl 2 rfl) ?_
      exact W.iret (v := p0) hx hb hr (fun t ht hW => ⟨⟨p0, (), rfl, hp, by rw [ht]; exact hP, va_K.moved hW.alike hK, hD⟩, hS.F ht⟩) hS.2.2 eX7_meant_28.2
    · have hp := hp.2 hc
      refine lv_aload_n hx hb bAX.2.2.2.2.2.2.2.2.2.2.2.1 rfl (lv_at hl 1 rfl) ?_
      refine va_get (D := (dC, dI)) (ci := 7) (v := .ref uS) (C := RX7) (T := TX7) (N := 11) hx hb hts i_X7 hown hK hP 0 rfl rfl 0 (lbz rfl) (hts _ q_283) (fun _ h9 => h9) rfl bAX.2.2.2.2.2.2.2.2.2.2.2.2.1 ?_
      refine lv_iload_n hx hb bAX.2.2.2.2.2.2.2.2.2.2.2.2.2.1 rfl (lv_at hl 0 rfl) ?_
      have hin := hp.1
      have hp := hp.2
      refine va_iald hx hb hK hP 1 0 rfl rfl hin bAX.2.2.2.2.2.2.2.2.2.2.2.2.2.2.1 ?_
      refine lv_topi (fun v_2 aGO => ?_)
      have hp := hp v_2 aGO
      refine lv_goto (tgt := 29) hx hb bAX.2.2.2.2.2.2.2.2.2.2.2.2.2.2.2 (by decide) ?_
      exact W.iret (v := v_2) hx hb hr (fun t ht hW => ⟨⟨v_2, (), rfl, hp, by rw [ht]; exact hP, va_K.moved hW.alike hK, hD⟩, hS.F ht⟩) hS.2.2 eX7_meant_28.2
abbrev wd_X7_join (cI cC cZ cB cJ : ClassId) : va_W := []
abbrev q_X7_join (dC : Nat -> ClassId) (dI : Nat -> Nat -> Nat) (cI cC cZ cB cJ : ClassId) (A : Nat -> Prop) (post : Int32 -> Prop) : Array Value -> State -> Outcome -> State -> Prop := va_Qi (fun (r : Int32) (u : Unit) => post r) (fun u t => gB (dC, dI) (tyl cI cC cZ cB cJ) A (wd_X7_join cI cC cZ cB cJ) t) A
abbrev rm_X7_join : Room := { frames := 0, cells := 0, slots := 0, locals := 0 }
def wp_X7_join (post : Int32 -> Prop) (p0 p1 p2 : Int32) : Prop := (p0 = 42 -> post (p1 * p2)) /\ (p0 = 43 -> post (p1 + p2)) /\ (p0 = 45 -> post (p1 - p2)) /\ (p0 = 60 -> (p2 <= p1 -> post 0) /\ (¬ p2 <= p1 -> post 1)) /\ (p0 = 61 -> (¬ p1 = p2 -> post 0) /\ (p1 = p2 -> post 1)) /\ (p0 = 62 -> (p1 <= p2 -> post 0) /\ (¬ p1 <= p2 -> post 1)) /\ (¬ p0 = 42 -> ¬ p0 = 43 -> ¬ p0 = 45 -> ¬ p0 = 60 -> ¬ p0 = 61 -> ¬ p0 = 62 -> (¬ p2 = 0 -> ¬ p2 = 0 /\ (post (p1 / p2))) /\ (p2 = 0 -> post 0))
set_option maxHeartbeats 4000000 in
set_option maxRecDepth 100000 in
theorem c_X7_join (l : Launch) (dC : Nat -> ClassId) (dI : Nat -> Nat -> Nat) (cI cC cZ cB cJ : ClassId) (sz : Nat) (p0 p1 p2 : Int32) (post : Int32 -> Prop) (hw : wp_X7_join post p0 p1 p2) : Met l yX7_join (gw yX7_join aJd 3 (some .int)) rm_X7_join (va_Pc [.int p0, .int p1, .int p2] (gPre (dC, dI) (tyl cI cC cZ cB cJ) (wd_X7_join cI cC cZ cB cJ) sz)) (q_X7_join dC dI cI cC cZ cB cJ (va_A (wd_X7_join cI cC cZ cB cJ) sz) post) 0 0 (va_A (wd_X7_join cI cC cZ cB cJ) sz) := by
  refine aBJ (own := RX7) (dC, dI) (tyl cI cC cZ cB cJ) (wd_X7_join cI cC cZ cB cJ) sz [.int p0, .int p1, .int p2] (fun A => q_X7_join dC dI cI cC cZ cB cJ A post) pn_RX7 rfl (lbz rfl) ?_
  intro p e s m args below meth c A H locs ls C0 hP hD hS hl
  have hl : lv_has ls 3 [(0, .int p0), (1, .int p1), (2, .int p2)] := hl
  obtain ⟨hx, hb, hr, hml, hown, hts, hlocks, hA, hK, hN, tL, tM, hZL, hTL, hZM, hTM, hZX⟩ := id C0
  have hp := hw
  unfold wp_X7_join at hp
  refine lv_iload_n hx hb aRI.1 rfl (lv_at hl 0 rfl) ?_
  by_cases hc0 : p0 = 42
  · have hp := hp.1 hc0
    refine lv_lookup (tgt := 101) hx hb aRI.2.1 (by decide) (by first | (rw [hc0]; done) | (rw [hc0]; rfl)) (by decide) ?_
    refine lv_iload_n hx hb aYN.2.2.2.2.2.2.2.2.2.2.2.2.2.2.2 rfl (lv_at hl 1 rfl) ?_
    refine lv_iload_n hx hb eX7_join_102.1 rfl (lv_at hl 2 rfl) ?_
    refine lv_imul hx hb eX7_join_102.2.1 ?_
    exact W.iret (v := p1 * p2) hx hb hr (fun t ht hW => ⟨⟨p1 * p2, (), rfl, hp, by rw [ht]; exact hP, va_K.moved hW.alike hK, hD⟩, hS.F ht⟩) hS.2.2 eX7_join_102.2.2.1
  by_cases hc1 : p0 = 43
  · have hp := hp.2.1 hc1
    refine lv_lookup (tgt := 93) hx hb aRI.2.1 (by decide) (by first | (rw [hc1]; done) | (rw [hc1]; rfl)) (by decide) ?_
    refine lv_iload_n hx hb aYN.2.2.2.2.2.2.2.1 rfl (lv_at hl 1 rfl) ?_
    refine lv_iload_n hx hb aYN.2.2.2.2.2.2.2.2.1 rfl (lv_at hl 2 rfl) ?_
    refine lv_iadd hx hb aYN.2.2.2.2.2.2.2.2.2.1 ?_
    exact W.iret (v := p1 + p2) hx hb hr (fun t ht hW => ⟨⟨p1 + p2, (), rfl, hp, by rw [ht]; exact hP, va_K.moved hW.alike hK, hD⟩, hS.F ht⟩) hS.2.2 aYN.2.2.2.2.2.2.2.2.2.2.1
  by_cases hc2 : p0 = 45
  · have hp := hp.2.2.1 hc2
    refine lv_lookup (tgt := 97) hx hb aRI.2.1 (by decide) (by first | (rw [hc2]; done) | (rw [hc2]; rfl)) (by decide) ?_
    refine lv_iload_n hx hb aYN.2.2.2.2.2.2.2.2.2.2.2.1 rfl (lv_at hl 1 rfl) ?_
    refine lv_iload_n hx hb aYN.2.2.2.2.2.2.2.2.2.2.2.2.1 rfl (lv_at hl 2 rfl) ?_
    refine lv_isub hx hb aYN.2.2.2.2.2.2.2.2.2.2.2.2.2.1 ?_
    exact W.iret (v := p1 - p2) hx hb hr (fun t ht hW => ⟨⟨p1 - p2, (), rfl, hp, by rw [ht]; exact hP, va_K.moved hW.alike hK, hD⟩, hS.F ht⟩) hS.2.2 aYN.2.2.2.2.2.2.2.2.2.2.2.2.2.2.1
  by_cases hc3 : p0 = 60
  · have hp := hp.2.2.2.1 hc3
    refine lv_lookup (tgt := 60) hx hb aRI.2.1 (by decide) (by first | (rw [hc3]; done) | (rw [hc3]; rfl)) (by decide) ?_
    refine lv_iload_n hx hb aRI.2.2.1 rfl (lv_at hl 1 rfl) ?_
    refine lv_iload_n hx hb aRI.2.2.2.1 rfl (lv_at hl 2 rfl) ?_
    refine lv_icmp_ge (tgt := 69) hx hb aRI.2.2.2.2.1 (by decide) (fun hc => ?_) (fun hc => ?_)
    · have hp := hp.1 hc
      refine lv_iconst (v := 0) hx hb aRI.2.2.2.2.2.2.2.1 aCi ?_
      exact W.iret (v := 0) hx hb hr (fun t ht hW => ⟨⟨0, (), rfl, hp, by rw [ht]; exact hP, va_K.moved hW.alike hK, hD⟩, hS.F ht⟩) hS.2.2 aRI.2.2.2.2.2.2.2.2.1
    · have hp := hp.2 hc
      refine lv_iconst (v := 1) hx hb aRI.2.2.2.2.2.1 aDx ?_
      refine lv_goto (tgt := 70) hx hb aRI.2.2.2.2.2.2.1 (by decide) ?_
      exact W.iret (v := 1) hx hb hr (fun t ht hW => ⟨⟨1, (), rfl, hp, by rw [ht]; exact hP, va_K.moved hW.alike hK, hD⟩, hS.F ht⟩) hS.2.2 aRI.2.2.2.2.2.2.2.2.1
  by_cases hc4 : p0 = 61
  · have hp := hp.2.2.2.2.1 hc4
    refine lv_lookup (tgt := 82) hx hb aRI.2.1 (by decide) (by first | (rw [hc4]; done) | (rw [hc4]; rfl)) (by decide) ?_
    refine lv_iload_n hx hb aYN.1 rfl (lv_at hl 1 rfl) ?_
    refine lv_iload_n hx hb aYN.2.1 rfl (lv_at hl 2 rfl) ?_
    refine lv_icmp_ne (tgt := 91) hx hb aYN.2.2.1 (by decide) (fun hc => ?_) (fun hc => ?_)
    · have hp := hp.1 hc
      refine lv_iconst (v := 0) hx hb aYN.2.2.2.2.2.1 aCi ?_
      exact W.iret (v := 0) hx hb hr (fun t ht hW => ⟨⟨0, (), rfl, hp, by rw [ht]; exact hP, va_K.moved hW.alike hK, hD⟩, hS.F ht⟩) hS.2.2 aYN.2.2.2.2.2.2.1
    · have hp := hp.2 hc
      refine lv_iconst (v := 1) hx hb aYN.2.2.2.1 aDx ?_
      refine lv_goto (tgt := 92) hx hb aYN.2.2.2.2.1 (by decide) ?_
      exact W.iret (v := 1) hx hb hr (fun t ht hW => ⟨⟨1, (), rfl, hp, by rw [ht]; exact hP, va_K.moved hW.alike hK, hD⟩, hS.F ht⟩) hS.2.2 aYN.2.2.2.2.2.2.1
  by_cases hc5 : p0 = 62
  · have hp := hp.2.2.2.2.2.1 hc5
    refine lv_lookup (tgt := 71) hx hb aRI.2.1 (by decide) (by first | (rw [hc5]; done) | (rw [hc5]; rfl)) (by decide) ?_
    refine lv_iload_n hx hb aRI.2.2.2.2.2.2.2.2.2.1 rfl (lv_at hl 1 rfl) ?_
    refine lv_iload_n hx hb aRI.2.2.2.2.2.2.2.2.2.2.1 rfl (lv_at hl 2 rfl) ?_
    refine lv_icmp_le (tgt := 80) hx hb aRI.2.2.2.2.2.2.2.2.2.2.2.1 (by decide) (fun hc => ?_) (fun hc => ?_)
    · have hp := hp.1 hc
      refine lv_iconst (v := 0) hx hb aRI.2.2.2.2.2.2.2.2.2.2.2.2.2.2.1 aCi ?_
      exact W.iret (v := 0) hx hb hr (fun t ht hW => ⟨⟨0, (), rfl, hp, by rw [ht]; exact hP, va_K.moved hW.alike hK, hD⟩, hS.F ht⟩) hS.2.2 aRI.2.2.2.2.2.2.2.2.2.2.2.2.2.2.2
    · have hp := hp.2 hc
      refine lv_iconst (v := 1) hx hb aRI.2.2.2.2.2.2.2.2.2.2.2.2.1 aDx ?_
      refine lv_goto (tgt := 81) hx hb aRI.2.2.2.2.2.2.2.2.2.2.2.2.2.1 (by decide) ?_
      exact W.iret (v := 1) hx hb hr (fun t ht hW => ⟨⟨1, (), rfl, hp, by rw [ht]; exact hP, va_K.moved hW.alike hK, hD⟩, hS.F ht⟩) hS.2.2 aRI.2.2.2.2.2.2.2.2.2.2.2.2.2.2.2
  have hp := hp.2.2.2.2.2.2 hc0 hc1 hc2 hc3 hc4 hc5
  have key : W p l e rm_X7_join s m args below meth c H locs 0 0 (MQ below (q_X7_join dC dI cI cC cZ cB cJ A post) args s 0 0 A) (F0 m 105 ls []) := by
    refine lv_iload_n hx hb eX7_join_102.2.2.2.1 rfl (lv_at hl 2 rfl) ?_
    refine lv_if_ne (tgt := 113) hx hb eX7_join_102.2.2.2.2.1 (by decide) (fun hc => ?_) (fun hc => ?_)
    · have hp := hp.1 hc
      refine lv_iload_n hx hb eX7_join_102.2.2.2.2.2.2.2.1 rfl (lv_at hl 1 rfl) ?_
      refine lv_iload_n hx hb eX7_join_102.2.2.2.2.2.2.2.2.1 rfl (lv_at hl 2 rfl) ?_
      have hne := hp.1
      have hp := hp.2
      refine lv_idiv hx hb eX7_join_102.2.2.2.2.2.2.2.2.2.1 hne ?_
      exact W.iret (v := p1 / p2) hx hb hr (fun t ht hW => ⟨⟨p1 / p2, (), rfl, hp, by rw [ht]; exact hP, va_K.moved hW.alike hK, hD⟩, hS.F ht⟩) hS.2.2 eX7_join_102.2.2.2.2.2.2.2.2.2.2
    · have hp := hp.2 hc
      refine lv_iconst (v := 0) hx hb eX7_join_102.2.2.2.2.2.1 aCi ?_
      refine lv_goto (tgt := 116) hx hb eX7_join_102.2.2.2.2.2.2.1 (by decide) ?_
      exact W.iret (v := 0) hx hb hr (fun t ht hW => ⟨⟨0, (), rfl, hp, by rw [ht]; exact hP, va_K.moved hW.alike hK, hD⟩, hS.F ht⟩) hS.2.2 eX7_join_102.2.2.2.2.2.2.2.2.2.2
  exact lv_lookup (tgt := 105) (off := 104) hx hb aRI.2.1 (by decide) (by show Op.lookupswitch.offset [(42, 100), (43, 92), (45, 96), (60, 59), (61, 81), (62, 70)] _ _ = _; first | (rw [lv_osw (a := 42) hc0 rfl, lv_osw (a := 43) hc1 rfl, lv_osw (a := 45) hc2 rfl, lv_osw (a := 60) hc3 rfl, lv_osw (a := 61) hc4 rfl, lv_osw (a := 62) hc5 rfl]; done) | (rw [lv_osw (a := 42) hc0 rfl, lv_osw (a := 43) hc1 rfl, lv_osw (a := 45) hc2 rfl, lv_osw (a := 60) hc3 rfl, lv_osw (a := 61) hc4 rfl, lv_osw (a := 62) hc5 rfl]; rfl)) (by decide) key
abbrev aJ5 (cI cC cZ cB cJ : ClassId) (xO uS tX uR rY tY : Nat) (pQ qI sY uG pY nJ : Int32) (qY qU pN : Nat -> Int32) : va_W := [(xO, .inr (7, [.ref uS, .ref tX, .ref uR, .ref rY, .ref tY, .int pQ, .int qI, .int sY, .int uG, .int pY, .int nJ])), (uS, .inl (cI, 7, .inl qY)), (uR, .inl (cI, 40, .inl qU)), (rY, .inl (cI, 40, .inl pN))]
abbrev q_X7_reckon (dC : Nat -> ClassId) (dI : Nat -> Nat -> Nat) (cI cC cZ cB cJ : ClassId) (A : Nat -> Prop) (xO uS tX uR rY tY : Nat) (pQ qI sY uG pY nJ : Int32) (qY pN : Nat -> Int32) (post : Int32 -> (Nat -> Int32) -> Prop) : Array Value -> State -> Outcome -> State -> Prop := va_Qi (fun (r : Int32) (u : (Nat -> Int32)) => post r u) (fun u t => gB (dC, dI) (tyl cI cC cZ cB cJ) A (aJ5 cI cC cZ cB cJ xO uS tX uR rY tY pQ qI sY uG pY nJ qY u pN) t) A
abbrev rm_X7_reckon : Room := { frames := 1, cells := 0, slots := 0, locals := 22 }
section S_X7_reckon
variable {p : Program} {l : Launch} {e : Env} {s : State} {m : MethodId} {args : Array Value} {below : List Frame} {meth : Method} {c : Code} {dC : Nat -> ClassId} {dI : Nat -> Nat -> Nat} {cI cC cZ cB cJ : ClassId} {A : Nat -> Prop} {xO uS tX uR rY tY : Nat} {pQ qI sY uG pY nJ : Int32} {qY pN : Nat -> Int32} {post : Int32 -> (Nat -> Int32) -> Prop}
def ws_X7_reckon_136 (post : Int32 -> (Nat -> Int32) -> Prop) (pQ : Int32) (qY pN : Nat -> Int32) (x1 : Int32) (qU : Nat -> Int32) : Prop := (x1 <= 0 -> post 0 qU) /\ (¬ x1 <= 0 -> ∀ v_1 : Int32, v_1 = x1 - 1 -> vp_in v_1 40 /\ (∀ v_2 : Int32, v_2 = qU v_1.toNatClampNeg -> post v_2 qU))
set_option maxHeartbeats 4000000 in
set_option maxRecDepth 100000 in
theorem ks_X7_reckon_136 (C0 : gc aCQ (some .int) 4 RX7 (dC, dI) (tyl cI cC cZ cB cJ) A p s m args meth c) : ∀ (x1 : Int32) (qU : Nat -> Int32) (H : Heap) (locs : List Loc) (ls : Array Slot), (ws_X7_reckon_136 post pQ qY pN) x1 qU -> va_P (dC, dI) classes (aJ5 cI cC cZ cB cJ xO uS tX uR rY tY pQ qI sY uG pY nJ qY qU pN) H -> va_D A (aJ5 cI cC cZ cB cJ xO uS tX uR rY tY pQ qI sY uG pY nJ qY qU pN) -> va_S A s.heap H locs -> lv_has ls 4 [(0, .ref xO), (1, .int x1)] -> W p l e rm_X7_reckon s m args below meth c H locs 0 0 (MQ below (q_X7_reckon dC dI cI cC cZ cB cJ A xO uS tX uR rY tY pQ qI sY uG pY nJ qY pN post) args s 0 0 A) (F0 m 136 ls []) := by
  obtain ⟨hx, hb, hr, hml, hown, hts, hlocks, hA, hK, hN, tL, tM, hZL, hTL, hZM, hTM, hZX⟩ := id C0
  intro x1 qU H locs ls hp hP hD hS hl
  unfold ws_X7_reckon_136 at hp
  refine lv_iload_n hx hb aQp.2.2.2.2.2.2.2.1 rfl (lv_at hl 1 rfl) ?_
  refine lv_if_le (tgt := 151) hx hb aQp.2.2.2.2.2.2.2.2.1 (by decide) (fun hc => ?_) (fun hc => ?_)
  · have hp := hp.1 hc
    refine lv_iconst (v := 0) hx hb eX7_reckon_151.1 aCi ?_
    exact W.iret (v := 0) hx hb hr (fun t ht hW => ⟨⟨0, qU, rfl, hp, by rw [ht]; exact hP, va_K.moved hW.alike hK, hD⟩, hS.F ht⟩) hS.2.2 eX7_reckon_151.2
  · have hp := hp.2 hc
    refine lv_aload_n hx hb aQp.2.2.2.2.2.2.2.2.2.1 rfl (lv_at hl 0 rfl) ?_
    refine va_get (D := (dC, dI)) (ci := 7) (v := .ref uR) (C := RX7) (T := TX7) (N := 11) hx hb hts i_X7 hown hK hP 0 rfl rfl 2 (lbz rfl) (hts _ q_284) (fun _ h9 => h9) rfl aQp.2.2.2.2.2.2.2.2.2.2.1 ?_
    refine lv_iload_n hx hb aQp.2.2.2.2.2.2.2.2.2.2.2.1 rfl (lv_at hl 1 rfl) ?_
    refine lv_iconst (v := 1) hx hb aQp.2.2.2.2.2.2.2.2.2.2.2.2.1 aDx ?_
    refine lv_isub hx hb aQp.2.2.2.2.2.2.2.2.2.2.2.2.2.1 ?_
    refine lv_topi (fun v_1 aFJ => ?_)
    have hp := hp v_1 aFJ
    have hin := hp.1
    have hp := hp.2
    refine va_iald hx hb hK hP 2 0 rfl rfl hin aQp.2.2.2.2.2.2.2.2.2.2.2.2.2.2.1 ?_
    refine lv_topi (fun v_2 aGO => ?_)
    have hp := hp v_2 aGO
    refine lv_goto (tgt := 152) hx hb aQp.2.2.2.2.2.2.2.2.2.2.2.2.2.2.2 (by decide) ?_
    exact W.iret (v := v_2) hx hb hr (fun t ht hW => ⟨⟨v_2, qU, rfl, hp, by rw [ht]; exact hP, va_K.moved hW.alike hK, hD⟩, hS.F ht⟩) hS.2.2 eX7_reckon_151.2
def aRg (post : Int32 -> (Nat -> Int32) -> Prop) (K4 : Int32 -> Int32 -> (Nat -> Int32) -> Prop) (pQ : Int32) (qY pN : Nat -> Int32) (x1 x2 : Int32) (qU : Nat -> Int32) : Prop := ∀ v_4 : Int32, v_4 = x2 + 1 -> K4 x1 v_4 qU
set_option maxHeartbeats 4000000 in
set_option maxRecDepth 100000 in
theorem ks_X7_reckon_130 (C0 : gc aCQ (some .int) 4 RX7 (dC, dI) (tyl cI cC cZ cB cJ) A p s m args meth c) {K4 : Int32 -> Int32 -> (Nat -> Int32) -> Prop} (hK4 : ∀ (x1 : Int32) (x2 : Int32) (qU : Nat -> Int32) (H : Heap) (locs : List Loc) (ls : Array Slot), K4 x1 x2 qU -> va_P (dC, dI) classes (aJ5 cI cC cZ cB cJ xO uS tX uR rY tY pQ qI sY uG pY nJ qY qU pN) H -> va_D A (aJ5 cI cC cZ cB cJ xO uS tX uR rY tY pQ qI sY uG pY nJ qY qU pN) -> va_S A s.heap H locs -> lv_has ls 4 [(0, .ref xO), (1, .int x1), (2, .int x2)] -> W p l e rm_X7_reckon s m args below meth c H locs 0 0 (MQ below (q_X7_reckon dC dI cI cC cZ cB cJ A xO uS tX uR rY tY pQ qI sY uG pY nJ qY pN post) args s 0 0 A) (F0 m 4 ls [])) : ∀ (x1 x2 : Int32) (qU : Nat -> Int32) (H : Heap) (locs : List Loc) (ls : Array Slot), (aRg post K4 pQ qY pN) x1 x2 qU -> va_P (dC, dI) classes (aJ5 cI cC cZ cB cJ xO uS tX uR rY tY pQ qI sY uG pY nJ qY qU pN) H -> va_D A (aJ5 cI cC cZ cB cJ xO uS tX uR rY tY pQ qI sY uG pY nJ qY qU pN) -> va_S A s.heap H locs -> lv_has ls 4 [(0, .ref xO), (1, .int x1), (2, .int x2)] -> W p l e rm_X7_reckon s m args below meth c H locs 0 0 (MQ below (q_X7_reckon dC dI cI cC cZ cB cJ A xO uS tX uR rY tY pQ qI sY uG pY nJ qY pN post) args s 0 0 A) (F0 m 130 ls []) := by
  obtain ⟨hx, hb, hr, hml, hown, hts, hlocks, hA, hK, hN, tL, tM, hZL, hTL, hZM, hTM, hZX⟩ := id C0
  intro x1 x2 qU H locs ls hp hP hD hS hl
  unfold aRg at hp
  obtain ⟨v_4, aHM⟩ : ∃ y : Int32, y = x2 + 1 := ⟨_, rfl⟩
  refine lv_iinc (v := v_4) (lv' := [(2, .int v_4), (0, .ref xO), (1, .int x1)]) hx hb aQp.2.2.2.2.2.1 hl (k := 2) rfl (by rw [aHM]; rfl) (by decide) rfl (fun ls hl => ?_)
  have hp := hp v_4 aHM
  refine lv_goto (tgt := 4) hx hb aQp.2.2.2.2.2.2.1 (by decide) ?_
  exact hK4 x1 v_4 qU H locs ls hp hP hD hS (lv_sub hl [1, 2, 0] rfl)
def ws_X7_reckon_4 (post : Int32 -> (Nat -> Int32) -> Prop) (next : Int32 -> Int32 -> (Nat -> Int32) -> Prop) (pQ : Int32) (qY pN : Nat -> Int32) (x1 x2 : Int32) (qU : Nat -> Int32) : Prop := (pQ <= x2 -> ws_X7_reckon_136 post pQ qY pN x1 qU) /\ (¬ pQ <= x2 -> (40 <= x2 -> ws_X7_reckon_136 post pQ qY pN x1 qU) /\ (¬ 40 <= x2 -> vp_in x2 40 /\ (∀ v_3 : Int32, v_3 = pN x2.toNatClampNeg -> (2000 <= v_3 -> (¬ v_3 = 2256 -> (x1 <= 1 -> aRg post next pQ qY pN x1 x2 qU) /\ (¬ x1 <= 1 -> ∀ v_5 : Int32, v_5 = x1 + (-1) -> ∀ v_6 : Int32, v_6 = v_5 - 1 -> ∀ v_7 : Int32, v_7 = v_3 - 2000 -> ∀ v_8 : Int32, v_8 = v_5 - 1 -> vp_in v_8 40 /\ (∀ v_9 : Int32, v_9 = qU v_8.toNatClampNeg -> vp_in v_5 40 /\ (∀ aEr : Int32, aEr = qU v_5.toNatClampNeg -> wp_X7_join (fun r_11 => vp_in v_6 40 /\ (aRg post next pQ qY pN v_5 x2 (upd qU v_6.toNatClampNeg r_11))) v_7 v_9 aEr)))) /\ (v_3 = 2256 -> (x1 <= 0 -> aRg post next pQ qY pN x1 x2 qU) /\ (¬ x1 <= 0 -> ∀ aEp : Int32, aEp = x1 - 1 -> ∀ aIQ : Int32, aIQ = x1 - 1 -> vp_in aIQ 40 /\ (∀ aGC : Int32, aGC = -(qU aIQ.toNatClampNeg) -> vp_in aEp 40 /\ (aRg post next pQ qY pN x1 x2 (upd qU aEp.toNatClampNeg aGC)))))) /\ (¬ 2000 <= v_3 -> (40 <= x1 -> aRg post next pQ qY pN x1 x2 qU) /\ (¬ 40 <= x1 -> wp_X7_meant (fun r_15 => vp_in x1 40 /\ (∀ aHb : Int32, aHb = x1 + 1 -> aRg post next pQ qY pN aHb x2 (upd qU x1.toNatClampNeg r_15))) v_3 qY)))))
noncomputable def wb_X7_reckon_4 (post : Int32 -> (Nat -> Int32) -> Prop) (pQ : Int32) (qY pN : Nat -> Int32) : Nat -> Int32 -> Int32 -> (Nat -> Int32) -> Prop := fun n => Nat.rec (motive := fun _ => Int32 -> Int32 -> (Nat -> Int32) -> Prop) (fun _ _ _ => False) (fun _ ih => ws_X7_reckon_4 post ih pQ qY pN) n
set_option maxHeartbeats 4000000 in
set_option maxRecDepth 100000 in
theorem ks_X7_reckon_4 (C0 : gc aCQ (some .int) 4 RX7 (dC, dI) (tyl cI cC cZ cB cJ) A p s m args meth c) {next : Int32 -> Int32 -> (Nat -> Int32) -> Prop} (hKn : ∀ (x1 : Int32) (x2 : Int32) (qU : Nat -> Int32) (H : Heap) (locs : List Loc) (ls : Array Slot), next x1 x2 qU -> va_P (dC, dI) classes (aJ5 cI cC cZ cB cJ xO uS tX uR rY tY pQ qI sY uG pY nJ qY qU pN) H -> va_D A (aJ5 cI cC cZ cB cJ xO uS tX uR rY tY pQ qI sY uG pY nJ qY qU pN) -> va_S A s.heap H locs -> lv_has ls 4 [(0, .ref xO), (1, .int x1), (2, .int x2)] -> W p l e rm_X7_reckon s m args below meth c H locs 0 0 (MQ below (q_X7_reckon dC dI cI cC cZ cB cJ A xO uS tX uR rY tY pQ qI sY uG pY nJ qY pN post) args s 0 0 A) (F0 m 4 ls [])) : ∀ (x1 x2 : Int32) (qU : Nat -> Int32) (H : Heap) (locs : List Loc) (ls : Array Slot), (ws_X7_reckon_4 post next pQ qY pN) x1 x2 qU -> va_P (dC, dI) classes (aJ5 cI cC cZ cB cJ xO uS tX uR rY tY pQ qI sY uG pY nJ qY qU pN) H -> va_D A (aJ5 cI cC cZ cB cJ xO uS tX uR rY tY pQ qI sY uG pY nJ qY qU pN) -> va_S A s.heap H locs -> lv_has ls 4 [(0, .ref xO), (1, .int x1), (2, .int x2)] -> W p l e rm_X7_reckon s m args below meth c H locs 0 0 (MQ below (q_X7_reckon dC dI cI cC cZ cB cJ A xO uS tX uR rY tY pQ qI sY uG pY nJ qY pN post) args s 0 0 A) (F0 m 4 ls []) := by
  obtain ⟨hx, hb, hr, hml, hown, hts, hlocks, hA, hK, hN, tL, tM, hZL, hTL, hZM, hTM, hZX⟩ := id C0
  intro x1 x2 qU H locs ls hp hP hD hS hl
  unfold ws_X7_reckon_4 at hp
  refine lv_iload_n hx hb aWg.2.2.2.2.1 rfl (lv_at hl 2 rfl) ?_
  refine lv_aload_n hx hb aWg.2.2.2.2.2.1 rfl (lv_at hl 0 rfl) ?_
  refine va_get (D := (dC, dI)) (ci := 7) (v := .int pQ) (C := RX7) (T := TX7) (N := 11) hx hb hts i_X7 hown hK hP 0 rfl rfl 5 (lbz rfl) (hts _ q_101) (fun _ h9 => h9) rfl aWg.2.2.2.2.2.2.1 ?_
  refine lv_icmp_ge (tgt := 136) hx hb aWg.2.2.2.2.2.2.2.1 (by decide) (fun hc => ?_) (fun hc => ?_)
  · have hp := hp.1 hc
    exact ks_X7_reckon_136 C0 x1 qU H locs ls hp hP hD hS (lv_sub hl [0, 1] rfl)
  · have hp := hp.2 hc
    refine lv_iload_n hx hb aWg.2.2.2.2.2.2.2.2.1 rfl (lv_at hl 2 rfl) ?_
    refine lv_aload_n hx hb aWg.2.2.2.2.2.2.2.2.2.1 rfl (lv_at hl 0 rfl) ?_
    refine va_get (D := (dC, dI)) (ci := 7) (v := .ref rY) (C := RX7) (T := TX7) (N := 11) hx hb hts i_X7 hown hK hP 0 rfl rfl 3 (lbz rfl) (hts _ q_137) (fun _ h9 => h9) rfl aWg.2.2.2.2.2.2.2.2.2.2.1 ?_
    refine va_alen (v := 40) hx hb hK hP 3 0 rfl rfl rfl aWg.2.2.2.2.2.2.2.2.2.2.2.1 ?_
    refine lv_icmp_ge (tgt := 136) hx hb aWg.2.2.2.2.2.2.2.2.2.2.2.2.1 (by decide) (fun hc => ?_) (fun hc => ?_)
    · have hp := hp.1 hc
      exact ks_X7_reckon_136 C0 x1 qU H locs ls hp hP hD hS (lv_sub hl [0, 1] rfl)
    · have hp := hp.2 hc
      refine lv_aload_n hx hb aWg.2.2.2.2.2.2.2.2.2.2.2.2.2.1 rfl (lv_at hl 0 rfl) ?_
      refine va_get (D := (dC, dI)) (ci := 7) (v := .ref rY) (C := RX7) (T := TX7) (N := 11) hx hb hts i_X7 hown hK hP 0 rfl rfl 3 (lbz rfl) (hts _ q_137) (fun _ h9 => h9) rfl aWg.2.2.2.2.2.2.2.2.2.2.2.2.2.2.1 ?_
      refine lv_iload_n hx hb aWg.2.2.2.2.2.2.2.2.2.2.2.2.2.2.2 rfl (lv_at hl 2 rfl) ?_
      have hin := hp.1
      have hp := hp.2
      refine va_iald hx hb hK hP 3 0 rfl rfl hin aTd.1 ?_
      refine lv_topi (fun v_3 aGW => ?_)
      have hp := hp v_3 aGW
      refine lv_istore_n (lv' := [(3, .int v_3), (0, .ref xO), (1, .int x1), (2, .int x2)]) hx hb aTd.2.1 rfl hl (by decide) rfl (fun ls hl => ?_)
      refine lv_iload_n hx hb aTd.2.2.1 rfl (lv_at hl 0 rfl) ?_
      refine lv_sipush (v := 2000) hx hb aTd.2.2.2.1 sp_2000 ?_
      refine lv_icmp_ge (tgt := 61) hx hb aTd.2.2.2.2.1 (by decide) (fun hc => ?_) (fun hc => ?_)
      · have hp := hp.1 hc
        refine lv_iload_n hx hb eX7_reckon_54.2.2.2.1 rfl (lv_at hl 0 rfl) ?_
        refine lv_sipush (v := 2256) hx hb eX7_reckon_54.2.2.2.2.1 sp_2256 ?_
        refine lv_icmp_ne (tgt := 92) hx hb eX7_reckon_54.2.2.2.2.2.1 (by decide) (fun hc => ?_) (fun hc => ?_)
        · have hp := hp.1 hc
          refine lv_iload_n hx hb aTe.2.2.2.2.2.2.2.2.2.2.2.2.2.1 rfl (lv_at hl 2 rfl) ?_
          refine lv_iconst (v := 1) hx hb aTe.2.2.2.2.2.2.2.2.2.2.2.2.2.2.1 aDx ?_
          refine lv_icmp_le (tgt := 130) hx hb aTe.2.2.2.2.2.2.2.2.2.2.2.2.2.2.2 (by decide) (fun hc => ?_) (fun hc => ?_)
          · have hp := hp.1 hc
            exact ks_X7_reckon_130 C0 hKn x1 x2 qU H locs ls hp hP hD hS (lv_sub hl [1, 2, 3] rfl)
          · have hp := hp.2 hc
            obtain ⟨v_5, aJD⟩ : ∃ y : Int32, y = x1 + (-1) := ⟨_, rfl⟩
            refine lv_iinc (v := v_5) (lv' := [(1, .int v_5), (3, .int v_3), (0, .ref xO), (2, .int x2)]) hx hb aTf.1 hl (k := 2) rfl (by rw [aJD]; rfl) (by decide) rfl (fun ls hl => ?_)
            have hp := hp v_5 aJD
            refine lv_aload_n hx hb aTf.2.1 rfl (lv_at hl 2 rfl) ?_
            refine va_get (D := (dC, dI)) (ci := 7) (v := .ref uR) (C := RX7) (T := TX7) (N := 11) hx hb hts i_X7 hown hK hP 0 rfl rfl 2 (lbz rfl) (hts _ q_284) (fun _ h9 => h9) rfl aTf.2.2.1 ?_
            refine lv_iload_n hx hb aTf.2.2.2.1 rfl (lv_at hl 0 rfl) ?_
            refine lv_iconst (v := 1) hx hb aTf.2.2.2.2.1 aDx ?_
            refine lv_isub hx hb aTf.2.2.2.2.2.1 ?_
            refine lv_topi (fun v_6 ev_6 => ?_)
            have hp := hp v_6 ev_6
            refine lv_iload_n hx hb aTf.2.2.2.2.2.2.1 rfl (lv_at hl 1 rfl) ?_
            refine lv_sipush (v := 2000) hx hb aTf.2.2.2.2.2.2.2.1 sp_2000 ?_
            refine lv_isub hx hb aTf.2.2.2.2.2.2.2.2.1 ?_
            refine lv_topi (fun v_7 ev_7 => ?_)
            have hp := hp v_7 ev_7
            refine lv_aload_n hx hb aTf.2.2.2.2.2.2.2.2.2.1 rfl (lv_at hl 2 rfl) ?_
            refine va_get (D := (dC, dI)) (ci := 7) (v := .ref uR) (C := RX7) (T := TX7) (N := 11) hx hb hts i_X7 hown hK hP 0 rfl rfl 2 (lbz rfl) (hts _ q_284) (fun _ h9 => h9) rfl aTf.2.2.2.2.2.2.2.2.2.2.1 ?_
            refine lv_iload_n hx hb aTf.2.2.2.2.2.2.2.2.2.2.2.1 rfl (lv_at hl 0 rfl) ?_
            refine lv_iconst (v := 1) hx hb aTf.2.2.2.2.2.2.2.2.2.2.2.2.1 aDx ?_
            refine lv_isub hx hb aTf.2.2.2.2.2.2.2.2.2.2.2.2.2.1 ?_
            refine lv_topi (fun v_8 ev_8 => ?_)
            have hp := hp v_8 ev_8
            have hin := hp.1
            have hp := hp.2
            refine va_iald hx hb hK hP 2 0 rfl rfl hin aTf.2.2.2.2.2.2.2.2.2.2.2.2.2.2.1 ?_
            refine lv_topi (fun v_9 ev_9 => ?_)
            have hp := hp v_9 ev_9
            refine lv_aload_n hx hb aTf.2.2.2.2.2.2.2.2.2.2.2.2.2.2.2 rfl (lv_at hl 2 rfl) ?_
            refine va_get (D := (dC, dI)) (ci := 7) (v := .ref uR) (C := RX7) (T := TX7) (N := 11) hx hb hts i_X7 hown hK hP 0 rfl rfl 2 (lbz rfl) (hts _ q_284) (fun _ h9 => h9) rfl aQp.1 ?_
            refine lv_iload_n hx hb aQp.2.1 rfl (lv_at hl 0 rfl) ?_
            have hin := hp.1
            have hp := hp.2
            refine va_iald hx hb hK hP 2 0 rfl rfl hin aQp.2.2.1 ?_
            refine lv_topi (fun aEr aNB => ?_)
            have hp := hp aEr aNB
            have hm := mgk (wc := (wd_X7_join cI cC cZ cB cJ)) hP mk_50 4 rfl rfl rfl
            refine yW hP hD hS hA (yS mk_50) (aAi mk_50) hm.1 hm.2 (aAk _) (zW _) (aDn (As := [.int v_7, .int v_9, .int aEr]) (rest := [.int v_6, .ref uR]) C0 hP hD hS (yS mk_50) hm.1 (aAl _) (c_X7_join l dC dI cI cC cZ cB cJ H.size v_7 v_9 aEr _ hp) q_285 q_287 q_286 q_108 h_X7_join rfl rfl ⟨lbz rfl, lbz rfl⟩ rfl rfl hl.1 rfl (lv_room (lbz rfl)) aQp.2.2.2.1 ⟨Nat.zero_le _, Nat.zero_le _⟩) (fun r_11 u H locs hp hP hD hS => ?_)
            have hPD := PDm (ws' := (aJ5 cI cC cZ cB cJ xO uS tX uR rY tY pQ qI sY uG pY nJ qY qU pN)) hP hD 4 rfl rfl rfl
            have hP := hPD.1
            have hD := hPD.2
            have hin := hp.1
            have hp := hp.2
            refine va_iast hx hb hK hP hD hS 2 0 rfl rfl hin aQp.2.2.2.2.1 (fun H locs hP hD hS => ?_)
            have hPD := PDw (ws' := (aJ5 cI cC cZ cB cJ xO uS tX uR rY tY pQ qI sY uG pY nJ qY (upd qU v_6.toNatClampNeg r_11) pN)) hP hD rfl
            have hP := hPD.1
            have hD := hPD.2
            exact ks_X7_reckon_130 C0 hKn v_5 x2 (upd qU v_6.toNatClampNeg r_11) H locs ls hp hP hD hS (lv_sub hl [2, 0, 3] rfl)
        · have hp := hp.2 hc
          refine lv_iload_n hx hb eX7_reckon_54.2.2.2.2.2.2.1 rfl (lv_at hl 2 rfl) ?_
          refine lv_if_le (tgt := 130) hx hb eX7_reckon_54.2.2.2.2.2.2.2.1 (by decide) (fun hc => ?_) (fun hc => ?_)
          · have hp := hp.1 hc
            exact ks_X7_reckon_130 C0 hKn x1 x2 qU H locs ls hp hP hD hS (lv_sub hl [1, 2, 3] rfl)
          · have hp := hp.2 hc
            refine lv_aload_n hx hb eX7_reckon_54.2.2.2.2.2.2.2.2 rfl (lv_at hl 1 rfl) ?_
            refine va_get (D := (dC, dI)) (ci := 7) (v := .ref uR) (C := RX7) (T := TX7) (N := 11) hx hb hts i_X7 hown hK hP 0 rfl rfl 2 (lbz rfl) (hts _ q_284) (fun _ h9 => h9) rfl aTe.1 ?_
            refine lv_iload_n hx hb aTe.2.1 rfl (lv_at hl 2 rfl) ?_
            refine lv_iconst (v := 1) hx hb aTe.2.2.1 aDx ?_
            refine lv_isub hx hb aTe.2.2.2.1 ?_
            refine lv_topi (fun aEp ev_12 => ?_)
            have hp := hp aEp ev_12
            refine lv_aload_n hx hb aTe.2.2.2.2.1 rfl (lv_at hl 1 rfl) ?_
            refine va_get (D := (dC, dI)) (ci := 7) (v := .ref uR) (C := RX7) (T := TX7) (N := 11) hx hb hts i_X7 hown hK hP 0 rfl rfl 2 (lbz rfl) (hts _ q_284) (fun _ h9 => h9) rfl aTe.2.2.2.2.2.1 ?_
            refine lv_iload_n hx hb aTe.2.2.2.2.2.2.1 rfl (lv_at hl 2 rfl) ?_
            refine lv_iconst (v := 1) hx hb aTe.2.2.2.2.2.2.2.1 aDx ?_
            refine lv_isub hx hb aTe.2.2.2.2.2.2.2.2.1 ?_
            refine lv_topi (fun aIQ ev_13 => ?_)
            have hp := hp aIQ ev_13
            have hin := hp.1
            have hp := hp.2
            refine va_iald hx hb hK hP 2 0 rfl rfl hin aTe.2.2.2.2.2.2.2.2.2.1 ?_
            refine lv_ineg hx hb aTe.2.2.2.2.2.2.2.2.2.2.1 ?_
            refine lv_topi (fun aGC ev_14 => ?_)
            have hp := hp aGC ev_14
            have hin := hp.1
            have hp := hp.2
            refine va_iast hx hb hK hP hD hS 2 0 rfl rfl hin aTe.2.2.2.2.2.2.2.2.2.2.2.1 (fun H locs hP hD hS => ?_)
            have hPD := PDw (ws' := (aJ5 cI cC cZ cB cJ xO uS tX uR rY tY pQ qI sY uG pY nJ qY (upd qU aEp.toNatClampNeg aGC) pN)) hP hD rfl
            have hP := hPD.1
            have hD := hPD.2
            refine lv_goto (tgt := 130) hx hb aTe.2.2.2.2.2.2.2.2.2.2.2.2.1 (by decide) ?_
            exact ks_X7_reckon_130 C0 hKn x1 x2 (upd qU aEp.toNatClampNeg aGC) H locs ls hp hP hD hS (lv_sub hl [1, 2, 3] rfl)
      · have hp := hp.2 hc
        refine lv_iload_n hx hb aTd.2.2.2.2.2.1 rfl (lv_at hl 2 rfl) ?_
        refine lv_aload_n hx hb aTd.2.2.2.2.2.2.1 rfl (lv_at hl 1 rfl) ?_
        refine va_get (D := (dC, dI)) (ci := 7) (v := .ref uR) (C := RX7) (T := TX7) (N := 11) hx hb hts i_X7 hown hK hP 0 rfl rfl 2 (lbz rfl) (hts _ q_284) (fun _ h9 => h9) rfl aTd.2.2.2.2.2.2.2.1 ?_
        refine va_alen (v := 40) hx hb hK hP 2 0 rfl rfl rfl aTd.2.2.2.2.2.2.2.2.1 ?_
        refine lv_icmp_ge (tgt := 130) hx hb aTd.2.2.2.2.2.2.2.2.2.1 (by decide) (fun hc => ?_) (fun hc => ?_)
        · have hp := hp.1 hc
          exact ks_X7_reckon_130 C0 hKn x1 x2 qU H locs ls hp hP hD hS (lv_sub hl [1, 2, 3] rfl)
        · have hp := hp.2 hc
          refine lv_aload_n hx hb aTd.2.2.2.2.2.2.2.2.2.2.1 rfl (lv_at hl 1 rfl) ?_
          refine va_get (D := (dC, dI)) (ci := 7) (v := .ref uR) (C := RX7) (T := TX7) (N := 11) hx hb hts i_X7 hown hK hP 0 rfl rfl 2 (lbz rfl) (hts _ q_284) (fun _ h9 => h9) rfl aTd.2.2.2.2.2.2.2.2.2.2.2.1 ?_
          refine lv_iload_n hx hb aTd.2.2.2.2.2.2.2.2.2.2.2.2.1 rfl (lv_at hl 2 rfl) ?_
          refine lv_aload_n hx hb aTd.2.2.2.2.2.2.2.2.2.2.2.2.2.1 rfl (lv_at hl 1 rfl) ?_
          refine lv_iload_n hx hb aTd.2.2.2.2.2.2.2.2.2.2.2.2.2.2.1 rfl (lv_at hl 0 rfl) ?_
          have hm := mgk (wc := (wd_X7_meant cI cC cZ cB cJ xO uS tX uR rY tY pQ qI sY uG pY nJ qY)) hP mk_1 4 rfl rfl rfl
          refine yW hP hD hS hA (yS mk_1) (aAi mk_1) hm.1 hm.2 (aAk _) (zW _) (zF (As := [.int v_3]) (rest := [.int x1, .ref uR]) C0 hP hD hS (yS mk_1) hm.1 (aAl _) 0 7 rfl rfl (c_X7_meant l dC dI cI cC cZ cB cJ xO uS tX uR rY tY H.size v_3 pQ qI sY uG pY nJ qY _ hp) q_288 q_291 q_289 q_290 q_108 h_X7_meant rfl rfl ⟨lbz rfl, lbz rfl⟩ rfl rfl hl.1 rfl (lv_room (lbz rfl)) aTd.2.2.2.2.2.2.2.2.2.2.2.2.2.2.2 ⟨Nat.zero_le _, Nat.zero_le _⟩) (fun r_15 u H locs hp hP hD hS => ?_)
          have hPD := PDm (ws' := (aJ5 cI cC cZ cB cJ xO uS tX uR rY tY pQ qI sY uG pY nJ qY qU pN)) hP hD 4 rfl rfl rfl
          have hP := hPD.1
          have hD := hPD.2
          have hin := hp.1
          have hp := hp.2
          refine va_iast hx hb hK hP hD hS 2 0 rfl rfl hin eX7_reckon_54.1 (fun H locs hP hD hS => ?_)
          have hPD := PDw (ws' := (aJ5 cI cC cZ cB cJ xO uS tX uR rY tY pQ qI sY uG pY nJ qY (upd qU x1.toNatClampNeg r_15) pN)) hP hD rfl
          have hP := hPD.1
          have hD := hPD.2
          obtain ⟨aHb, ev_16⟩ : ∃ y : Int32, y = x1 + 1 := ⟨_, rfl⟩
          refine lv_iinc (v := aHb) (lv' := [(1, .int aHb), (3, .int v_3), (0, .ref xO), (2, .int x2)]) hx hb eX7_reckon_54.2.1 hl (k := 2) rfl (by rw [ev_16]; rfl) (by decide) rfl (fun ls hl => ?_)
          have hp := hp aHb ev_16
          refine lv_goto (tgt := 130) hx hb eX7_reckon_54.2.2.1 (by decide) ?_
          exact ks_X7_reckon_130 C0 hKn aHb x2 (upd qU x1.toNatClampNeg r_15) H locs ls hp hP hD hS (lv_sub hl [2, 0, 3] rfl)
set_option maxHeartbeats 4000000 in
set_option maxRecDepth 100000 in
theorem kb_X7_reckon_4 (C0 : gc aCQ (some .int) 4 RX7 (dC, dI) (tyl cI cC cZ cB cJ) A p s m args meth c) : ∀ (n : Nat), ∀ (x1 x2 : Int32) (qU : Nat -> Int32) (H : Heap) (locs : List Loc) (ls : Array Slot), (wb_X7_reckon_4 post pQ qY pN n) x1 x2 qU -> va_P (dC, dI) classes (aJ5 cI cC cZ cB cJ xO uS tX uR rY tY pQ qI sY uG pY nJ qY qU pN) H -> va_D A (aJ5 cI cC cZ cB cJ xO uS tX uR rY tY pQ qI sY uG pY nJ qY qU pN) -> va_S A s.heap H locs -> lv_has ls 4 [(0, .ref xO), (1, .int x1), (2, .int x2)] -> W p l e rm_X7_reckon s m args below meth c H locs 0 0 (MQ below (q_X7_reckon dC dI cI cC cZ cB cJ A xO uS tX uR rY tY pQ qI sY uG pY nJ qY pN post) args s 0 0 A) (F0 m 4 ls []) := by
  intro n
  induction n with
  | zero =>
    intro x1 x2 qU H locs ls hp
    exact False.elim hp
  | succ n ih =>
    intro x1 x2 qU H locs ls hp
    exact ks_X7_reckon_4 C0 ih x1 x2 qU H locs ls hp
end S_X7_reckon
def wp_X7_reckon (post : Int32 -> (Nat -> Int32) -> Prop) (pQ : Int32) (qY qU pN : Nat -> Int32) : Prop := ∃ n : Nat, wb_X7_reckon_4 post pQ qY pN n 0 0 qU
set_option maxHeartbeats 4000000 in
set_option maxRecDepth 100000 in
theorem c_X7_reckon (l : Launch) (dC : Nat -> ClassId) (dI : Nat -> Nat -> Nat) (cI cC cZ cB cJ : ClassId) (xO uS tX uR rY tY sz : Nat) (pQ qI sY uG pY nJ : Int32) (qY qU pN : Nat -> Int32) (post : Int32 -> (Nat -> Int32) -> Prop) (hw : wp_X7_reckon post pQ qY qU pN) : Met l yX7_reckon (gw yX7_reckon aCQ 4 (some .int)) rm_X7_reckon (va_Pc [.ref xO] (gPre (dC, dI) (tyl cI cC cZ cB cJ) (aJ5 cI cC cZ cB cJ xO uS tX uR rY tY pQ qI sY uG pY nJ qY qU pN) sz)) (q_X7_reckon dC dI cI cC cZ cB cJ (va_A (aJ5 cI cC cZ cB cJ xO uS tX uR rY tY pQ qI sY uG pY nJ qY qU pN) sz) xO uS tX uR rY tY pQ qI sY uG pY nJ qY pN post) 0 0 (va_A (aJ5 cI cC cZ cB cJ xO uS tX uR rY tY pQ qI sY uG pY nJ qY qU pN) sz) := by
  refine aBJ (own := RX7) (dC, dI) (tyl cI cC cZ cB cJ) (aJ5 cI cC cZ cB cJ xO uS tX uR rY tY pQ qI sY uG pY nJ qY qU pN) sz [.ref xO] (fun A => q_X7_reckon dC dI cI cC cZ cB cJ A xO uS tX uR rY tY pQ qI sY uG pY nJ qY pN post) pn_RX7 rfl (lbz rfl) ?_
  intro p e s m args below meth c A H locs ls C0 hP hD hS hl
  have hl : lv_has ls 4 [(0, .ref xO)] := hl
  obtain ⟨hx, hb, hr, hml, hown, hts, hlocks, hA, hK, hN, tL, tM, hZL, hTL, hZM, hTM, hZX⟩ := id C0
  have hp := hw
  unfold wp_X7_reckon at hp
  refine lv_iconst (v := 0) hx hb aWg.1 aCi ?_
  refine lv_istore_n (lv' := [(1, .int 0), (0, .ref xO)]) hx hb aWg.2.1 rfl hl (by decide) rfl (fun ls hl => ?_)
  refine lv_iconst (v := 0) hx hb aWg.2.2.1 aCi ?_
  refine lv_istore_n (lv' := [(2, .int 0), (1, .int 0), (0, .ref xO)]) hx hb aWg.2.2.2.1 rfl hl (by decide) rfl (fun ls hl => ?_)
  obtain ⟨n9, hp⟩ := hp
  exact kb_X7_reckon_4 C0 n9 0 0 qU H locs ls hp hP hD hS (lv_sub hl [2, 1, 0] rfl)
abbrev aDu (cI cC cZ cB cJ : ClassId) (xB vI wY xO tJ jJ mY pG pD pE eO uS tX uR rY tY : Nat) (dN bD bJ aI : Int32) (uU gF pL mX oE : Nat -> Int32) (jE eW eY dU fY gJ jG nU pQ qI sY uG pY nJ : Int32) (qY qU pN : Nat -> Int32) : va_W := [(xB, .inr (0, [.ref vI, .ref wY, .ref xO])), (vI, .inr (3, [.ref tJ, .ref jJ, .ref mY, .ref pG, .ref pD, .ref pE, .ref eO, .int dN, .int bD, .int bJ, .int aI])), (tJ, .inl (cI, 16, .inl uU)), (jJ, .inl (cI, 16, .inl gF)), (mY, .inl (cI, 16, .inl pL)), (pD, .inl (cI, 8, .inl mX)), (pE, .inl (cI, 8, .inl oE)), (wY, .inr (2, [.int jE, .int eW, .int eY, .int dU, .int fY, .int gJ, .int jG, .int nU])), (xO, .inr (7, [.ref uS, .ref tX, .ref uR, .ref rY, .ref tY, .int pQ, .int qI, .int sY, .int uG, .int pY, .int nJ])), (uS, .inl (cI, 7, .inl qY)), (uR, .inl (cI, 40, .inl qU)), (rY, .inl (cI, 40, .inl pN))]
abbrev q_X0_pickSeconds (dC : Nat -> ClassId) (dI : Nat -> Nat -> Nat) (cI cC cZ cB cJ : ClassId) (A : Nat -> Prop) (xB vI wY xO tJ jJ mY pG pD pE eO uS tX uR rY tY : Nat) (dN bD bJ aI : Int32) (uU gF pL mX oE : Nat -> Int32) (jE eW eY dU fY gJ jG nU pQ qI sY uG pY nJ : Int32) (pN : Nat -> Int32) (post : Int32 -> (Nat -> Int32) -> (Nat -> Int32) -> Prop) : Array Value -> State -> Outcome -> State -> Prop := va_Qi (fun (r : Int32) (u : (Nat -> Int32) × (Nat -> Int32)) => post r u.1 u.2) (fun u t => gB (dC, dI) (tyl cI cC cZ cB cJ) A (aDu cI cC cZ cB cJ xB vI wY xO tJ jJ mY pG pD pE eO uS tX uR rY tY dN bD bJ aI uU gF pL mX oE jE eW eY dU fY gJ jG nU pQ qI sY uG pY nJ u.1 u.2 pN) t) A
abbrev rm_X0_pickSeconds : Room := { frames := 2, cells := 0, slots := 0, locals := 45 }
section S_X0_pickSeconds
variable {p : Program} {l : Launch} {e : Env} {s : State} {m : MethodId} {args : Array Value} {below : List Frame} {meth : Method} {c : Code} {dC : Nat -> ClassId} {dI : Nat -> Nat -> Nat} {cI cC cZ cB cJ : ClassId} {A : Nat -> Prop} {xB vI wY xO tJ jJ mY pG pD pE eO uS tX uR rY tY : Nat} {dN bD bJ aI : Int32} {uU gF pL mX oE : Nat -> Int32} {jE eW eY dU fY gJ jG nU pQ qI sY uG pY nJ : Int32} {pN : Nat -> Int32} {post : Int32 -> (Nat -> Int32) -> (Nat -> Int32) -> Prop}
def bCc (post : Int32 -> (Nat -> Int32) -> (Nat -> Int32) -> Prop) (dN : Int32) (uU gF pL mX oE : Nat -> Int32) (dU pQ : Int32) (pN : Nat -> Int32) (k0 : Int32) (qY qU : Nat -> Int32) : Prop := ∀ v_8 : Int32, v_8 = (if k0 < 99 then k0 else 99) -> ∀ v_9 : Int32, v_9 = (if 1 < v_8 then v_8 else 1) -> post v_9 qY qU
set_option maxHeartbeats 4000000 in
set_option maxRecDepth 100000 in
theorem ks_X0_pickSeconds_123 (C0 : gc aBm (some .int) 9 RX0 (dC, dI) (tyl cI cC cZ cB cJ) A p s m args meth c) : ∀ (k0 : Int32) (qY qU : Nat -> Int32) (H : Heap) (locs : List Loc) (ls : Array Slot), (bCc post dN uU gF pL mX oE dU pQ pN) k0 qY qU -> va_P (dC, dI) classes (aDu cI cC cZ cB cJ xB vI wY xO tJ jJ mY pG pD pE eO uS tX uR rY tY dN bD bJ aI uU gF pL mX oE jE eW eY dU fY gJ jG nU pQ qI sY uG pY nJ qY qU pN) H -> va_D A (aDu cI cC cZ cB cJ xB vI wY xO tJ jJ mY pG pD pE eO uS tX uR rY tY dN bD bJ aI uU gF pL mX oE jE eW eY dU fY gJ jG nU pQ qI sY uG pY nJ qY qU pN) -> va_S A s.heap H locs -> lv_has ls 9 [] -> W p l e rm_X0_pickSeconds s m args below meth c H locs 0 0 (MQ below (q_X0_pickSeconds dC dI cI cC cZ cB cJ A xB vI wY xO tJ jJ mY pG pD pE eO uS tX uR rY tY dN bD bJ aI uU gF pL mX oE jE eW eY dU fY gJ jG nU pQ qI sY uG pY nJ pN post) args s 0 0 A) (F0 m 123 ls [.int k0]) := by
  obtain ⟨hx, hb, hr, hml, hown, hts, hlocks, hA, hK, hN, tL, tM, hZL, hTL, hZM, hTM, hZX⟩ := id C0
  intro k0 qY qU H locs ls hp hP hD hS hl
  unfold bCc at hp
  refine lv_istore (lv' := [(8, .int k0)]) hx hb aIs.2.2.2.2.2.2.2.2.2.1 hl (by decide) rfl (fun ls hl => ?_)
  refine lv_iconst (v := 1) hx hb aIs.2.2.2.2.2.2.2.2.2.2.1 aDx ?_
  refine lv_bipush (v := 99) hx hb aIs.2.2.2.2.2.2.2.2.2.2.2.1 bp_99 ?_
  refine lv_iload hx hb aIs.2.2.2.2.2.2.2.2.2.2.2.2.1 (lv_at hl 0 rfl) ?_
  refine va_mmin hx hb (by rw [hml]; exact hl.1.symm) hown (hts _ q_306) (hts _ q_15) (hts _ q_16) (hts _ q_17) (lbz rfl) (lbz rfl) (Nat.zero_le _) (Nat.zero_le _) aIs.2.2.2.2.2.2.2.2.2.2.2.2.2.1 ?_
  refine lv_topi (fun v_8 ev_8 => ?_)
  have hp := hp v_8 ev_8
  refine va_mmax hx hb (by rw [hml]; exact hl.1.symm) hown (hts _ q_307) (hts _ q_134) (hts _ q_16) (hts _ q_135) (lbz rfl) (lbz rfl) (Nat.zero_le _) (Nat.zero_le _) aIs.2.2.2.2.2.2.2.2.2.2.2.2.2.2.1 ?_
  refine lv_topi (fun v_9 ev_9 => ?_)
  have hp := hp v_9 ev_9
  exact W.iret (v := v_9) hx hb hr (fun t ht hW => ⟨⟨v_9, (qY, qU), rfl, hp, by rw [ht]; exact hP, va_K.moved hW.alike hK, hD⟩, hS.F ht⟩) hS.2.2 aIs.2.2.2.2.2.2.2.2.2.2.2.2.2.2.2
def ws_X0_pickSeconds_92 (post : Int32 -> (Nat -> Int32) -> (Nat -> Int32) -> Prop) (dN : Int32) (uU gF pL mX oE : Nat -> Int32) (dU pQ : Int32) (pN : Nat -> Int32) (x6 x7 : Int32) (qY qU : Nat -> Int32) : Prop := (¬ pQ = 0 -> wp_X7_reckon (fun r_6 ru_stack_7 => bCc post dN uU gF pL mX oE dU pQ pN r_6 qY ru_stack_7) pQ qY qU pN) /\ (pQ = 0 -> ∀ aEr : Int32, aEr = 2 + (x6 / 4) -> ∀ aGH : Int32, aGH = aEr + (x7 / 2) -> bCc post dN uU gF pL mX oE dU pQ pN aGH qY qU)
set_option maxHeartbeats 4000000 in
set_option maxRecDepth 100000 in
theorem ks_X0_pickSeconds_92 (C0 : gc aBm (some .int) 9 RX0 (dC, dI) (tyl cI cC cZ cB cJ) A p s m args meth c) : ∀ (x6 x7 : Int32) (qY qU : Nat -> Int32) (H : Heap) (locs : List Loc) (ls : Array Slot), (ws_X0_pickSeconds_92 post dN uU gF pL mX oE dU pQ pN) x6 x7 qY qU -> va_P (dC, dI) classes (aDu cI cC cZ cB cJ xB vI wY xO tJ jJ mY pG pD pE eO uS tX uR rY tY dN bD bJ aI uU gF pL mX oE jE eW eY dU fY gJ jG nU pQ qI sY uG pY nJ qY qU pN) H -> va_D A (aDu cI cC cZ cB cJ xB vI wY xO tJ jJ mY pG pD pE eO uS tX uR rY tY dN bD bJ aI uU gF pL mX oE jE eW eY dU fY gJ jG nU pQ qI sY uG pY nJ qY qU pN) -> va_S A s.heap H locs -> lv_has ls 9 [(0, .ref xB), (6, .int x6), (7, .int x7)] -> W p l e rm_X0_pickSeconds s m args below meth c H locs 0 0 (MQ below (q_X0_pickSeconds dC dI cI cC cZ cB cJ A xB vI wY xO tJ jJ mY pG pD pE eO uS tX uR rY tY dN bD bJ aI uU gF pL mX oE jE eW eY dU fY gJ jG nU pQ qI sY uG pY nJ pN post) args s 0 0 A) (F0 m 92 ls []) := by
  obtain ⟨hx, hb, hr, hml, hown, hts, hlocks, hA, hK, hN, tL, tM, hZL, hTL, hZM, hTM, hZX⟩ := id C0
  intro x6 x7 qY qU H locs ls hp hP hD hS hl
  unfold ws_X0_pickSeconds_92 at hp
  refine lv_aload_n hx hb aJr.2.2.2.2.2.2.2.2.1 rfl (lv_at hl 0 rfl) ?_
  refine va_get (D := (dC, dI)) (ci := 0) (v := .ref xO) (C := RX0) (T := TX0) (N := 3) hx hb hts i_X0 hown hK hP 0 rfl rfl 2 (lbz rfl) (hts _ q_292) (fun _ h9 => h9) rfl aJr.2.2.2.2.2.2.2.2.2.1 ?_
  refine va_get (D := (dC, dI)) (ci := 7) (v := .int pQ) (C := RX7) (T := TX7) (N := 11) hx hb hts i_X7 hown hK hP 8 rfl rfl 5 (lbz rfl) (hts _ q_301) (fun _ h9 => h9) rfl aJr.2.2.2.2.2.2.2.2.2.2.1 ?_
  refine lv_if_ne (tgt := 116) hx hb aJr.2.2.2.2.2.2.2.2.2.2.2.1 (by decide) (fun hc => ?_) (fun hc => ?_)
  · have hp := hp.1 hc
    refine lv_aload_n hx hb aIs.2.2.2.2.2.2.1 rfl (lv_at hl 0 rfl) ?_
    refine va_get (D := (dC, dI)) (ci := 0) (v := .ref xO) (C := RX0) (T := TX0) (N := 3) hx hb hts i_X0 hown hK hP 0 rfl rfl 2 (lbz rfl) (hts _ q_292) (fun _ h9 => h9) rfl aIs.2.2.2.2.2.2.2.1 ?_
    have hm := mgk (wc := (aJ5 cI cC cZ cB cJ xO uS tX uR rY tY pQ qI sY uG pY nJ qY qU pN)) hP mk_51 12 rfl rfl rfl
    refine yW hP hD hS hA (yS mk_51) (aAi mk_51) hm.1 hm.2 (aAk _) (zW _) (zF (As := []) (rest := []) C0 hP hD hS (yS mk_51) hm.1 (aAl _) 8 7 rfl rfl (c_X7_reckon l dC dI cI cC cZ cB cJ xO uS tX uR rY tY H.size pQ qI sY uG pY nJ qY qU pN _ hp) q_302 q_305 q_303 q_304 q_108 h_X7_reckon rfl rfl ⟨lbz rfl, lbz rfl⟩ rfl rfl hl.1 rfl (lv_room (lbz rfl)) aIs.2.2.2.2.2.2.2.2.1 ⟨Nat.zero_le _, Nat.zero_le _⟩) (fun r_6 u H locs hp hP hD hS => ?_)
    obtain ⟨ru_stack_7, rfl⟩ : ∃ z, z = u := ⟨_, rfl⟩
    have hPD := PDm (ws' := (aDu cI cC cZ cB cJ xB vI wY xO tJ jJ mY pG pD pE eO uS tX uR rY tY dN bD bJ aI uU gF pL mX oE jE eW eY dU fY gJ jG nU pQ qI sY uG pY nJ qY ru_stack_7 pN)) hP hD 12 rfl rfl rfl
    have hP := hPD.1
    have hD := hPD.2
    exact ks_X0_pickSeconds_123 C0 r_6 qY ru_stack_7 H locs ls hp hP hD hS (lv_sub hl [] rfl)
  · have hp := hp.2 hc
    refine lv_iconst (v := 2) hx hb aJr.2.2.2.2.2.2.2.2.2.2.2.2.1 ic_2 ?_
    refine lv_iload hx hb aJr.2.2.2.2.2.2.2.2.2.2.2.2.2.1 (lv_at hl 1 rfl) ?_
    refine lv_iconst (v := 4) hx hb aJr.2.2.2.2.2.2.2.2.2.2.2.2.2.2.1 ic_4 ?_
    refine lv_idiv hx hb aJr.2.2.2.2.2.2.2.2.2.2.2.2.2.2.2 (by decide) ?_
    refine lv_iadd hx hb aIs.1 ?_
    refine lv_topi (fun aEr aNB => ?_)
    have hp := hp aEr aNB
    refine lv_iload hx hb aIs.2.1 (lv_at hl 2 rfl) ?_
    refine lv_iconst (v := 2) hx hb aIs.2.2.1 ic_2 ?_
    refine lv_idiv hx hb aIs.2.2.2.1 (by decide) ?_
    refine lv_iadd hx hb aIs.2.2.2.2.1 ?_
    refine lv_topi (fun aGH ev_11 => ?_)
    have hp := hp aGH ev_11
    refine lv_goto (tgt := 123) hx hb aIs.2.2.2.2.2.1 (by decide) ?_
    exact ks_X0_pickSeconds_123 C0 aGH qY qU H locs ls hp hP hD hS (lv_sub hl [] rfl)
end S_X0_pickSeconds
def aSP (post : Int32 -> (Nat -> Int32) -> (Nat -> Int32) -> Prop) (p0 p1 p2 p3 dN : Int32) (uU gF pL mX oE : Nat -> Int32) (dU pQ : Int32) (qY qU pN : Nat -> Int32) : Prop := wp_X3_aside (fun r_1 => wp_X3_above (fun r_2 => vp_in p0 16 /\ (∀ v_3 : Int32, v_3 = gF p0.toNatClampNeg -> ∀ v_4 : Int32, v_4 = 1 <<< (p0 &&& 31) -> aVC (fun r_5 => ws_X0_pickSeconds_92 post dN uU gF pL mX oE dU pQ pN r_1 r_2 (upd (upd (upd (upd (upd (upd (upd qY (0 : Int32).toNatClampNeg r_1) (1 : Int32).toNatClampNeg r_2) (2 : Int32).toNatClampNeg v_3) (3 : Int32).toNatClampNeg r_5) (4 : Int32).toNatClampNeg p1) (5 : Int32).toNatClampNeg p3) (6 : Int32).toNatClampNeg p2) qU) v_4 dN pL dU)) p0 p1 gF oE) p0 p1 uU mX
set_option maxHeartbeats 4000000 in
set_option maxRecDepth 100000 in
theorem c_X0_pickSeconds (l : Launch) (dC : Nat -> ClassId) (dI : Nat -> Nat -> Nat) (cI cC cZ cB cJ : ClassId) (xB vI wY xO tJ jJ mY pG pD pE eO uS tX uR rY tY sz : Nat) (p0 p1 p2 p3 dN bD bJ aI : Int32) (uU gF pL mX oE : Nat -> Int32) (jE eW eY dU fY gJ jG nU pQ qI sY uG pY nJ : Int32) (qY qU pN : Nat -> Int32) (post : Int32 -> (Nat -> Int32) -> (Nat -> Int32) -> Prop) (hw : aSP post p0 p1 p2 p3 dN uU gF pL mX oE dU pQ qY qU pN) : Met l aXO (gw aXO aBm 9 (some .int)) rm_X0_pickSeconds (va_Pc [.ref xB, .int p0, .int p1, .int p2, .int p3] (gPre (dC, dI) (tyl cI cC cZ cB cJ) (aDu cI cC cZ cB cJ xB vI wY xO tJ jJ mY pG pD pE eO uS tX uR rY tY dN bD bJ aI uU gF pL mX oE jE eW eY dU fY gJ jG nU pQ qI sY uG pY nJ qY qU pN) sz)) (q_X0_pickSeconds dC dI cI cC cZ cB cJ (va_A (aDu cI cC cZ cB cJ xB vI wY xO tJ jJ mY pG pD pE eO uS tX uR rY tY dN bD bJ aI uU gF pL mX oE jE eW eY dU fY gJ jG nU pQ qI sY uG pY nJ qY qU pN) sz) xB vI wY xO tJ jJ mY pG pD pE eO uS tX uR rY tY dN bD bJ aI uU gF pL mX oE jE eW eY dU fY gJ jG nU pQ qI sY uG pY nJ pN post) 0 0 (va_A (aDu cI cC cZ cB cJ xB vI wY xO tJ jJ mY pG pD pE eO uS tX uR rY tY dN bD bJ aI uU gF pL mX oE jE eW eY dU fY gJ jG nU pQ qI sY uG pY nJ qY qU pN) sz) := by
  refine aBJ (own := RX0) (dC, dI) (tyl cI cC cZ cB cJ) (aDu cI cC cZ cB cJ xB vI wY xO tJ jJ mY pG pD pE eO uS tX uR rY tY dN bD bJ aI uU gF pL mX oE jE eW eY dU fY gJ jG nU pQ qI sY uG pY nJ qY qU pN) sz [.ref xB, .int p0, .int p1, .int p2, .int p3] (fun A => q_X0_pickSeconds dC dI cI cC cZ cB cJ A xB vI wY xO tJ jJ mY pG pD pE eO uS tX uR rY tY dN bD bJ aI uU gF pL mX oE jE eW eY dU fY gJ jG nU pQ qI sY uG pY nJ pN post) pn_RX0 rfl (lbz rfl) ?_
  intro p e s m args below meth c A H locs ls C0 hP hD hS hl
  have hl : lv_has ls 9 [(0, .ref xB), (1, .int p0), (2, .int p1), (3, .int p2), (4, .int p3)] := hl
  obtain ⟨hx, hb, hr, hml, hown, hts, hlocks, hA, hK, hN, tL, tM, hZL, hTL, hZM, hTM, hZX⟩ := id C0
  have hp := hw
  unfold aSP at hp
  refine lv_aload_n hx hb aKg.1 rfl (lv_at hl 0 rfl) ?_
  refine va_get (D := (dC, dI)) (ci := 0) (v := .ref xO) (C := RX0) (T := TX0) (N := 3) hx hb hts i_X0 hown hK hP 0 rfl rfl 2 (lbz rfl) (hts _ q_292) (fun _ h9 => h9) rfl aKg.2.1 ?_
  refine va_get (D := (dC, dI)) (ci := 7) (v := .ref uS) (C := RX7) (T := TX7) (N := 11) hx hb hts i_X7 hown hK hP 8 rfl rfl 0 (lbz rfl) (hts _ q_293) (fun _ h9 => h9) rfl aKg.2.2.1 ?_
  refine lv_astore (lv' := [(5, .ref uS), (0, .ref xB), (1, .int p0), (2, .int p1), (3, .int p2), (4, .int p3)]) hx hb aKg.2.2.2.1 hl (by decide) rfl (fun ls hl => ?_)
  refine lv_aload_n hx hb aKg.2.2.2.2.1 rfl (lv_at hl 1 rfl) ?_
  refine va_get (D := (dC, dI)) (ci := 0) (v := .ref vI) (C := RX0) (T := TX0) (N := 3) hx hb hts i_X0 hown hK hP 0 rfl rfl 0 (lbz rfl) (hts _ q_156) (fun _ h9 => h9) rfl aKg.2.2.2.2.2.1 ?_
  refine lv_iload_n hx hb aKg.2.2.2.2.2.2.1 rfl (lv_at hl 2 rfl) ?_
  refine lv_iload_n hx hb aKg.2.2.2.2.2.2.2.1 rfl (lv_at hl 3 rfl) ?_
  have hm := mgk (wc := (wd_X3_aside cI cC cZ cB cJ vI tJ jJ mY pG pD pE eO dN bD bJ aI uU mX)) hP mk_52 12 rfl rfl rfl
  refine yW hP hD hS hA (yS mk_52) (aAi mk_52) hm.1 hm.2 (aAk _) (zW _) (zF (As := [.int p0, .int p1]) (rest := []) C0 hP hD hS (yS mk_52) hm.1 (aAl _) 1 3 rfl rfl (c_X3_aside l dC dI cI cC cZ cB cJ vI tJ jJ mY pG pD pE eO H.size p0 p1 dN bD bJ aI uU mX _ hp) q_267 q_294 q_268 q_269 q_48 h_X3_aside rfl rfl ⟨lbz rfl, lbz rfl⟩ rfl rfl hl.1 rfl (lv_room (lbz rfl)) aKg.2.2.2.2.2.2.2.2.1 ⟨Nat.zero_le _, Nat.zero_le _⟩) (fun r_1 u H locs hp hP hD hS => ?_)
  have hPD := PDm (ws' := (aDu cI cC cZ cB cJ xB vI wY xO tJ jJ mY pG pD pE eO uS tX uR rY tY dN bD bJ aI uU gF pL mX oE jE eW eY dU fY gJ jG nU pQ qI sY uG pY nJ qY qU pN)) hP hD 12 rfl rfl rfl
  have hP := hPD.1
  have hD := hPD.2
  refine lv_istore (lv' := [(6, .int r_1), (5, .ref uS), (0, .ref xB), (1, .int p0), (2, .int p1), (3, .int p2), (4, .int p3)]) hx hb aKg.2.2.2.2.2.2.2.2.2.1 hl (by decide) rfl (fun ls hl => ?_)
  refine lv_aload_n hx hb aKg.2.2.2.2.2.2.2.2.2.2.1 rfl (lv_at hl 2 rfl) ?_
  refine va_get (D := (dC, dI)) (ci := 0) (v := .ref vI) (C := RX0) (T := TX0) (N := 3) hx hb hts i_X0 hown hK hP 0 rfl rfl 0 (lbz rfl) (hts _ q_156) (fun _ h9 => h9) rfl aKg.2.2.2.2.2.2.2.2.2.2.2.1 ?_
  refine lv_iload_n hx hb aKg.2.2.2.2.2.2.2.2.2.2.2.2.1 rfl (lv_at hl 3 rfl) ?_
  refine lv_iload_n hx hb aKg.2.2.2.2.2.2.2.2.2.2.2.2.2.1 rfl (lv_at hl 4 rfl) ?_
  have hm := mgk (wc := (wd_X3_above cI cC cZ cB cJ vI tJ jJ mY pG pD pE eO dN bD bJ aI gF oE)) hP mk_53 12 rfl rfl rfl
  refine yW hP hD hS hA (yS mk_53) (aAi mk_53) hm.1 hm.2 (aAk _) (zW _) (zF (As := [.int p0, .int p1]) (rest := []) C0 hP hD hS (yS mk_53) hm.1 (aAl _) 1 3 rfl rfl (c_X3_above l dC dI cI cC cZ cB cJ vI tJ jJ mY pG pD pE eO H.size p0 p1 dN bD bJ aI gF oE _ hp) q_271 q_295 q_272 q_273 q_48 h_X3_above rfl rfl ⟨lbz rfl, lbz rfl⟩ rfl rfl hl.1 rfl (lv_room (lbz rfl)) aKg.2.2.2.2.2.2.2.2.2.2.2.2.2.2.1 ⟨Nat.zero_le _, Nat.zero_le _⟩) (fun r_2 u H locs hp hP hD hS => ?_)
  have hPD := PDm (ws' := (aDu cI cC cZ cB cJ xB vI wY xO tJ jJ mY pG pD pE eO uS tX uR rY tY dN bD bJ aI uU gF pL mX oE jE eW eY dU fY gJ jG nU pQ qI sY uG pY nJ qY qU pN)) hP hD 12 rfl rfl rfl
  have hP := hPD.1
  have hD := hPD.2
  refine lv_istore (lv' := [(7, .int r_2), (6, .int r_1), (5, .ref uS), (0, .ref xB), (1, .int p0), (2, .int p1), (3, .int p2), (4, .int p3)]) hx hb aKg.2.2.2.2.2.2.2.2.2.2.2.2.2.2.2 hl (by decide) rfl (fun ls hl => ?_)
  refine lv_aload hx hb aJp.1 (lv_at hl 2 rfl) ?_
  refine va_alen (v := 7) hx hb hK hP 9 0 rfl rfl rfl aJp.2.1 ?_
  refine lv_bipush (v := 7) hx hb aJp.2.2.1 bp_7 ?_
  refine lv_icmp_lt (tgt := 92) hx hb aJp.2.2.2.1 (by decide) (fun hc => absurd hc (by decide)) (fun hc => ?_)
  refine lv_aload hx hb aJp.2.2.2.2.1 (lv_at hl 2 rfl) ?_
  refine lv_iconst (v := 0) hx hb aJp.2.2.2.2.2.1 aCi ?_
  refine lv_iload hx hb aJp.2.2.2.2.2.2.1 (lv_at hl 1 rfl) ?_
  refine va_iast hx hb hK hP hD hS 9 0 rfl rfl (g_in rfl) aJp.2.2.2.2.2.2.2.1 (fun H locs hP hD hS => ?_)
  have hPD := PDw (ws' := (aDu cI cC cZ cB cJ xB vI wY xO tJ jJ mY pG pD pE eO uS tX uR rY tY dN bD bJ aI uU gF pL mX oE jE eW eY dU fY gJ jG nU pQ qI sY uG pY nJ (upd qY (0 : Int32).toNatClampNeg r_1) qU pN)) hP hD rfl
  have hP := hPD.1
  have hD := hPD.2
  refine lv_aload hx hb aJp.2.2.2.2.2.2.2.2.1 (lv_at hl 2 rfl) ?_
  refine lv_iconst (v := 1) hx hb aJp.2.2.2.2.2.2.2.2.2.1 aDx ?_
  refine lv_iload hx hb aJp.2.2.2.2.2.2.2.2.2.2.1 (lv_at hl 0 rfl) ?_
  refine va_iast hx hb hK hP hD hS 9 0 rfl rfl (g_in rfl) aJp.2.2.2.2.2.2.2.2.2.2.2.1 (fun H locs hP hD hS => ?_)
  have hPD := PDw (ws' := (aDu cI cC cZ cB cJ xB vI wY xO tJ jJ mY pG pD pE eO uS tX uR rY tY dN bD bJ aI uU gF pL mX oE jE eW eY dU fY gJ jG nU pQ qI sY uG pY nJ (upd (upd qY (0 : Int32).toNatClampNeg r_1) (1 : Int32).toNatClampNeg r_2) qU pN)) hP hD rfl
  have hP := hPD.1
  have hD := hPD.2
  refine lv_aload hx hb aJp.2.2.2.2.2.2.2.2.2.2.2.2.1 (lv_at hl 2 rfl) ?_
  refine lv_iconst (v := 2) hx hb aJp.2.2.2.2.2.2.2.2.2.2.2.2.2.1 ic_2 ?_
  refine lv_aload_n hx hb aJp.2.2.2.2.2.2.2.2.2.2.2.2.2.2.1 rfl (lv_at hl 3 rfl) ?_
  refine va_get (D := (dC, dI)) (ci := 0) (v := .ref vI) (C := RX0) (T := TX0) (N := 3) hx hb hts i_X0 hown hK hP 0 rfl rfl 0 (lbz rfl) (hts _ q_156) (fun _ h9 => h9) rfl aJp.2.2.2.2.2.2.2.2.2.2.2.2.2.2.2 ?_
  refine va_get (D := (dC, dI)) (ci := 3) (v := .ref jJ) (C := RX3) (T := TX3) (N := 11) hx hb hts i_X3 hown hK hP 1 rfl rfl 1 (lbz rfl) (hts _ q_296) (fun _ h9 => h9) rfl aJq.1 ?_
  refine lv_iload_n hx hb aJq.2.1 rfl (lv_at hl 4 rfl) ?_
  have hin := hp.1
  have hp := hp.2
  refine va_iald hx hb hK hP 3 0 rfl rfl hin aJq.2.2.1 ?_
  refine lv_topi (fun v_3 aGW => ?_)
  have hp := hp v_3 aGW
  refine va_iast hx hb hK hP hD hS 9 0 rfl rfl (g_in rfl) aJq.2.2.2.1 (fun H locs hP hD hS => ?_)
  have hPD := PDw (ws' := (aDu cI cC cZ cB cJ xB vI wY xO tJ jJ mY pG pD pE eO uS tX uR rY tY dN bD bJ aI uU gF pL mX oE jE eW eY dU fY gJ jG nU pQ qI sY uG pY nJ (upd (upd (upd qY (0 : Int32).toNatClampNeg r_1) (1 : Int32).toNatClampNeg r_2) (2 : Int32).toNatClampNeg v_3) qU pN)) hP hD rfl
  have hP := hPD.1
  have hD := hPD.2
  refine lv_aload hx hb aJq.2.2.2.2.1 (lv_at hl 2 rfl) ?_
  refine lv_iconst (v := 3) hx hb aJq.2.2.2.2.2.1 ic_3 ?_
  refine lv_aload_n hx hb aJq.2.2.2.2.2.2.1 rfl (lv_at hl 3 rfl) ?_
  refine lv_iconst (v := 1) hx hb aJq.2.2.2.2.2.2.2.1 aDx ?_
  refine lv_iload_n hx hb aJq.2.2.2.2.2.2.2.2.1 rfl (lv_at hl 4 rfl) ?_
  refine lv_ishl hx hb aJq.2.2.2.2.2.2.2.2.2.1 ?_
  refine lv_topi (fun v_4 aHM => ?_)
  have hp := hp v_4 aHM
  have hm := mgk (wc := (aT8 cI cC cZ cB cJ xB vI wY xO tJ jJ mY pG pD pE eO dN bD bJ aI pL jE eW eY dU fY gJ jG nU)) hP mk_54 12 rfl rfl rfl
  refine yW hP hD hS hA (yS mk_54) (aAi mk_54) hm.1 hm.2 (aAk _) (zW _) (zF (As := [.int v_4]) (rest := [.int 3, .ref uS]) C0 hP hD hS (yS mk_54) hm.1 (aAl _) 0 0 rfl rfl (c_X0_worthOf l dC dI cI cC cZ cB cJ xB vI wY xO tJ jJ mY pG pD pE eO H.size v_4 dN bD bJ aI pL jE eW eY dU fY gJ jG nU _ hp) q_297 q_300 q_298 q_299 q_187 h_X0_worthOf rfl rfl ⟨lbz rfl, lbz rfl⟩ rfl rfl hl.1 rfl (lv_room (lbz rfl)) aJq.2.2.2.2.2.2.2.2.2.2.1 ⟨Nat.zero_le _, Nat.zero_le _⟩) (fun r_5 u H locs hp hP hD hS => ?_)
  have hPD := PDm (ws' := (aDu cI cC cZ cB cJ xB vI wY xO tJ jJ mY pG pD pE eO uS tX uR rY tY dN bD bJ aI uU gF pL mX oE jE eW eY dU fY gJ jG nU pQ qI sY uG pY nJ (upd (upd (upd qY (0 : Int32).toNatClampNeg r_1) (1 : Int32).toNatClampNeg r_2) (2 : Int32).toNatClampNeg v_3) qU pN)) hP hD 12 rfl rfl rfl
  have hP := hPD.1
  have hD := hPD.2
  refine va_iast hx hb hK hP hD hS 9 0 rfl rfl (g_in rfl) aJq.2.2.2.2.2.2.2.2.2.2.2.1 (fun H locs hP hD hS => ?_)
  have hPD := PDw (ws' := (aDu cI cC cZ cB cJ xB vI wY xO tJ jJ mY pG pD pE eO uS tX uR rY tY dN bD bJ aI uU gF pL mX oE jE eW eY dU fY gJ jG nU pQ qI sY uG pY nJ (upd (upd (upd (upd qY (0 : Int32).toNatClampNeg r_1) (1 : Int32).toNatClampNeg r_2) (2 : Int32).toNatClampNeg v_3) (3 : Int32).toNatClampNeg r_5) qU pN)) hP hD rfl
  have hP := hPD.1
  have hD := hPD.2
  refine lv_aload hx hb aJq.2.2.2.2.2.2.2.2.2.2.2.2.1 (lv_at hl 2 rfl) ?_
  refine lv_iconst (v := 4) hx hb aJq.2.2.2.2.2.2.2.2.2.2.2.2.2.1 ic_4 ?_
  refine lv_iload_n hx hb aJq.2.2.2.2.2.2.2.2.2.2.2.2.2.2.1 rfl (lv_at hl 5 rfl) ?_
  refine va_iast hx hb hK hP hD hS 9 0 rfl rfl (g_in rfl) aJq.2.2.2.2.2.2.2.2.2.2.2.2.2.2.2 (fun H locs hP hD hS => ?_)
  have hPD := PDw (ws' := (aDu cI cC cZ cB cJ xB vI wY xO tJ jJ mY pG pD pE eO uS tX uR rY tY dN bD bJ aI uU gF pL mX oE jE eW eY dU fY gJ jG nU pQ qI sY uG pY nJ (upd (upd (upd (upd (upd qY (0 : Int32).toNatClampNeg r_1) (1 : Int32).toNatClampNeg r_2) (2 : Int32).toNatClampNeg v_3) (3 : Int32).toNatClampNeg r_5) (4 : Int32).toNatClampNeg p1) qU pN)) hP hD rfl
  have hP := hPD.1
  have hD := hPD.2
  refine lv_aload hx hb aJr.1 (lv_at hl 2 rfl) ?_
  refine lv_iconst (v := 5) hx hb aJr.2.1 ic_5 ?_
  refine lv_iload hx hb aJr.2.2.1 (lv_at hl 7 rfl) ?_
  refine va_iast hx hb hK hP hD hS 9 0 rfl rfl (g_in rfl) aJr.2.2.2.1 (fun H locs hP hD hS => ?_)
  have hPD := PDw (ws' := (aDu cI cC cZ cB cJ xB vI wY xO tJ jJ mY pG pD pE eO uS tX uR rY tY dN bD bJ aI uU gF pL mX oE jE eW eY dU fY gJ jG nU pQ qI sY uG pY nJ (upd (upd (upd (upd (upd (upd qY (0 : Int32).toNatClampNeg r_1) (1 : Int32).toNatClampNeg r_2) (2 : Int32).toNatClampNeg v_3) (3 : Int32).toNatClampNeg r_5) (4 : Int32).toNatClampNeg p1) (5 : Int32).toNatClampNeg p3) qU pN)) hP hD rfl
  have hP := hPD.1
  have hD := hPD.2
  refine lv_aload hx hb aJr.2.2.2.2.1 (lv_at hl 2 rfl) ?_
  refine lv_bipush (v := 6) hx hb aJr.2.2.2.2.2.1 bp_6 ?_
  refine lv_iload_n hx hb aJr.2.2.2.2.2.2.1 rfl (lv_at hl 6 rfl) ?_
  refine va_iast hx hb hK hP hD hS 9 0 rfl rfl (g_in rfl) aJr.2.2.2.2.2.2.2.1 (fun H locs hP hD hS => ?_)
  have hPD := PDw (ws' := (aDu cI cC cZ cB cJ xB vI wY xO tJ jJ mY pG pD pE eO uS tX uR rY tY dN bD bJ aI uU gF pL mX oE jE eW eY dU fY gJ jG nU pQ qI sY uG pY nJ (upd (upd (upd (upd (upd (upd (upd qY (0 : Int32).toNatClampNeg r_1) (1 : Int32).toNatClampNeg r_2) (2 : Int32).toNatClampNeg v_3) (3 : Int32).toNatClampNeg r_5) (4 : Int32).toNatClampNeg p1) (5 : Int32).toNatClampNeg p3) (6 : Int32).toNatClampNeg p2) qU pN)) hP hD rfl
  have hP := hPD.1
  have hD := hPD.2
  exact ks_X0_pickSeconds_92 C0 r_1 r_2 (upd (upd (upd (upd (upd (upd (upd qY (0 : Int32).toNatClampNeg r_1) (1 : Int32).toNatClampNeg r_2) (2 : Int32).toNatClampNeg v_3) (3 : Int32).toNatClampNeg r_5) (4 : Int32).toNatClampNeg p1) (5 : Int32).toNatClampNeg p3) (6 : Int32).toNatClampNeg p2) qU H locs ls hp hP hD hS (lv_sub hl [3, 1, 0] rfl)
abbrev aJE (cI cC cZ cB cJ : ClassId) (xB vI wY xO tJ jJ mY pG pD pE eO uS tX uR rY tY : Nat) (dN bD bJ aI : Int32) (uU gF pL qF mX oE dY : Nat -> Int32) (jE eW eY dU fY gJ jG nU pQ qI sY uG pY nJ : Int32) (qY qU pN : Nat -> Int32) : va_W := [(xB, .inr (0, [.ref vI, .ref wY, .ref xO])), (vI, .inr (3, [.ref tJ, .ref jJ, .ref mY, .ref pG, .ref pD, .ref pE, .ref eO, .int dN, .int bD, .int bJ, .int aI])), (tJ, .inl (cI, 16, .inl uU)), (jJ, .inl (cI, 16, .inl gF)), (mY, .inl (cI, 16, .inl pL)), (pG, .inl (cI, 16, .inl qF)), (pD, .inl (cI, 8, .inl mX)), (pE, .inl (cI, 8, .inl oE)), (eO, .inl (cI, 5, .inl dY)), (wY, .inr (2, [.int jE, .int eW, .int eY, .int dU, .int fY, .int gJ, .int jG, .int nU])), (xO, .inr (7, [.ref uS, .ref tX, .ref uR, .ref rY, .ref tY, .int pQ, .int qI, .int sY, .int uG, .int pY, .int nJ])), (uS, .inl (cI, 7, .inl qY)), (uR, .inl (cI, 40, .inl qU)), (rY, .inl (cI, 40, .inl pN))]
abbrev q_X0_pickFruit (dC : Nat -> ClassId) (dI : Nat -> Nat -> Nat) (cI cC cZ cB cJ : ClassId) (A : Nat -> Prop) (xB vI wY xO tJ jJ mY pG pD pE eO uS tX uR rY tY : Nat) (dN bD bJ aI : Int32) (uU gF pL qF mX oE dY : Nat -> Int32) (eW eY fY gJ jG pQ qI sY uG pY nJ : Int32) (pN : Nat -> Int32) (post : Int32 -> Int32 -> Int32 -> Int32 -> (Nat -> Int32) -> (Nat -> Int32) -> Prop) : Array Value -> State -> Outcome -> State -> Prop := va_Qi (fun (r : Int32) (u : Int32 × Int32 × Int32 × (Nat -> Int32) × (Nat -> Int32)) => post r u.1 u.2.1 u.2.2.1 u.2.2.2.1 u.2.2.2.2) (fun u t => gB (dC, dI) (tyl cI cC cZ cB cJ) A (aJE cI cC cZ cB cJ xB vI wY xO tJ jJ mY pG pD pE eO uS tX uR rY tY dN bD bJ aI uU gF pL qF mX oE dY u.1 eW eY u.2.1 fY gJ jG u.2.2.1 pQ qI sY uG pY nJ u.2.2.2.1 u.2.2.2.2 pN) t) A
abbrev rm_X0_pickFruit : Room := { frames := 3, cells := 0, slots := 0, locals := 73 }
def wp_X0_pickFruit (post : Int32 -> Int32 -> Int32 -> Int32 -> (Nat -> Int32) -> (Nat -> Int32) -> Prop) (p0 p1 dN : Int32) (uU gF pL qF mX oE dY : Nat -> Int32) (jE eW eY dU fY gJ jG nU pQ : Int32) (qY qU pN : Nat -> Int32) : Prop := aY8 (fun r_1 => (r_1 = 0 -> post (-1) jE dU nU qY qU) /\ (¬ r_1 = 0 -> aY9 (fun r_2 => (¬ r_2 = 0 -> aOu (fun r_3 => ∀ v_4 : Int32, v_4 = r_3 >>> (p0 &&& 31) -> (¬ (v_4 &&& 1) = 0 -> vp_in p0 16 /\ (∀ v_5 : Int32, v_5 = qF p0.toNatClampNeg -> (v_5 <= jG -> (fY = (-1) -> post (-4) jE dU nU qY qU) /\ (¬ fY = (-1) -> bAw (fun r_6 => bBv (fun r_7 => (¬ r_7 = 0 -> aBb (fun r_8 => (r_8 < (dY (4 : Int32).toNatClampNeg) -> aSP (fun r_9 ru_given_10 ru_stack_11 => bA6 (fun r_12 => ∀ aIQ : Int32, aIQ = dU ||| r_12 -> ∀ aGC : Int32, aGC = jE ||| (1 <<< (p0 &&& 31)) -> wp_X2_spend (fun no_clock_15 => post r_9 aGC aIQ no_clock_15 ru_given_10 ru_stack_11) r_9 nU) p0 r_3 dN uU gF) p0 fY p1 r_8 dN uU gF pL mX oE dU pQ qY qU pN) /\ (¬ r_8 < (dY (4 : Int32).toNatClampNeg) -> post (-5) jE dU nU qY qU)) jE) /\ (r_7 = 0 -> post (-4) jE dU nU qY qU)) p0 fY r_6 uU gF mX oE) gJ p1 dY)) /\ (¬ v_5 <= jG -> post (-3) jE dU nU qY qU))) /\ ((v_4 &&& 1) = 0 -> post (-2) jE dU nU qY qU)) dN jE eW eY) /\ (r_2 = 0 -> post (-1) jE dU nU qY qU)) p1)) p0 dN
set_option maxHeartbeats 4000000 in
set_option maxRecDepth 100000 in
theorem c_X0_pickFruit (l : Launch) (dC : Nat -> ClassId) (dI : Nat -> Nat -> Nat) (cI cC cZ cB cJ : ClassId) (xB vI wY xO tJ jJ mY pG pD pE eO uS tX uR rY tY sz : Nat) (p0 p1 dN bD bJ aI : Int32) (uU gF pL qF mX oE dY : Nat -> Int32) (jE eW eY dU fY gJ jG nU pQ qI sY uG pY nJ : Int32) (qY qU pN : Nat -> Int32) (post : Int32 -> Int32 -> Int32 -> Int32 -> (Nat -> Int32) -> (Nat -> Int32) -> Prop) (hw : wp_X0_pickFruit post p0 p1 dN uU gF pL qF mX oE dY jE eW eY dU fY gJ jG nU pQ qY qU pN) : Met l yX0_pickFruit (gw yX0_pickFruit aBg 6 (some .int)) rm_X0_pickFruit (va_Pc [.ref xB, .int p0, .int p1] (gPre (dC, dI) (tyl cI cC cZ cB cJ) (aJE cI cC cZ cB cJ xB vI wY xO tJ jJ mY pG pD pE eO uS tX uR rY tY dN bD bJ aI uU gF pL qF mX oE dY jE eW eY dU fY gJ jG nU pQ qI sY uG pY nJ qY qU pN) sz)) (q_X0_pickFruit dC dI cI cC cZ cB cJ (va_A (aJE cI cC cZ cB cJ xB vI wY xO tJ jJ mY pG pD pE eO uS tX uR rY tY dN bD bJ aI uU gF pL qF mX oE dY jE eW eY dU fY gJ jG nU pQ qI sY uG pY nJ qY qU pN) sz) xB vI wY xO tJ jJ mY pG pD pE eO uS tX uR rY tY dN bD bJ aI uU gF pL qF mX oE dY eW eY fY gJ jG pQ qI sY uG pY nJ pN post) 0 0 (va_A (aJE cI cC cZ cB cJ xB vI wY xO tJ jJ mY pG pD pE eO uS tX uR rY tY dN bD bJ aI uU gF pL qF mX oE dY jE eW eY dU fY gJ jG nU pQ qI sY uG pY nJ qY qU pN) sz) := by
  refine aBJ (own := RX0) (dC, dI) (tyl cI cC cZ cB cJ) (aJE cI cC cZ cB cJ xB vI wY xO tJ jJ mY pG pD pE eO uS tX uR rY tY dN bD bJ aI uU gF pL qF mX oE dY jE eW eY dU fY gJ jG nU pQ qI sY uG pY nJ qY qU pN) sz [.ref xB, .int p0, .int p1] (fun A => q_X0_pickFruit dC dI cI cC cZ cB cJ A xB vI wY xO tJ jJ mY pG pD pE eO uS tX uR rY tY dN bD bJ aI uU gF pL qF mX oE dY eW eY fY gJ jG pQ qI sY uG pY nJ pN post) pn_RX0 rfl (lbz rfl) ?_
  intro p e s m args below meth c A H locs ls C0 hP hD hS hl
  have hl : lv_has ls 6 [(0, .ref xB), (1, .int p0), (2, .int p1)] := hl
  obtain ⟨hx, hb, hr, hml, hown, hts, hlocks, hA, hK, hN, tL, tM, hZL, hTL, hZM, hTM, hZX⟩ := id C0
  have hp := hw
  unfold wp_X0_pickFruit at hp
  refine lv_aload_n hx hb aLY.1 rfl (lv_at hl 0 rfl) ?_
  refine va_get (D := (dC, dI)) (ci := 0) (v := .ref vI) (C := RX0) (T := TX0) (N := 3) hx hb hts i_X0 hown hK hP 0 rfl rfl 0 (lbz rfl) (hts _ q_156) (fun _ h9 => h9) rfl aLY.2.1 ?_
  refine lv_iload_n hx hb aLY.2.2.1 rfl (lv_at hl 1 rfl) ?_
  have hm := mgk (wc := (bBr cI cC cZ cB cJ vI tJ jJ mY pG pD pE eO dN bD bJ aI)) hP mk_55 14 rfl rfl rfl
  refine yW hP hD hS hA (yS mk_55) (aAi mk_55) hm.1 hm.2 (aAk _) (zW _) (zF (As := [.int p0]) (rest := []) C0 hP hD hS (yS mk_55) hm.1 (aAl _) 1 3 rfl rfl (c_X3_hasFruit l dC dI cI cC cZ cB cJ vI tJ jJ mY pG pD pE eO H.size p0 dN bD bJ aI _ hp) q_171 q_308 q_172 q_173 q_48 h_X3_hasFruit rfl rfl ⟨lbz rfl, lbz rfl⟩ rfl rfl hl.1 rfl (lv_room (lbz rfl)) aLY.2.2.2.1 ⟨Nat.zero_le _, Nat.zero_le _⟩) (fun r_1 u H locs hp hP hD hS => ?_)
  have hPD := PDm (ws' := (aJE cI cC cZ cB cJ xB vI wY xO tJ jJ mY pG pD pE eO uS tX uR rY tY dN bD bJ aI uU gF pL qF mX oE dY jE eW eY dU fY gJ jG nU pQ qI sY uG pY nJ qY qU pN)) hP hD 14 rfl rfl rfl
  have hP := hPD.1
  have hD := hPD.2
  refine lv_if_eq (tgt := 18) hx hb aLY.2.2.2.2.1 (by decide) (fun hc => ?_) (fun hc => ?_)
  · have hp := hp.1 hc
    refine lv_iconst (v := (-1)) hx hb aLY.2.2.2.2.2.2.2.2.1 aEJ ?_
    exact W.iret (v := (-1)) hx hb hr (fun t ht hW => ⟨⟨(-1), (jE, dU, nU, qY, qU), rfl, hp, by rw [ht]; exact hP, va_K.moved hW.alike hK, hD⟩, hS.F ht⟩) hS.2.2 aLY.2.2.2.2.2.2.2.2.2.1
  · have hp := hp.2 hc
    refine lv_iload_n hx hb aLY.2.2.2.2.2.1 rfl (lv_at hl 2 rfl) ?_
    have hm := mgk (wc := (aY5 cI cC cZ cB cJ)) hP aJ7 14 rfl rfl rfl
    refine yW hP hD hS hA (yS aJ7) (aAi aJ7) hm.1 hm.2 (aAk _) (zW _) (g_runSN (As := [.int p1]) (rest := []) C0 hP hD hS (yS aJ7) hm.1 (aAl _) (c_X9_isYesOrNo l dC dI cI cC cZ cB cJ H.size p1 _ hp) q_260 n_1 q_261 aIl h_X9_isYesOrNo rfl rfl ⟨lbz rfl, lbz rfl⟩ rfl rfl hl.1 rfl (lv_room (lbz rfl)) aLY.2.2.2.2.2.2.1 ⟨Nat.zero_le _, Nat.zero_le _⟩) (fun r_2 u H locs hp hP hD hS => ?_)
    have hPD := PDm (ws' := (aJE cI cC cZ cB cJ xB vI wY xO tJ jJ mY pG pD pE eO uS tX uR rY tY dN bD bJ aI uU gF pL qF mX oE dY jE eW eY dU fY gJ jG nU pQ qI sY uG pY nJ qY qU pN)) hP hD 14 rfl rfl rfl
    have hP := hPD.1
    have hD := hPD.2
    refine lv_if_ne (tgt := 20) hx hb aLY.2.2.2.2.2.2.2.1 (by decide) (fun hc => ?_) (fun hc => ?_)
    · have hp := hp.1 hc
      refine lv_aload_n hx hb aLY.2.2.2.2.2.2.2.2.2.2.1 rfl (lv_at hl 0 rfl) ?_
      have hm := mgk (wc := (aOf cI cC cZ cB cJ xB vI wY xO tJ jJ mY pG pD pE eO dN bD bJ aI jE eW eY dU fY gJ jG nU)) hP mk_57 14 rfl rfl rfl
      refine yW hP hD hS hA (yS mk_57) (aAi mk_57) hm.1 hm.2 (aAk _) (zW _) (zF (As := []) (rest := []) C0 hP hD hS (yS mk_57) hm.1 (aAl _) 0 0 rfl rfl (c_X0_hanging l dC dI cI cC cZ cB cJ xB vI wY xO tJ jJ mY pG pD pE eO H.size dN bD bJ aI jE eW eY dU fY gJ jG nU _ hp) q_186 q_309 q_188 q_189 q_187 h_X0_hanging rfl rfl ⟨lbz rfl, lbz rfl⟩ rfl rfl hl.1 rfl (lv_room (lbz rfl)) aLY.2.2.2.2.2.2.2.2.2.2.2.1 ⟨Nat.zero_le _, Nat.zero_le _⟩) (fun r_3 u H locs hp hP hD hS => ?_)
      have hPD := PDm (ws' := (aJE cI cC cZ cB cJ xB vI wY xO tJ jJ mY pG pD pE eO uS tX uR rY tY dN bD bJ aI uU gF pL qF mX oE dY jE eW eY dU fY gJ jG nU pQ qI sY uG pY nJ qY qU pN)) hP hD 14 rfl rfl rfl
      have hP := hPD.1
      have hD := hPD.2
      refine lv_istore_n (lv' := [(3, .int r_3), (0, .ref xB), (1, .int p0), (2, .int p1)]) hx hb aLY.2.2.2.2.2.2.2.2.2.2.2.2.1 rfl hl (by decide) rfl (fun ls hl => ?_)
      refine lv_iload_n hx hb aLY.2.2.2.2.2.2.2.2.2.2.2.2.2.1 rfl (lv_at hl 0 rfl) ?_
      refine lv_iload_n hx hb aLY.2.2.2.2.2.2.2.2.2.2.2.2.2.2.1 rfl (lv_at hl 2 rfl) ?_
      refine lv_ishr hx hb aLY.2.2.2.2.2.2.2.2.2.2.2.2.2.2.2 ?_
      refine lv_topi (fun v_4 aHM => ?_)
      have hp := hp v_4 aHM
      refine lv_iconst (v := 1) hx hb aL0.1 aDx ?_
      refine lv_iand hx hb aL0.2.1 ?_
      refine lv_if_ne (tgt := 36) hx hb aL0.2.2.1 (by decide) (fun hc => ?_) (fun hc => ?_)
      · have hp := hp.1 hc
        refine lv_aload_n hx hb aL0.2.2.2.2.2.1 rfl (lv_at hl 1 rfl) ?_
        refine va_get (D := (dC, dI)) (ci := 0) (v := .ref vI) (C := RX0) (T := TX0) (N := 3) hx hb hts i_X0 hown hK hP 0 rfl rfl 0 (lbz rfl) (hts _ q_156) (fun _ h9 => h9) rfl aL0.2.2.2.2.2.2.1 ?_
        refine va_get (D := (dC, dI)) (ci := 3) (v := .ref pG) (C := RX3) (T := TX3) (N := 11) hx hb hts i_X3 hown hK hP 1 rfl rfl 3 (lbz rfl) (hts _ q_310) (fun _ h9 => h9) rfl aL0.2.2.2.2.2.2.2.1 ?_
        refine lv_iload_n hx hb aL0.2.2.2.2.2.2.2.2.1 rfl (lv_at hl 2 rfl) ?_
        have hin := hp.1
        have hp := hp.2
        refine va_iald hx hb hK hP 5 0 rfl rfl hin aL0.2.2.2.2.2.2.2.2.2.1 ?_
        refine lv_topi (fun v_5 aJD => ?_)
        have hp := hp v_5 aJD
        refine lv_aload_n hx hb aL0.2.2.2.2.2.2.2.2.2.2.1 rfl (lv_at hl 1 rfl) ?_
        refine va_get (D := (dC, dI)) (ci := 0) (v := .ref wY) (C := RX0) (T := TX0) (N := 3) hx hb hts i_X0 hown hK hP 0 rfl rfl 1 (lbz rfl) (hts _ q_161) (fun _ h9 => h9) rfl aL0.2.2.2.2.2.2.2.2.2.2.2.1 ?_
        refine va_get (D := (dC, dI)) (ci := 2) (v := .int jG) (C := RX2) (T := TX2) (N := 8) hx hb hts i_X2 hown hK hP 9 rfl rfl 6 (lbz rfl) (hts _ q_311) (fun _ h9 => h9) rfl aL0.2.2.2.2.2.2.2.2.2.2.2.2.1 ?_
        refine lv_icmp_le (tgt := 58) hx hb aL0.2.2.2.2.2.2.2.2.2.2.2.2.2.1 (by decide) (fun hc => ?_) (fun hc => ?_)
        · have hp := hp.1 hc
          refine lv_aload_n hx hb aL3.1 rfl (lv_at hl 1 rfl) ?_
          refine va_get (D := (dC, dI)) (ci := 0) (v := .ref wY) (C := RX0) (T := TX0) (N := 3) hx hb hts i_X0 hown hK hP 0 rfl rfl 1 (lbz rfl) (hts _ q_161) (fun _ h9 => h9) rfl aL3.2.1 ?_
          refine va_get (D := (dC, dI)) (ci := 2) (v := .int fY) (C := RX2) (T := TX2) (N := 8) hx hb hts i_X2 hown hK hP 9 rfl rfl 4 (lbz rfl) (hts _ q_228) (fun _ h9 => h9) rfl aL3.2.2.1 ?_
          refine lv_iconst (v := (-1)) hx hb aL3.2.2.2.1 aEJ ?_
          refine lv_icmp_eq (tgt := 102) hx hb aL3.2.2.2.2.1 (by decide) (fun hc => ?_) (fun hc => ?_)
          · have hp := hp.1 hc
            refine lv_bipush (v := (-4)) hx hb aKC.2.2.2.2.1 bp_m4 ?_
            exact W.iret (v := (-4)) hx hb hr (fun t ht hW => ⟨⟨(-4), (jE, dU, nU, qY, qU), rfl, hp, by rw [ht]; exact hP, va_K.moved hW.alike hK, hD⟩, hS.F ht⟩) hS.2.2 aKC.2.2.2.2.2.1
          · have hp := hp.2 hc
            refine lv_aload_n hx hb aL3.2.2.2.2.2.1 rfl (lv_at hl 1 rfl) ?_
            refine va_get (D := (dC, dI)) (ci := 0) (v := .ref vI) (C := RX0) (T := TX0) (N := 3) hx hb hts i_X0 hown hK hP 0 rfl rfl 0 (lbz rfl) (hts _ q_156) (fun _ h9 => h9) rfl aL3.2.2.2.2.2.2.1 ?_
            refine lv_iload_n hx hb aL3.2.2.2.2.2.2.2.1 rfl (lv_at hl 2 rfl) ?_
            refine lv_aload_n hx hb aL3.2.2.2.2.2.2.2.2.1 rfl (lv_at hl 1 rfl) ?_
            refine va_get (D := (dC, dI)) (ci := 0) (v := .ref wY) (C := RX0) (T := TX0) (N := 3) hx hb hts i_X0 hown hK hP 0 rfl rfl 1 (lbz rfl) (hts _ q_161) (fun _ h9 => h9) rfl aL3.2.2.2.2.2.2.2.2.2.1 ?_
            refine va_get (D := (dC, dI)) (ci := 2) (v := .int fY) (C := RX2) (T := TX2) (N := 8) hx hb hts i_X2 hown hK hP 9 rfl rfl 4 (lbz rfl) (hts _ q_228) (fun _ h9 => h9) rfl aL3.2.2.2.2.2.2.2.2.2.2.1 ?_
            refine lv_aload_n hx hb aL3.2.2.2.2.2.2.2.2.2.2.2.1 rfl (lv_at hl 1 rfl) ?_
            refine va_get (D := (dC, dI)) (ci := 0) (v := .ref vI) (C := RX0) (T := TX0) (N := 3) hx hb hts i_X0 hown hK hP 0 rfl rfl 0 (lbz rfl) (hts _ q_156) (fun _ h9 => h9) rfl aL3.2.2.2.2.2.2.2.2.2.2.2.2.1 ?_
            refine lv_aload_n hx hb aL3.2.2.2.2.2.2.2.2.2.2.2.2.2.1 rfl (lv_at hl 1 rfl) ?_
            refine va_get (D := (dC, dI)) (ci := 0) (v := .ref wY) (C := RX0) (T := TX0) (N := 3) hx hb hts i_X0 hown hK hP 0 rfl rfl 1 (lbz rfl) (hts _ q_161) (fun _ h9 => h9) rfl aL3.2.2.2.2.2.2.2.2.2.2.2.2.2.2.1 ?_
            refine va_get (D := (dC, dI)) (ci := 2) (v := .int gJ) (C := RX2) (T := TX2) (N := 8) hx hb hts i_X2 hown hK hP 9 rfl rfl 5 (lbz rfl) (hts _ q_262) (fun _ h9 => h9) rfl aL3.2.2.2.2.2.2.2.2.2.2.2.2.2.2.2 ?_
            refine lv_iload_n hx hb aKC.1 rfl (lv_at hl 3 rfl) ?_
            have hm := mgk (wc := (wd_X3_reach cI cC cZ cB cJ vI tJ jJ mY pG pD pE eO dN bD bJ aI dY)) hP mk_58 14 rfl rfl rfl
            refine yW hP hD hS hA (yS mk_58) (aAi mk_58) hm.1 hm.2 (aAk _) (zW _) (zF (As := [.int gJ, .int p1]) (rest := [.int fY, .int p0, .ref vI]) C0 hP hD hS (yS mk_58) hm.1 (aAl _) 1 3 rfl rfl (c_X3_reach l dC dI cI cC cZ cB cJ vI tJ jJ mY pG pD pE eO H.size gJ p1 dN bD bJ aI dY _ hp) q_312 q_315 q_313 q_314 q_48 h_X3_reach rfl rfl ⟨lbz rfl, lbz rfl⟩ rfl rfl hl.1 rfl (lv_room (lbz rfl)) aKC.2.1 ⟨Nat.zero_le _, Nat.zero_le _⟩) (fun r_6 u H locs hp hP hD hS => ?_)
            have hPD := PDm (ws' := (aJE cI cC cZ cB cJ xB vI wY xO tJ jJ mY pG pD pE eO uS tX uR rY tY dN bD bJ aI uU gF pL qF mX oE dY jE eW eY dU fY gJ jG nU pQ qI sY uG pY nJ qY qU pN)) hP hD 14 rfl rfl rfl
            have hP := hPD.1
            have hD := hPD.2
            have hm := mgk (wc := (aY3 cI cC cZ cB cJ vI tJ jJ mY pG pD pE eO dN bD bJ aI uU gF mX oE)) hP mk_59 14 rfl rfl rfl
            refine yW hP hD hS hA (yS mk_59) (aAi mk_59) hm.1 hm.2 (aAk _) (zW _) (zF (As := [.int p0, .int fY, .int r_6]) (rest := []) C0 hP hD hS (yS mk_59) hm.1 (aAl _) 1 3 rfl rfl (c_X3_isWithin l dC dI cI cC cZ cB cJ vI tJ jJ mY pG pD pE eO H.size p0 fY r_6 dN bD bJ aI uU gF mX oE _ hp) q_316 q_319 q_317 q_318 q_48 h_X3_isWithin rfl rfl ⟨lbz rfl, lbz rfl⟩ rfl rfl hl.1 rfl (lv_room (lbz rfl)) aKC.2.2.1 ⟨Nat.zero_le _, Nat.zero_le _⟩) (fun r_7 u H locs hp hP hD hS => ?_)
            have hPD := PDm (ws' := (aJE cI cC cZ cB cJ xB vI wY xO tJ jJ mY pG pD pE eO uS tX uR rY tY dN bD bJ aI uU gF pL qF mX oE dY jE eW eY dU fY gJ jG nU pQ qI sY uG pY nJ qY qU pN)) hP hD 14 rfl rfl rfl
            have hP := hPD.1
            have hD := hPD.2
            refine lv_if_ne (tgt := 105) hx hb aKC.2.2.2.1 (by decide) (fun hc => ?_) (fun hc => ?_)
            · have hp := hp.1 hc
              refine lv_aload_n hx hb aKC.2.2.2.2.2.2.1 rfl (lv_at hl 1 rfl) ?_
              refine va_get (D := (dC, dI)) (ci := 0) (v := .ref wY) (C := RX0) (T := TX0) (N := 3) hx hb hts i_X0 hown hK hP 0 rfl rfl 1 (lbz rfl) (hts _ q_161) (fun _ h9 => h9) rfl aKC.2.2.2.2.2.2.2.1 ?_
              refine va_get (D := (dC, dI)) (ci := 2) (v := .int jE) (C := RX2) (T := TX2) (N := 8) hx hb hts i_X2 hown hK hP 9 rfl rfl 0 (lbz rfl) (hts _ q_162) (fun _ h9 => h9) rfl aKC.2.2.2.2.2.2.2.2.1 ?_
              have hm := mgk (wc := (aBh cI cC cZ cB cJ)) hP aJ7 14 rfl rfl rfl
              refine yW hP hD hS hA (yS aJ7) (aAi aJ7) hm.1 hm.2 (aAk _) (zW _) (aDn (As := [.int jE]) (rest := []) C0 hP hD hS (yS aJ7) hm.1 (aAl _) (aBv l dC dI cI cC cZ cB cJ H.size jE _ hp) q_320 q_323 q_322 q_321 aBw rfl rfl ⟨lbz rfl, lbz rfl⟩ rfl rfl hl.1 rfl (lv_room (lbz rfl)) aKC.2.2.2.2.2.2.2.2.2.1 ⟨Nat.zero_le _, Nat.zero_le _⟩) (fun r_8 u H locs hp hP hD hS => ?_)
              have hPD := PDm (ws' := (aJE cI cC cZ cB cJ xB vI wY xO tJ jJ mY pG pD pE eO uS tX uR rY tY dN bD bJ aI uU gF pL qF mX oE dY jE eW eY dU fY gJ jG nU pQ qI sY uG pY nJ qY qU pN)) hP hD 14 rfl rfl rfl
              have hP := hPD.1
              have hD := hPD.2
              refine lv_istore (lv' := [(4, .int r_8), (3, .int r_3), (0, .ref xB), (1, .int p0), (2, .int p1)]) hx hb aKC.2.2.2.2.2.2.2.2.2.2.1 hl (by decide) rfl (fun ls hl => ?_)
              refine lv_iload hx hb aKC.2.2.2.2.2.2.2.2.2.2.2.1 (lv_at hl 0 rfl) ?_
              refine lv_aload_n hx hb aKC.2.2.2.2.2.2.2.2.2.2.2.2.1 rfl (lv_at hl 2 rfl) ?_
              refine va_get (D := (dC, dI)) (ci := 0) (v := .ref vI) (C := RX0) (T := TX0) (N := 3) hx hb hts i_X0 hown hK hP 0 rfl rfl 0 (lbz rfl) (hts _ q_156) (fun _ h9 => h9) rfl aKC.2.2.2.2.2.2.2.2.2.2.2.2.2.1 ?_
              refine va_get (D := (dC, dI)) (ci := 3) (v := .ref eO) (C := RX3) (T := TX3) (N := 11) hx hb hts i_X3 hown hK hP 1 rfl rfl 6 (lbz rfl) (hts _ q_324) (fun _ h9 => h9) rfl aKC.2.2.2.2.2.2.2.2.2.2.2.2.2.2.1 ?_
              refine lv_iconst (v := 4) hx hb aKC.2.2.2.2.2.2.2.2.2.2.2.2.2.2.2 ic_4 ?_
              refine va_iald hx hb hK hP 8 0 rfl rfl (g_in rfl) aKe.1 ?_
              refine lv_icmp_lt (tgt := 134) hx hb aKe.2.1 (by decide) (fun hc => ?_) (fun hc => ?_)
              · have hp := hp.1 hc
                refine lv_aload_n hx hb aKe.2.2.2.2.1 rfl (lv_at hl 2 rfl) ?_
                refine lv_iload_n hx hb aKe.2.2.2.2.2.1 rfl (lv_at hl 3 rfl) ?_
                refine lv_aload_n hx hb aKe.2.2.2.2.2.2.1 rfl (lv_at hl 2 rfl) ?_
                refine va_get (D := (dC, dI)) (ci := 0) (v := .ref wY) (C := RX0) (T := TX0) (N := 3) hx hb hts i_X0 hown hK hP 0 rfl rfl 1 (lbz rfl) (hts _ q_161) (fun _ h9 => h9) rfl aKe.2.2.2.2.2.2.2.1 ?_
                refine va_get (D := (dC, dI)) (ci := 2) (v := .int fY) (C := RX2) (T := TX2) (N := 8) hx hb hts i_X2 hown hK hP 9 rfl rfl 4 (lbz rfl) (hts _ q_228) (fun _ h9 => h9) rfl aKe.2.2.2.2.2.2.2.2.1 ?_
                refine lv_iload_n hx hb aKe.2.2.2.2.2.2.2.2.2.1 rfl (lv_at hl 4 rfl) ?_
                refine lv_iload hx hb aKe.2.2.2.2.2.2.2.2.2.2.1 (lv_at hl 0 rfl) ?_
                have hm := mgk (wc := (aDu cI cC cZ cB cJ xB vI wY xO tJ jJ mY pG pD pE eO uS tX uR rY tY dN bD bJ aI uU gF pL mX oE jE eW eY dU fY gJ jG nU pQ qI sY uG pY nJ qY qU pN)) hP mk_60 14 rfl rfl rfl
                refine yW hP hD hS hA (yS mk_60) (aAi mk_60) hm.1 hm.2 (aAk _) (zW _) (zF (As := [.int p0, .int fY, .int p1, .int r_8]) (rest := []) C0 hP hD hS (yS mk_60) hm.1 (aAl _) 0 0 rfl rfl (c_X0_pickSeconds l dC dI cI cC cZ cB cJ xB vI wY xO tJ jJ mY pG pD pE eO uS tX uR rY tY H.size p0 fY p1 r_8 dN bD bJ aI uU gF pL mX oE jE eW eY dU fY gJ jG nU pQ qI sY uG pY nJ qY qU pN _ hp) q_325 q_328 q_326 q_327 q_187 h_X0_pickSeconds rfl rfl ⟨lbz rfl, lbz rfl⟩ rfl rfl hl.1 rfl (lv_room (lbz rfl)) aKe.2.2.2.2.2.2.2.2.2.2.2.1 ⟨Nat.zero_le _, Nat.zero_le _⟩) (fun r_9 u H locs hp hP hD hS => ?_)
                obtain ⟨ru_given_10, ru_stack_11⟩ := u
                have hPD := PDm (ws' := (aJE cI cC cZ cB cJ xB vI wY xO tJ jJ mY pG pD pE eO uS tX uR rY tY dN bD bJ aI uU gF pL qF mX oE dY jE eW eY dU fY gJ jG nU pQ qI sY uG pY nJ ru_given_10 ru_stack_11 pN)) hP hD 14 rfl rfl rfl
                have hP := hPD.1
                have hD := hPD.2
                refine lv_istore (lv' := [(5, .int r_9), (4, .int r_8), (3, .int r_3), (0, .ref xB), (1, .int p0), (2, .int p1)]) hx hb aKe.2.2.2.2.2.2.2.2.2.2.2.2.1 hl (by decide) rfl (fun ls hl => ?_)
                refine lv_aload_n hx hb aKe.2.2.2.2.2.2.2.2.2.2.2.2.2.1 rfl (lv_at hl 3 rfl) ?_
                refine va_get (D := (dC, dI)) (ci := 0) (v := .ref wY) (C := RX0) (T := TX0) (N := 3) hx hb hts i_X0 hown hK hP 0 rfl rfl 1 (lbz rfl) (hts _ q_161) (fun _ h9 => h9) rfl aKe.2.2.2.2.2.2.2.2.2.2.2.2.2.2.1 ?_
                refine lv_dup hx hb aKe.2.2.2.2.2.2.2.2.2.2.2.2.2.2.2 rfl ?_
                refine va_get (D := (dC, dI)) (ci := 2) (v := .int dU) (C := RX2) (T := TX2) (N := 8) hx hb hts i_X2 hown hK hP 9 rfl rfl 3 (lbz rfl) (hts _ q_278) (fun _ h9 => h9) rfl aKf.1 ?_
                refine lv_aload_n hx hb aKf.2.1 rfl (lv_at hl 3 rfl) ?_
                refine va_get (D := (dC, dI)) (ci := 0) (v := .ref vI) (C := RX0) (T := TX0) (N := 3) hx hb hts i_X0 hown hK hP 0 rfl rfl 0 (lbz rfl) (hts _ q_156) (fun _ h9 => h9) rfl aKf.2.2.1 ?_
                refine lv_iload_n hx hb aKf.2.2.2.1 rfl (lv_at hl 4 rfl) ?_
                refine lv_iload_n hx hb aKf.2.2.2.2.1 rfl (lv_at hl 2 rfl) ?_
                have hm := mgk (wc := (aGD cI cC cZ cB cJ vI tJ jJ mY pG pD pE eO dN bD bJ aI uU gF)) hP mk_61 14 rfl rfl rfl
                refine yW hP hD hS hA (yS mk_61) (aAi mk_61) hm.1 hm.2 (aAk _) (zW _) (zF (As := [.int p0, .int r_3]) (rest := [.int dU, .ref wY]) C0 hP hD hS (yS mk_61) hm.1 (aAl _) 1 3 rfl rfl (c_X3_lowerThan l dC dI cI cC cZ cB cJ vI tJ jJ mY pG pD pE eO H.size p0 r_3 dN bD bJ aI uU gF _ hp) q_191 q_329 q_192 q_193 q_48 h_X3_lowerThan rfl rfl ⟨lbz rfl, lbz rfl⟩ rfl rfl hl.1 rfl (lv_room (lbz rfl)) aKf.2.2.2.2.2.1 ⟨Nat.zero_le _, Nat.zero_le _⟩) (fun r_12 u H locs hp hP hD hS => ?_)
                have hPD := PDm (ws' := (aJE cI cC cZ cB cJ xB vI wY xO tJ jJ mY pG pD pE eO uS tX uR rY tY dN bD bJ aI uU gF pL qF mX oE dY jE eW eY dU fY gJ jG nU pQ qI sY uG pY nJ ru_given_10 ru_stack_11 pN)) hP hD 14 rfl rfl rfl
                have hP := hPD.1
                have hD := hPD.2
                refine lv_ior hx hb aKf.2.2.2.2.2.2.1 ?_
                refine lv_topi (fun aIQ ev_13 => ?_)
                have hp := hp aIQ ev_13
                refine va_put (D := (dC, dI)) (ci := 2) (v := .int aIQ) (ty := .int) (C := RX2) (T := TX2) (N := 8) hx hb hts i_X2 tyX2 aIa nmX2 hown hK hP hD hS 9 rfl rfl 3 (lbz rfl) (hts _ q_278) (fun _ h9 => h9) rfl (aIa 3 (lbz rfl)) rfl rfl (lbz rfl) aKf.2.2.2.2.2.2.2.1 (fun H locs hP hD hS => ?_)
                have hPD := PDw (ws' := (aJE cI cC cZ cB cJ xB vI wY xO tJ jJ mY pG pD pE eO uS tX uR rY tY dN bD bJ aI uU gF pL qF mX oE dY jE eW eY aIQ fY gJ jG nU pQ qI sY uG pY nJ ru_given_10 ru_stack_11 pN)) hP hD rfl
                have hP := hPD.1
                have hD := hPD.2
                refine lv_aload_n hx hb aKf.2.2.2.2.2.2.2.2.1 rfl (lv_at hl 3 rfl) ?_
                refine va_get (D := (dC, dI)) (ci := 0) (v := .ref wY) (C := RX0) (T := TX0) (N := 3) hx hb hts i_X0 hown hK hP 0 rfl rfl 1 (lbz rfl) (hts _ q_161) (fun _ h9 => h9) rfl aKf.2.2.2.2.2.2.2.2.2.1 ?_
                refine lv_dup hx hb aKf.2.2.2.2.2.2.2.2.2.2.1 rfl ?_
                refine va_get (D := (dC, dI)) (ci := 2) (v := .int jE) (C := RX2) (T := TX2) (N := 8) hx hb hts i_X2 hown hK hP 9 rfl rfl 0 (lbz rfl) (hts _ q_162) (fun _ h9 => h9) rfl aKf.2.2.2.2.2.2.2.2.2.2.2.1 ?_
                refine lv_iconst (v := 1) hx hb aKf.2.2.2.2.2.2.2.2.2.2.2.2.1 aDx ?_
                refine lv_iload_n hx hb aKf.2.2.2.2.2.2.2.2.2.2.2.2.2.1 rfl (lv_at hl 4 rfl) ?_
                refine lv_ishl hx hb aKf.2.2.2.2.2.2.2.2.2.2.2.2.2.2.1 ?_
                refine lv_ior hx hb aKf.2.2.2.2.2.2.2.2.2.2.2.2.2.2.2 ?_
                refine lv_topi (fun aGC ev_14 => ?_)
                have hp := hp aGC ev_14
                refine va_put (D := (dC, dI)) (ci := 2) (v := .int aGC) (ty := .int) (C := RX2) (T := TX2) (N := 8) hx hb hts i_X2 tyX2 aIa nmX2 hown hK hP hD hS 9 rfl rfl 0 (lbz rfl) (hts _ q_162) (fun _ h9 => h9) rfl (aIa 0 (lbz rfl)) rfl rfl (lbz rfl) eX0_pickFruit_184.1 (fun H locs hP hD hS => ?_)
                have hPD := PDw (ws' := (aJE cI cC cZ cB cJ xB vI wY xO tJ jJ mY pG pD pE eO uS tX uR rY tY dN bD bJ aI uU gF pL qF mX oE dY aGC eW eY aIQ fY gJ jG nU pQ qI sY uG pY nJ ru_given_10 ru_stack_11 pN)) hP hD rfl
                have hP := hPD.1
                have hD := hPD.2
                refine lv_aload_n hx hb eX0_pickFruit_184.2.1 rfl (lv_at hl 3 rfl) ?_
                refine va_get (D := (dC, dI)) (ci := 0) (v := .ref wY) (C := RX0) (T := TX0) (N := 3) hx hb hts i_X0 hown hK hP 0 rfl rfl 1 (lbz rfl) (hts _ q_161) (fun _ h9 => h9) rfl eX0_pickFruit_184.2.2.1 ?_
                refine lv_iload hx hb eX0_pickFruit_184.2.2.2.1 (lv_at hl 0 rfl) ?_
                have hm := mgk (wc := (wd_X2_spend cI cC cZ cB cJ wY aGC eW eY aIQ fY gJ jG nU)) hP mk_62 14 rfl rfl rfl
                refine aBn hP hD hS hA (yS mk_62) (aAi mk_62) hm.1 hm.2 (aAk _) (zW _) (zF (As := [.int r_9]) (rest := []) C0 hP hD hS (yS mk_62) hm.1 (aAl _) 9 2 rfl rfl (c_X2_spend l dC dI cI cC cZ cB cJ wY H.size r_9 aGC eW eY aIQ fY gJ jG nU _ hp) q_237 q_240 q_238 q_239 q_181 h_X2_spend rfl rfl ⟨lbz rfl, lbz rfl⟩ rfl rfl hl.1 rfl (lv_room (lbz rfl)) eX0_pickFruit_184.2.2.2.2.1 ⟨Nat.zero_le _, Nat.zero_le _⟩) (fun u H locs hp hP hD hS => ?_)
                obtain ⟨no_clock_15, rfl⟩ : ∃ z, z = u := ⟨_, rfl⟩
                have hPD := PDm (ws' := (aJE cI cC cZ cB cJ xB vI wY xO tJ jJ mY pG pD pE eO uS tX uR rY tY dN bD bJ aI uU gF pL qF mX oE dY aGC eW eY aIQ fY gJ jG no_clock_15 pQ qI sY uG pY nJ ru_given_10 ru_stack_11 pN)) hP hD 14 rfl rfl rfl
                have hP := hPD.1
                have hD := hPD.2
                refine lv_iload hx hb eX0_pickFruit_184.2.2.2.2.2.1 (lv_at hl 0 rfl) ?_
                exact W.iret (v := r_9) hx hb hr (fun t ht hW => ⟨⟨r_9, (aGC, aIQ, no_clock_15, ru_given_10, ru_stack_11), rfl, hp, by rw [ht]; exact hP, va_K.moved hW.alike hK, hD⟩, hS.F ht⟩) hS.2.2 eX0_pickFruit_184.2.2.2.2.2.2
              · have hp := hp.2 hc
                refine lv_bipush (v := (-5)) hx hb aKe.2.2.1 bp_m5 ?_
                exact W.iret (v := (-5)) hx hb hr (fun t ht hW => ⟨⟨(-5), (jE, dU, nU, qY, qU), rfl, hp, by rw [ht]; exact hP, va_K.moved hW.alike hK, hD⟩, hS.F ht⟩) hS.2.2 aKe.2.2.2.1
            · have hp := hp.2 hc
              refine lv_bipush (v := (-4)) hx hb aKC.2.2.2.2.1 bp_m4 ?_
              exact W.iret (v := (-4)) hx hb hr (fun t ht hW => ⟨⟨(-4), (jE, dU, nU, qY, qU), rfl, hp, by rw [ht]; exact hP, va_K.moved hW.alike hK, hD⟩, hS.F ht⟩) hS.2.2 aKC.2.2.2.2.2.1
        · have hp := hp.2 hc
          refine lv_bipush (v := (-3)) hx hb aL0.2.2.2.2.2.2.2.2.2.2.2.2.2.2.1 bp_m3 ?_
          exact W.iret (v := (-3)) hx hb hr (fun t ht hW => ⟨⟨(-3), (jE, dU, nU, qY, qU), rfl, hp, by rw [ht]; exact hP, va_K.moved hW.alike hK, hD⟩, hS.F ht⟩) hS.2.2 aL0.2.2.2.2.2.2.2.2.2.2.2.2.2.2.2
      · have hp := hp.2 hc
        refine lv_bipush (v := (-2)) hx hb aL0.2.2.2.1 bp_m2 ?_
        exact W.iret (v := (-2)) hx hb hr (fun t ht hW => ⟨⟨(-2), (jE, dU, nU, qY, qU), rfl, hp, by rw [ht]; exact hP, va_K.moved hW.alike hK, hD⟩, hS.F ht⟩) hS.2.2 aL0.2.2.2.2.1
    · have hp := hp.2 hc
      refine lv_iconst (v := (-1)) hx hb aLY.2.2.2.2.2.2.2.2.1 aEJ ?_
      exact W.iret (v := (-1)) hx hb hr (fun t ht hW => ⟨⟨(-1), (jE, dU, nU, qY, qU), rfl, hp, by rw [ht]; exact hP, va_K.moved hW.alike hK, hD⟩, hS.F ht⟩) hS.2.2 aLY.2.2.2.2.2.2.2.2.2.1
abbrev wd_X9_pick (cI cC cZ cB cJ : ClassId) (a_x xI xH xB vI wY xX yA xY uD xO tJ jJ mY pG pD pE eO uS tX uR rY tY wF uT wD : Nat) (dN bD bJ aI : Int32) (uU gF pL qF mX oE dY : Nat -> Int32) (jE eW eY dU fY gJ jG nU pQ qI sY uG pY nJ : Int32) (qY qU pN : Nat -> Int32) (pR uM : Int32) (tD : Nat -> Int32) : va_W := [(a_x, .inr (9, [.ref xI, .ref xH, .ref xB, .ref vI, .ref wY, .ref xX, .ref yA, .ref xY, .ref uD])), (xB, .inr (0, [.ref vI, .ref wY, .ref xO])), (vI, .inr (3, [.ref tJ, .ref jJ, .ref mY, .ref pG, .ref pD, .ref pE, .ref eO, .int dN, .int bD, .int bJ, .int aI])), (tJ, .inl (cI, 16, .inl uU)), (jJ, .inl (cI, 16, .inl gF)), (mY, .inl (cI, 16, .inl pL)), (pG, .inl (cI, 16, .inl qF)), (pD, .inl (cI, 8, .inl mX)), (pE, .inl (cI, 8, .inl oE)), (eO, .inl (cI, 5, .inl dY)), (wY, .inr (2, [.int jE, .int eW, .int eY, .int dU, .int fY, .int gJ, .int jG, .int nU])), (xO, .inr (7, [.ref uS, .ref tX, .ref uR, .ref rY, .ref tY, .int pQ, .int qI, .int sY, .int uG, .int pY, .int nJ])), (uS, .inl (cI, 7, .inl qY)), (uR, .inl (cI, 40, .inl qU)), (rY, .inl (cI, 40, .inl pN)), (xX, .inr (4, [.ref wF, .ref uT, .ref wD, .int pR, .int uM])), (wF, .inl (cI, 104, .inl tD))]
abbrev q_X9_pick (dC : Nat -> ClassId) (dI : Nat -> Nat -> Nat) (cI cC cZ cB cJ : ClassId) (A : Nat -> Prop) (a_x xI xH xB vI wY xX yA xY uD xO tJ jJ mY pG pD pE eO uS tX uR rY tY wF uT wD : Nat) (dN bD bJ aI : Int32) (uU gF pL qF mX oE dY : Nat -> Int32) (eW eY fY gJ jG pQ qI sY uG pY nJ : Int32) (pN : Nat -> Int32) (post : Int32 -> Int32 -> Int32 -> Int32 -> (Nat -> Int32) -> (Nat -> Int32) -> Int32 -> Int32 -> (Nat -> Int32) -> Prop) : Array Value -> State -> Outcome -> State -> Prop := va_Qi (fun (r : Int32) (u : Int32 × Int32 × Int32 × (Nat -> Int32) × (Nat -> Int32) × Int32 × Int32 × (Nat -> Int32)) => post r u.1 u.2.1 u.2.2.1 u.2.2.2.1 u.2.2.2.2.1 u.2.2.2.2.2.1 u.2.2.2.2.2.2.1 u.2.2.2.2.2.2.2) (fun u t => gB (dC, dI) (tyl cI cC cZ cB cJ) A (wd_X9_pick cI cC cZ cB cJ a_x xI xH xB vI wY xX yA xY uD xO tJ jJ mY pG pD pE eO uS tX uR rY tY wF uT wD dN bD bJ aI uU gF pL qF mX oE dY u.1 eW eY u.2.1 fY gJ jG u.2.2.1 pQ qI sY uG pY nJ u.2.2.2.1 u.2.2.2.2.1 pN u.2.2.2.2.2.1 u.2.2.2.2.2.2.1 u.2.2.2.2.2.2.2) t) A
abbrev rm_X9_pick : Room := { frames := 4, cells := 0, slots := 0, locals := 98 }
def wp_X9_pick (post : Int32 -> Int32 -> Int32 -> Int32 -> (Nat -> Int32) -> (Nat -> Int32) -> Int32 -> Int32 -> (Nat -> Int32) -> Prop) (p0 p1 dN : Int32) (uU gF pL qF mX oE dY : Nat -> Int32) (jE eW eY dU fY gJ jG nU pQ : Int32) (qY qU pN : Nat -> Int32) (pR uM : Int32) (tD : Nat -> Int32) : Prop := wp_X4_note (fun aGG => wp_X0_pickFruit (fun r_2 aJy aW8 aIm ru_given_6 ru_stack_7 => aUb (fun r_8 aPK pa_free_10 => post r_8 aJy aW8 aIm ru_given_6 ru_stack_7 aPK pa_free_10 aGG) r_2 pR uM) p0 p1 dN uU gF pL qF mX oE dY jE eW eY dU fY gJ jG nU pQ qY qU pN) jE eW eY dU fY gJ jG nU uM tD
set_option maxHeartbeats 4000000 in
set_option maxRecDepth 100000 in
theorem c_X9_pick (l : Launch) (dC : Nat -> ClassId) (dI : Nat -> Nat -> Nat) (cI cC cZ cB cJ : ClassId) (a_x xI xH xB vI wY xX yA xY uD xO tJ jJ mY pG pD pE eO uS tX uR rY tY wF uT wD sz : Nat) (p0 p1 dN bD bJ aI : Int32) (uU gF pL qF mX oE dY : Nat -> Int32) (jE eW eY dU fY gJ jG nU pQ qI sY uG pY nJ : Int32) (qY qU pN : Nat -> Int32) (pR uM : Int32) (tD : Nat -> Int32) (post : Int32 -> Int32 -> Int32 -> Int32 -> (Nat -> Int32) -> (Nat -> Int32) -> Int32 -> Int32 -> (Nat -> Int32) -> Prop) (hw : wp_X9_pick post p0 p1 dN uU gF pL qF mX oE dY jE eW eY dU fY gJ jG nU pQ qY qU pN pR uM tD) : Met l yX9_pick (gw yX9_pick cX9_pick 3 (some .int)) rm_X9_pick (va_Pc [.ref a_x, .int p0, .int p1] (gPre (dC, dI) (tyl cI cC cZ cB cJ) (wd_X9_pick cI cC cZ cB cJ a_x xI xH xB vI wY xX yA xY uD xO tJ jJ mY pG pD pE eO uS tX uR rY tY wF uT wD dN bD bJ aI uU gF pL qF mX oE dY jE eW eY dU fY gJ jG nU pQ qI sY uG pY nJ qY qU pN pR uM tD) sz)) (q_X9_pick dC dI cI cC cZ cB cJ (va_A (wd_X9_pick cI cC cZ cB cJ a_x xI xH xB vI wY xX yA xY uD xO tJ jJ mY pG pD pE eO uS tX uR rY tY wF uT wD dN bD bJ aI uU gF pL qF mX oE dY jE eW eY dU fY gJ jG nU pQ qI sY uG pY nJ qY qU pN pR uM tD) sz) a_x xI xH xB vI wY xX yA xY uD xO tJ jJ mY pG pD pE eO uS tX uR rY tY wF uT wD dN bD bJ aI uU gF pL qF mX oE dY eW eY fY gJ jG pQ qI sY uG pY nJ pN post) 0 0 (va_A (wd_X9_pick cI cC cZ cB cJ a_x xI xH xB vI wY xX yA xY uD xO tJ jJ mY pG pD pE eO uS tX uR rY tY wF uT wD dN bD bJ aI uU gF pL qF mX oE dY jE eW eY dU fY gJ jG nU pQ qI sY uG pY nJ qY qU pN pR uM tD) sz) := by
  refine aBJ (own := RX9) (dC, dI) (tyl cI cC cZ cB cJ) (wd_X9_pick cI cC cZ cB cJ a_x xI xH xB vI wY xX yA xY uD xO tJ jJ mY pG pD pE eO uS tX uR rY tY wF uT wD dN bD bJ aI uU gF pL qF mX oE dY jE eW eY dU fY gJ jG nU pQ qI sY uG pY nJ qY qU pN pR uM tD) sz [.ref a_x, .int p0, .int p1] (fun A => q_X9_pick dC dI cI cC cZ cB cJ A a_x xI xH xB vI wY xX yA xY uD xO tJ jJ mY pG pD pE eO uS tX uR rY tY wF uT wD dN bD bJ aI uU gF pL qF mX oE dY eW eY fY gJ jG pQ qI sY uG pY nJ pN post) pn_RX9 rfl (lbz rfl) ?_
  intro p e s m args below meth c A H locs ls C0 hP hD hS hl
  have hl : lv_has ls 3 [(0, .ref a_x), (1, .int p0), (2, .int p1)] := hl
  obtain ⟨hx, hb, hr, hml, hown, hts, hlocks, hA, hK, hN, tL, tM, hZL, hTL, hZM, hTM, hZX⟩ := id C0
  have hp := hw
  unfold wp_X9_pick at hp
  refine lv_aload_n hx hb eX9_pick_0.1 rfl (lv_at hl 0 rfl) ?_
  refine va_get (D := (dC, dI)) (ci := 9) (v := .ref xX) (C := RX9) (T := TX9) (N := 9) hx hb hts aC3 hown hK hP 0 rfl rfl 5 (lbz rfl) (hts _ q_91) (fun _ h9 => h9) rfl eX9_pick_0.2.1 ?_
  refine lv_aload_n hx hb eX9_pick_0.2.2.1 rfl (lv_at hl 0 rfl) ?_
  refine va_get (D := (dC, dI)) (ci := 9) (v := .ref wY) (C := RX9) (T := TX9) (N := 9) hx hb hts aC3 hown hK hP 0 rfl rfl 4 (lbz rfl) (hts _ q_179) (fun _ h9 => h9) rfl eX9_pick_0.2.2.2.1 ?_
  have hm := mgk (wc := (wd_X4_note cI cC cZ cB cJ wY xX wF uT wD jE eW eY dU fY gJ jG nU pR uM tD)) hP mk_63 17 rfl rfl rfl
  refine aBn hP hD hS hA (yS mk_63) (aAi mk_63) hm.1 hm.2 (aAk _) (zW _) (zF (As := [.ref wY]) (rest := []) C0 hP hD hS (yS mk_63) hm.1 (aAl _) 15 4 rfl rfl (c_X4_note l dC dI cI cC cZ cB cJ wY xX wF uT wD H.size jE eW eY dU fY gJ jG nU pR uM tD _ hp) q_247 q_250 q_248 q_249 q_93 h_X4_note rfl rfl ⟨lbz rfl, lbz rfl⟩ rfl rfl hl.1 rfl (lv_room (lbz rfl)) eX9_pick_0.2.2.2.2.1 ⟨Nat.zero_le _, Nat.zero_le _⟩) (fun u H locs hp hP hD hS => ?_)
  obtain ⟨aGG, rfl⟩ : ∃ z, z = u := ⟨_, rfl⟩
  have hPD := PDm (ws' := (wd_X9_pick cI cC cZ cB cJ a_x xI xH xB vI wY xX yA xY uD xO tJ jJ mY pG pD pE eO uS tX uR rY tY wF uT wD dN bD bJ aI uU gF pL qF mX oE dY jE eW eY dU fY gJ jG nU pQ qI sY uG pY nJ qY qU pN pR uM aGG)) hP hD 17 rfl rfl rfl
  have hP := hPD.1
  have hD := hPD.2
  refine lv_aload_n hx hb eX9_pick_0.2.2.2.2.2.1 rfl (lv_at hl 0 rfl) ?_
  refine lv_aload_n hx hb eX9_pick_0.2.2.2.2.2.2.1 rfl (lv_at hl 0 rfl) ?_
  refine va_get (D := (dC, dI)) (ci := 9) (v := .ref xB) (C := RX9) (T := TX9) (N := 9) hx hb hts aC3 hown hK hP 0 rfl rfl 2 (lbz rfl) (hts _ q_146) (fun _ h9 => h9) rfl eX9_pick_0.2.2.2.2.2.2.2.1 ?_
  refine lv_iload_n hx hb eX9_pick_0.2.2.2.2.2.2.2.2.1 rfl (lv_at hl 1 rfl) ?_
  refine lv_iload_n hx hb eX9_pick_0.2.2.2.2.2.2.2.2.2.1 rfl (lv_at hl 2 rfl) ?_
  have hm := mgk (wc := (aJE cI cC cZ cB cJ xB vI wY xO tJ jJ mY pG pD pE eO uS tX uR rY tY dN bD bJ aI uU gF pL qF mX oE dY jE eW eY dU fY gJ jG nU pQ qI sY uG pY nJ qY qU pN)) hP mk_64 17 rfl rfl rfl
  refine yW hP hD hS hA (yS mk_64) (aAi mk_64) hm.1 hm.2 (aAk _) (zW _) (zF (As := [.int p0, .int p1]) (rest := [.ref a_x]) C0 hP hD hS (yS mk_64) hm.1 (aAl _) 1 0 rfl rfl (c_X0_pickFruit l dC dI cI cC cZ cB cJ xB vI wY xO tJ jJ mY pG pD pE eO uS tX uR rY tY H.size p0 p1 dN bD bJ aI uU gF pL qF mX oE dY jE eW eY dU fY gJ jG nU pQ qI sY uG pY nJ qY qU pN _ hp) q_330 q_333 q_331 q_332 q_187 h_X0_pickFruit rfl rfl ⟨lbz rfl, lbz rfl⟩ rfl rfl hl.1 rfl (lv_room (lbz rfl)) eX9_pick_0.2.2.2.2.2.2.2.2.2.2.1 ⟨Nat.zero_le _, Nat.zero_le _⟩) (fun r_2 u H locs hp hP hD hS => ?_)
  obtain ⟨aJy, aW8, aIm, ru_given_6, ru_stack_7⟩ := u
  have hPD := PDm (ws' := (wd_X9_pick cI cC cZ cB cJ a_x xI xH xB vI wY xX yA xY uD xO tJ jJ mY pG pD pE eO uS tX uR rY tY wF uT wD dN bD bJ aI uU gF pL qF mX oE dY aJy eW eY aW8 fY gJ jG aIm pQ qI sY uG pY nJ ru_given_6 ru_stack_7 pN pR uM aGG)) hP hD 17 rfl rfl rfl
  have hP := hPD.1
  have hD := hPD.2
  have hm := mgk (wc := (aUY cI cC cZ cB cJ a_x xI xH xB vI wY xX yA xY uD wF uT wD pR uM)) hP mk_65 17 rfl rfl rfl
  refine yW hP hD hS hA (yS mk_65) (aAi mk_65) hm.1 hm.2 (aAk _) (zW _) (zF (As := [.int r_2]) (rest := []) C0 hP hD hS (yS mk_65) hm.1 (aAl _) 0 9 rfl rfl (c_X9_holdIfDone l dC dI cI cC cZ cB cJ a_x xI xH xB vI wY xX yA xY uD wF uT wD H.size r_2 pR uM _ hp) q_255 q_259 q_257 q_258 aIl h_X9_holdIfDone rfl rfl ⟨lbz rfl, lbz rfl⟩ rfl rfl hl.1 rfl (lv_room (lbz rfl)) eX9_pick_0.2.2.2.2.2.2.2.2.2.2.2.1 ⟨Nat.zero_le _, Nat.zero_le _⟩) (fun r_8 u H locs hp hP hD hS => ?_)
  obtain ⟨aPK, pa_free_10⟩ := u
  have hPD := PDm (ws' := (wd_X9_pick cI cC cZ cB cJ a_x xI xH xB vI wY xX yA xY uD xO tJ jJ mY pG pD pE eO uS tX uR rY tY wF uT wD dN bD bJ aI uU gF pL qF mX oE dY aJy eW eY aW8 fY gJ jG aIm pQ qI sY uG pY nJ ru_given_6 ru_stack_7 pN aPK pa_free_10 aGG)) hP hD 17 rfl rfl rfl
  have hP := hPD.1
  have hD := hPD.2
  exact W.iret (v := r_8) hx hb hr (fun t ht hW => ⟨⟨r_8, (aJy, aW8, aIm, ru_given_6, ru_stack_7, aPK, pa_free_10, aGG), rfl, hp, by rw [ht]; exact hP, va_K.moved hW.alike hK, hD⟩, hS.F ht⟩) hS.2.2 eX9_pick_0.2.2.2.2.2.2.2.2.2.2.2.2
abbrev wd_X0_goDown (cI cC cZ cB cJ : ClassId) (xB vI wY xO tJ jJ mY pG pD pE eO : Nat) (dN bD bJ aI : Int32) (oE : Nat -> Int32) (jE eW eY dU fY gJ jG nU : Int32) : va_W := [(xB, .inr (0, [.ref vI, .ref wY, .ref xO])), (vI, .inr (3, [.ref tJ, .ref jJ, .ref mY, .ref pG, .ref pD, .ref pE, .ref eO, .int dN, .int bD, .int bJ, .int aI])), (pE, .inl (cI, 8, .inl oE)), (wY, .inr (2, [.int jE, .int eW, .int eY, .int dU, .int fY, .int gJ, .int jG, .int nU]))]
abbrev q_X0_goDown (dC : Nat -> ClassId) (dI : Nat -> Nat -> Nat) (cI cC cZ cB cJ : ClassId) (A : Nat -> Prop) (xB vI wY xO tJ jJ mY pG pD pE eO : Nat) (dN bD bJ aI : Int32) (oE : Nat -> Int32) (eY dU fY gJ jG : Int32) (post : Int32 -> Int32 -> Int32 -> Int32 -> Prop) : Array Value -> State -> Outcome -> State -> Prop := va_Qi (fun (r : Int32) (u : Int32 × Int32 × Int32) => post r u.1 u.2.1 u.2.2) (fun u t => gB (dC, dI) (tyl cI cC cZ cB cJ) A (wd_X0_goDown cI cC cZ cB cJ xB vI wY xO tJ jJ mY pG pD pE eO dN bD bJ aI oE u.1 u.2.1 eY dU fY gJ jG u.2.2) t) A
abbrev rm_X0_goDown : Room := { frames := 2, cells := 0, slots := 0, locals := 42 }
def wp_X0_goDown (post : Int32 -> Int32 -> Int32 -> Int32 -> Prop) (oE : Nat -> Int32) (jE eW fY nU : Int32) : Prop := (fY = (-1) -> post (-2) jE eW nU) /\ (¬ fY = (-1) -> (¬ jE = 0 -> aBb (fun r_1 => wp_X2_emptyApron (fun aNR aLF => aYG (fun r_4 => wp_X2_spend (fun aIm => post r_1 aNR aLF aIm) r_4 nU) fY oE) jE eW) jE) /\ (jE = 0 -> post (-2) jE eW nU))
set_option maxHeartbeats 4000000 in
set_option maxRecDepth 100000 in
theorem c_X0_goDown (l : Launch) (dC : Nat -> ClassId) (dI : Nat -> Nat -> Nat) (cI cC cZ cB cJ : ClassId) (xB vI wY xO tJ jJ mY pG pD pE eO sz : Nat) (dN bD bJ aI : Int32) (oE : Nat -> Int32) (jE eW eY dU fY gJ jG nU : Int32) (post : Int32 -> Int32 -> Int32 -> Int32 -> Prop) (hw : wp_X0_goDown post oE jE eW fY nU) : Met l yX0_goDown (gw yX0_goDown aKG 2 (some .int)) rm_X0_goDown (va_Pc [.ref xB] (gPre (dC, dI) (tyl cI cC cZ cB cJ) (wd_X0_goDown cI cC cZ cB cJ xB vI wY xO tJ jJ mY pG pD pE eO dN bD bJ aI oE jE eW eY dU fY gJ jG nU) sz)) (q_X0_goDown dC dI cI cC cZ cB cJ (va_A (wd_X0_goDown cI cC cZ cB cJ xB vI wY xO tJ jJ mY pG pD pE eO dN bD bJ aI oE jE eW eY dU fY gJ jG nU) sz) xB vI wY xO tJ jJ mY pG pD pE eO dN bD bJ aI oE eY dU fY gJ jG post) 0 0 (va_A (wd_X0_goDown cI cC cZ cB cJ xB vI wY xO tJ jJ mY pG pD pE eO dN bD bJ aI oE jE eW eY dU fY gJ jG nU) sz) := by
  refine aBJ (own := RX0) (dC, dI) (tyl cI cC cZ cB cJ) (wd_X0_goDown cI cC cZ cB cJ xB vI wY xO tJ jJ mY pG pD pE eO dN bD bJ aI oE jE eW eY dU fY gJ jG nU) sz [.ref xB] (fun A => q_X0_goDown dC dI cI cC cZ cB cJ A xB vI wY xO tJ jJ mY pG pD pE eO dN bD bJ aI oE eY dU fY gJ jG post) pn_RX0 rfl (lbz rfl) ?_
  intro p e s m args below meth c A H locs ls C0 hP hD hS hl
  have hl : lv_has ls 2 [(0, .ref xB)] := hl
  obtain ⟨hx, hb, hr, hml, hown, hts, hlocks, hA, hK, hN, tL, tM, hZL, hTL, hZM, hTM, hZX⟩ := id C0
  have hp := hw
  unfold wp_X0_goDown at hp
  refine lv_aload_n hx hb aSC.1 rfl (lv_at hl 0 rfl) ?_
  refine va_get (D := (dC, dI)) (ci := 0) (v := .ref wY) (C := RX0) (T := TX0) (N := 3) hx hb hts i_X0 hown hK hP 0 rfl rfl 1 (lbz rfl) (hts _ q_161) (fun _ h9 => h9) rfl aSC.2.1 ?_
  refine va_get (D := (dC, dI)) (ci := 2) (v := .int fY) (C := RX2) (T := TX2) (N := 8) hx hb hts i_X2 hown hK hP 3 rfl rfl 4 (lbz rfl) (hts _ q_228) (fun _ h9 => h9) rfl aSC.2.2.1 ?_
  refine lv_iconst (v := (-1)) hx hb aSC.2.2.2.1 aEJ ?_
  refine lv_icmp_eq (tgt := 21) hx hb aSC.2.2.2.2.1 (by decide) (fun hc => ?_) (fun hc => ?_)
  · have hp := hp.1 hc
    refine lv_bipush (v := (-2)) hx hb aSC.2.2.2.2.2.2.2.2.2.1 bp_m2 ?_
    exact W.iret (v := (-2)) hx hb hr (fun t ht hW => ⟨⟨(-2), (jE, eW, nU), rfl, hp, by rw [ht]; exact hP, va_K.moved hW.alike hK, hD⟩, hS.F ht⟩) hS.2.2 aSC.2.2.2.2.2.2.2.2.2.2.1
  · have hp := hp.2 hc
    refine lv_aload_n hx hb aSC.2.2.2.2.2.1 rfl (lv_at hl 0 rfl) ?_
    refine va_get (D := (dC, dI)) (ci := 0) (v := .ref wY) (C := RX0) (T := TX0) (N := 3) hx hb hts i_X0 hown hK hP 0 rfl rfl 1 (lbz rfl) (hts _ q_161) (fun _ h9 => h9) rfl aSC.2.2.2.2.2.2.1 ?_
    refine va_get (D := (dC, dI)) (ci := 2) (v := .int jE) (C := RX2) (T := TX2) (N := 8) hx hb hts i_X2 hown hK hP 3 rfl rfl 0 (lbz rfl) (hts _ q_162) (fun _ h9 => h9) rfl aSC.2.2.2.2.2.2.2.1 ?_
    refine lv_if_ne (tgt := 24) hx hb aSC.2.2.2.2.2.2.2.2.1 (by decide) (fun hc => ?_) (fun hc => ?_)
    · have hp := hp.1 hc
      refine lv_aload_n hx hb aSC.2.2.2.2.2.2.2.2.2.2.2.1 rfl (lv_at hl 0 rfl) ?_
      refine va_get (D := (dC, dI)) (ci := 0) (v := .ref wY) (C := RX0) (T := TX0) (N := 3) hx hb hts i_X0 hown hK hP 0 rfl rfl 1 (lbz rfl) (hts _ q_161) (fun _ h9 => h9) rfl aSC.2.2.2.2.2.2.2.2.2.2.2.2.1 ?_
      refine va_get (D := (dC, dI)) (ci := 2) (v := .int jE) (C := RX2) (T := TX2) (N := 8) hx hb hts i_X2 hown hK hP 3 rfl rfl 0 (lbz rfl) (hts _ q_162) (fun _ h9 => h9) rfl aSC.2.2.2.2.2.2.2.2.2.2.2.2.2.1 ?_
      have hm := mgk (wc := (aBh cI cC cZ cB cJ)) hP mk_50 4 rfl rfl rfl
      refine yW hP hD hS hA (yS mk_50) (aAi mk_50) hm.1 hm.2 (aAk _) (zW _) (aDn (As := [.int jE]) (rest := []) C0 hP hD hS (yS mk_50) hm.1 (aAl _) (aBv l dC dI cI cC cZ cB cJ H.size jE _ hp) q_320 q_323 q_322 q_321 aBw rfl rfl ⟨lbz rfl, lbz rfl⟩ rfl rfl hl.1 rfl (lv_room (lbz rfl)) aSC.2.2.2.2.2.2.2.2.2.2.2.2.2.2.1 ⟨Nat.zero_le _, Nat.zero_le _⟩) (fun r_1 u H locs hp hP hD hS => ?_)
      have hPD := PDm (ws' := (wd_X0_goDown cI cC cZ cB cJ xB vI wY xO tJ jJ mY pG pD pE eO dN bD bJ aI oE jE eW eY dU fY gJ jG nU)) hP hD 4 rfl rfl rfl
      have hP := hPD.1
      have hD := hPD.2
      refine lv_istore_n (lv' := [(1, .int r_1), (0, .ref xB)]) hx hb aSC.2.2.2.2.2.2.2.2.2.2.2.2.2.2.2 rfl hl (by decide) rfl (fun ls hl => ?_)
      refine lv_aload_n hx hb aXx.1 rfl (lv_at hl 1 rfl) ?_
      refine va_get (D := (dC, dI)) (ci := 0) (v := .ref wY) (C := RX0) (T := TX0) (N := 3) hx hb hts i_X0 hown hK hP 0 rfl rfl 1 (lbz rfl) (hts _ q_161) (fun _ h9 => h9) rfl aXx.2.1 ?_
      have hm := mgk (wc := (aUX cI cC cZ cB cJ wY jE eW eY dU fY gJ jG nU)) hP mk_66 4 rfl rfl rfl
      refine aBn hP hD hS hA (yS mk_66) (aAi mk_66) hm.1 hm.2 (aAk _) (zW _) (zF (As := []) (rest := []) C0 hP hD hS (yS mk_66) hm.1 (aAl _) 3 2 rfl rfl (c_X2_emptyApron l dC dI cI cC cZ cB cJ wY H.size jE eW eY dU fY gJ jG nU _ hp) q_233 q_236 q_234 q_235 q_181 h_X2_emptyApron rfl rfl ⟨lbz rfl, lbz rfl⟩ rfl rfl hl.1 rfl (lv_room (lbz rfl)) aXx.2.2.1 ⟨Nat.zero_le _, Nat.zero_le _⟩) (fun u H locs hp hP hD hS => ?_)
      obtain ⟨aNR, aLF⟩ := u
      have hPD := PDm (ws' := (wd_X0_goDown cI cC cZ cB cJ xB vI wY xO tJ jJ mY pG pD pE eO dN bD bJ aI oE aNR aLF eY dU fY gJ jG nU)) hP hD 4 rfl rfl rfl
      have hP := hPD.1
      have hD := hPD.2
      refine lv_aload_n hx hb aXx.2.2.2.1 rfl (lv_at hl 1 rfl) ?_
      refine va_get (D := (dC, dI)) (ci := 0) (v := .ref wY) (C := RX0) (T := TX0) (N := 3) hx hb hts i_X0 hown hK hP 0 rfl rfl 1 (lbz rfl) (hts _ q_161) (fun _ h9 => h9) rfl aXx.2.2.2.2.1 ?_
      refine lv_aload_n hx hb aXx.2.2.2.2.2.1 rfl (lv_at hl 1 rfl) ?_
      refine va_get (D := (dC, dI)) (ci := 0) (v := .ref vI) (C := RX0) (T := TX0) (N := 3) hx hb hts i_X0 hown hK hP 0 rfl rfl 0 (lbz rfl) (hts _ q_156) (fun _ h9 => h9) rfl aXx.2.2.2.2.2.2.1 ?_
      refine lv_aload_n hx hb aXx.2.2.2.2.2.2.2.1 rfl (lv_at hl 1 rfl) ?_
      refine va_get (D := (dC, dI)) (ci := 0) (v := .ref wY) (C := RX0) (T := TX0) (N := 3) hx hb hts i_X0 hown hK hP 0 rfl rfl 1 (lbz rfl) (hts _ q_161) (fun _ h9 => h9) rfl aXx.2.2.2.2.2.2.2.2.1 ?_
      refine va_get (D := (dC, dI)) (ci := 2) (v := .int fY) (C := RX2) (T := TX2) (N := 8) hx hb hts i_X2 hown hK hP 3 rfl rfl 4 (lbz rfl) (hts _ q_228) (fun _ h9 => h9) rfl aXx.2.2.2.2.2.2.2.2.2.1 ?_
      have hm := mgk (wc := (bBO cI cC cZ cB cJ vI tJ jJ mY pG pD pE eO dN bD bJ aI oE)) hP mk_49 4 rfl rfl rfl
      refine yW hP hD hS hA (yS mk_49) (aAi mk_49) hm.1 hm.2 (aAk _) (zW _) (zF (As := [.int fY]) (rest := [.ref wY]) C0 hP hD hS (yS mk_49) hm.1 (aAl _) 1 3 rfl rfl (c_X3_downSeconds l dC dI cI cC cZ cB cJ vI tJ jJ mY pG pD pE eO H.size fY dN bD bJ aI oE _ hp) q_201 q_241 q_202 q_203 q_48 h_X3_downSeconds rfl rfl ⟨lbz rfl, lbz rfl⟩ rfl rfl hl.1 rfl (lv_room (lbz rfl)) aXx.2.2.2.2.2.2.2.2.2.2.1 ⟨Nat.zero_le _, Nat.zero_le _⟩) (fun r_4 u H locs hp hP hD hS => ?_)
      have hPD := PDm (ws' := (wd_X0_goDown cI cC cZ cB cJ xB vI wY xO tJ jJ mY pG pD pE eO dN bD bJ aI oE aNR aLF eY dU fY gJ jG nU)) hP hD 4 rfl rfl rfl
      have hP := hPD.1
      have hD := hPD.2
      have hm := mgk (wc := (wd_X2_spend cI cC cZ cB cJ wY aNR aLF eY dU fY gJ jG nU)) hP mk_66 4 rfl rfl rfl
      refine aBn hP hD hS hA (yS mk_66) (aAi mk_66) hm.1 hm.2 (aAk _) (zW _) (zF (As := [.int r_4]) (rest := []) C0 hP hD hS (yS mk_66) hm.1 (aAl _) 3 2 rfl rfl (c_X2_spend l dC dI cI cC cZ cB cJ wY H.size r_4 aNR aLF eY dU fY gJ jG nU _ hp) q_237 q_240 q_238 q_239 q_181 h_X2_spend rfl rfl ⟨lbz rfl, lbz rfl⟩ rfl rfl hl.1 rfl (lv_room (lbz rfl)) aXx.2.2.2.2.2.2.2.2.2.2.2.1 ⟨Nat.zero_le _, Nat.zero_le _⟩) (fun u H locs hp hP hD hS => ?_)
      obtain ⟨aIm, rfl⟩ : ∃ z, z = u := ⟨_, rfl⟩
      have hPD := PDm (ws' := (wd_X0_goDown cI cC cZ cB cJ xB vI wY xO tJ jJ mY pG pD pE eO dN bD bJ aI oE aNR aLF eY dU fY gJ jG aIm)) hP hD 4 rfl rfl rfl
      have hP := hPD.1
      have hD := hPD.2
      refine lv_iload_n hx hb aXx.2.2.2.2.2.2.2.2.2.2.2.2.1 rfl (lv_at hl 0 rfl) ?_
      exact W.iret (v := r_1) hx hb hr (fun t ht hW => ⟨⟨r_1, (aNR, aLF, aIm), rfl, hp, by rw [ht]; exact hP, va_K.moved hW.alike hK, hD⟩, hS.F ht⟩) hS.2.2 aXx.2.2.2.2.2.2.2.2.2.2.2.2.2
    · have hp := hp.2 hc
      refine lv_bipush (v := (-2)) hx hb aSC.2.2.2.2.2.2.2.2.2.1 bp_m2 ?_
      exact W.iret (v := (-2)) hx hb hr (fun t ht hW => ⟨⟨(-2), (jE, eW, nU), rfl, hp, by rw [ht]; exact hP, va_K.moved hW.alike hK, hD⟩, hS.F ht⟩) hS.2.2 aSC.2.2.2.2.2.2.2.2.2.2.1
abbrev wd_X9_down (cI cC cZ cB cJ : ClassId) (a_x xI xH xB vI wY xX yA xY uD xO tJ jJ mY pG pD pE eO wF uT wD : Nat) (dN bD bJ aI : Int32) (oE : Nat -> Int32) (jE eW eY dU fY gJ jG nU pR uM : Int32) (tD : Nat -> Int32) : va_W := [(a_x, .inr (9, [.ref xI, .ref xH, .ref xB, .ref vI, .ref wY, .ref xX, .ref yA, .ref xY, .ref uD])), (xB, .inr (0, [.ref vI, .ref wY, .ref xO])), (vI, .inr (3, [.ref tJ, .ref jJ, .ref mY, .ref pG, .ref pD, .ref pE, .ref eO, .int dN, .int bD, .int bJ, .int aI])), (pE, .inl (cI, 8, .inl oE)), (wY, .inr (2, [.int jE, .int eW, .int eY, .int dU, .int fY, .int gJ, .int jG, .int nU])), (xX, .inr (4, [.ref wF, .ref uT, .ref wD, .int pR, .int uM])), (wF, .inl (cI, 104, .inl tD))]
abbrev q_X9_down (dC : Nat -> ClassId) (dI : Nat -> Nat -> Nat) (cI cC cZ cB cJ : ClassId) (A : Nat -> Prop) (a_x xI xH xB vI wY xX yA xY uD xO tJ jJ mY pG pD pE eO wF uT wD : Nat) (dN bD bJ aI : Int32) (oE : Nat -> Int32) (eY dU fY gJ jG : Int32) (post : Int32 -> Int32 -> Int32 -> Int32 -> Int32 -> Int32 -> (Nat -> Int32) -> Prop) : Array Value -> State -> Outcome -> State -> Prop := va_Qi (fun (r : Int32) (u : Int32 × Int32 × Int32 × Int32 × Int32 × (Nat -> Int32)) => post r u.1 u.2.1 u.2.2.1 u.2.2.2.1 u.2.2.2.2.1 u.2.2.2.2.2) (fun u t => gB (dC, dI) (tyl cI cC cZ cB cJ) A (wd_X9_down cI cC cZ cB cJ a_x xI xH xB vI wY xX yA xY uD xO tJ jJ mY pG pD pE eO wF uT wD dN bD bJ aI oE u.1 u.2.1 eY dU fY gJ jG u.2.2.1 u.2.2.2.1 u.2.2.2.2.1 u.2.2.2.2.2) t) A
abbrev rm_X9_down : Room := { frames := 3, cells := 0, slots := 0, locals := 63 }
def wp_X9_down (post : Int32 -> Int32 -> Int32 -> Int32 -> Int32 -> Int32 -> (Nat -> Int32) -> Prop) (oE : Nat -> Int32) (jE eW eY dU fY gJ jG nU pR uM : Int32) (tD : Nat -> Int32) : Prop := wp_X4_note (fun aGG => wp_X0_goDown (fun r_2 aJy aLG aIm => aUb (fun r_6 pa_undoable_7 pa_free_8 => post r_6 aJy aLG aIm pa_undoable_7 pa_free_8 aGG) r_2 pR uM) oE jE eW fY nU) jE eW eY dU fY gJ jG nU uM tD
set_option maxHeartbeats 4000000 in
set_option maxRecDepth 100000 in
theorem c_X9_down (l : Launch) (dC : Nat -> ClassId) (dI : Nat -> Nat -> Nat) (cI cC cZ cB cJ : ClassId) (a_x xI xH xB vI wY xX yA xY uD xO tJ jJ mY pG pD pE eO wF uT wD sz : Nat) (dN bD bJ aI : Int32) (oE : Nat -> Int32) (jE eW eY dU fY gJ jG nU pR uM : Int32) (tD : Nat -> Int32) (post : Int32 -> Int32 -> Int32 -> Int32 -> Int32 -> Int32 -> (Nat -> Int32) -> Prop) (hw : wp_X9_down post oE jE eW eY dU fY gJ jG nU pR uM tD) : Met l yX9_down (gw yX9_down cX9_down 1 (some .int)) rm_X9_down (va_Pc [.ref a_x] (gPre (dC, dI) (tyl cI cC cZ cB cJ) (wd_X9_down cI cC cZ cB cJ a_x xI xH xB vI wY xX yA xY uD xO tJ jJ mY pG pD pE eO wF uT wD dN bD bJ aI oE jE eW eY dU fY gJ jG nU pR uM tD) sz)) (q_X9_down dC dI cI cC cZ cB cJ (va_A (wd_X9_down cI cC cZ cB cJ a_x xI xH xB vI wY xX yA xY uD xO tJ jJ mY pG pD pE eO wF uT wD dN bD bJ aI oE jE eW eY dU fY gJ jG nU pR uM tD) sz) a_x xI xH xB vI wY xX yA xY uD xO tJ jJ mY pG pD pE eO wF uT wD dN bD bJ aI oE eY dU fY gJ jG post) 0 0 (va_A (wd_X9_down cI cC cZ cB cJ a_x xI xH xB vI wY xX yA xY uD xO tJ jJ mY pG pD pE eO wF uT wD dN bD bJ aI oE jE eW eY dU fY gJ jG nU pR uM tD) sz) := by
  refine aBJ (own := RX9) (dC, dI) (tyl cI cC cZ cB cJ) (wd_X9_down cI cC cZ cB cJ a_x xI xH xB vI wY xX yA xY uD xO tJ jJ mY pG pD pE eO wF uT wD dN bD bJ aI oE jE eW eY dU fY gJ jG nU pR uM tD) sz [.ref a_x] (fun A => q_X9_down dC dI cI cC cZ cB cJ A a_x xI xH xB vI wY xX yA xY uD xO tJ jJ mY pG pD pE eO wF uT wD dN bD bJ aI oE eY dU fY gJ jG post) pn_RX9 rfl (lbz rfl) ?_
  intro p e s m args below meth c A H locs ls C0 hP hD hS hl
  have hl : lv_has ls 1 [(0, .ref a_x)] := hl
  obtain ⟨hx, hb, hr, hml, hown, hts, hlocks, hA, hK, hN, tL, tM, hZL, hTL, hZM, hTM, hZX⟩ := id C0
  have hp := hw
  unfold wp_X9_down at hp
  refine lv_aload_n hx hb eX9_down_0.1 rfl (lv_at hl 0 rfl) ?_
  refine va_get (D := (dC, dI)) (ci := 9) (v := .ref xX) (C := RX9) (T := TX9) (N := 9) hx hb hts aC3 hown hK hP 0 rfl rfl 5 (lbz rfl) (hts _ q_91) (fun _ h9 => h9) rfl eX9_down_0.2.1 ?_
  refine lv_aload_n hx hb eX9_down_0.2.2.1 rfl (lv_at hl 0 rfl) ?_
  refine va_get (D := (dC, dI)) (ci := 9) (v := .ref wY) (C := RX9) (T := TX9) (N := 9) hx hb hts aC3 hown hK hP 0 rfl rfl 4 (lbz rfl) (hts _ q_179) (fun _ h9 => h9) rfl eX9_down_0.2.2.2.1 ?_
  have hm := mgk (wc := (wd_X4_note cI cC cZ cB cJ wY xX wF uT wD jE eW eY dU fY gJ jG nU pR uM tD)) hP mk_67 7 rfl rfl rfl
  refine aBn hP hD hS hA (yS mk_67) (aAi mk_67) hm.1 hm.2 (aAk _) (zW _) (zF (As := [.ref wY]) (rest := []) C0 hP hD hS (yS mk_67) hm.1 (aAl _) 5 4 rfl rfl (c_X4_note l dC dI cI cC cZ cB cJ wY xX wF uT wD H.size jE eW eY dU fY gJ jG nU pR uM tD _ hp) q_247 q_250 q_248 q_249 q_93 h_X4_note rfl rfl ⟨lbz rfl, lbz rfl⟩ rfl rfl hl.1 rfl (lv_room (lbz rfl)) eX9_down_0.2.2.2.2.1 ⟨Nat.zero_le _, Nat.zero_le _⟩) (fun u H locs hp hP hD hS => ?_)
  obtain ⟨aGG, rfl⟩ : ∃ z, z = u := ⟨_, rfl⟩
  have hPD := PDm (ws' := (wd_X9_down cI cC cZ cB cJ a_x xI xH xB vI wY xX yA xY uD xO tJ jJ mY pG pD pE eO wF uT wD dN bD bJ aI oE jE eW eY dU fY gJ jG nU pR uM aGG)) hP hD 7 rfl rfl rfl
  have hP := hPD.1
  have hD := hPD.2
  refine lv_aload_n hx hb eX9_down_0.2.2.2.2.2.1 rfl (lv_at hl 0 rfl) ?_
  refine lv_aload_n hx hb eX9_down_0.2.2.2.2.2.2.1 rfl (lv_at hl 0 rfl) ?_
  refine va_get (D := (dC, dI)) (ci := 9) (v := .ref xB) (C := RX9) (T := TX9) (N := 9) hx hb hts aC3 hown hK hP 0 rfl rfl 2 (lbz rfl) (hts _ q_146) (fun _ h9 => h9) rfl eX9_down_0.2.2.2.2.2.2.2.1 ?_
  have hm := mgk (wc := (wd_X0_goDown cI cC cZ cB cJ xB vI wY xO tJ jJ mY pG pD pE eO dN bD bJ aI oE jE eW eY dU fY gJ jG nU)) hP mk_68 7 rfl rfl rfl
  refine yW hP hD hS hA (yS mk_68) (aAi mk_68) hm.1 hm.2 (aAk _) (zW _) (zF (As := []) (rest := [.ref a_x]) C0 hP hD hS (yS mk_68) hm.1 (aAl _) 1 0 rfl rfl (c_X0_goDown l dC dI cI cC cZ cB cJ xB vI wY xO tJ jJ mY pG pD pE eO H.size dN bD bJ aI oE jE eW eY dU fY gJ jG nU _ hp) q_334 q_337 q_335 q_336 q_187 h_X0_goDown rfl rfl ⟨lbz rfl, lbz rfl⟩ rfl rfl hl.1 rfl (lv_room (lbz rfl)) eX9_down_0.2.2.2.2.2.2.2.2.1 ⟨Nat.zero_le _, Nat.zero_le _⟩) (fun r_2 u H locs hp hP hD hS => ?_)
  obtain ⟨aJy, aLG, aIm⟩ := u
  have hPD := PDm (ws' := (wd_X9_down cI cC cZ cB cJ a_x xI xH xB vI wY xX yA xY uD xO tJ jJ mY pG pD pE eO wF uT wD dN bD bJ aI oE aJy aLG eY dU fY gJ jG aIm pR uM aGG)) hP hD 7 rfl rfl rfl
  have hP := hPD.1
  have hD := hPD.2
  have hm := mgk (wc := (aUY cI cC cZ cB cJ a_x xI xH xB vI wY xX yA xY uD wF uT wD pR uM)) hP mk_69 7 rfl rfl rfl
  refine yW hP hD hS hA (yS mk_69) (aAi mk_69) hm.1 hm.2 (aAk _) (zW _) (zF (As := [.int r_2]) (rest := []) C0 hP hD hS (yS mk_69) hm.1 (aAl _) 0 9 rfl rfl (c_X9_holdIfDone l dC dI cI cC cZ cB cJ a_x xI xH xB vI wY xX yA xY uD wF uT wD H.size r_2 pR uM _ hp) q_255 q_259 q_257 q_258 aIl h_X9_holdIfDone rfl rfl ⟨lbz rfl, lbz rfl⟩ rfl rfl hl.1 rfl (lv_room (lbz rfl)) eX9_down_0.2.2.2.2.2.2.2.2.2.1 ⟨Nat.zero_le _, Nat.zero_le _⟩) (fun r_6 u H locs hp hP hD hS => ?_)
  obtain ⟨pa_undoable_7, pa_free_8⟩ := u
  have hPD := PDm (ws' := (wd_X9_down cI cC cZ cB cJ a_x xI xH xB vI wY xX yA xY uD xO tJ jJ mY pG pD pE eO wF uT wD dN bD bJ aI oE aJy aLG eY dU fY gJ jG aIm pa_undoable_7 pa_free_8 aGG)) hP hD 7 rfl rfl rfl
  have hP := hPD.1
  have hD := hPD.2
  exact W.iret (v := r_6) hx hb hr (fun t ht hW => ⟨⟨r_6, (aJy, aLG, aIm, pa_undoable_7, pa_free_8, aGG), rfl, hp, by rw [ht]; exact hP, va_K.moved hW.alike hK, hD⟩, hS.F ht⟩) hS.2.2 eX9_down_0.2.2.2.2.2.2.2.2.2.2
abbrev aLx (cI cC cZ cB cJ : ClassId) (vI tJ jJ mY pG pD pE eO : Nat) (dN bD bJ aI : Int32) (uU gF mX oE : Nat -> Int32) : va_W := [(vI, .inr (3, [.ref tJ, .ref jJ, .ref mY, .ref pG, .ref pD, .ref pE, .ref eO, .int dN, .int bD, .int bJ, .int aI])), (tJ, .inl (cI, 16, .inl uU)), (jJ, .inl (cI, 16, .inl gF)), (pD, .inl (cI, 8, .inl mX)), (pE, .inl (cI, 8, .inl oE))]
abbrev q_X3_within (dC : Nat -> ClassId) (dI : Nat -> Nat -> Nat) (cI cC cZ cB cJ : ClassId) (A : Nat -> Prop) (vI tJ jJ mY pG pD pE eO : Nat) (dN bD bJ aI : Int32) (uU gF mX oE : Nat -> Int32) (post : Int32 -> Prop) : Array Value -> State -> Outcome -> State -> Prop := va_Qi (fun (r : Int32) (u : Unit) => post r) (fun u t => gB (dC, dI) (tyl cI cC cZ cB cJ) A (aLx cI cC cZ cB cJ vI tJ jJ mY pG pD pE eO dN bD bJ aI uU gF mX oE) t) A
abbrev rm_X3_within : Room := { frames := 2, cells := 0, slots := 0, locals := 47 }
section S_X3_within
variable {p : Program} {l : Launch} {e : Env} {s : State} {m : MethodId} {args : Array Value} {below : List Frame} {meth : Method} {c : Code} {dC : Nat -> ClassId} {dI : Nat -> Nat -> Nat} {cI cC cZ cB cJ : ClassId} {A : Nat -> Prop} {vI tJ jJ mY pG pD pE eO : Nat} {dN bD bJ aI : Int32} {uU gF mX oE : Nat -> Int32} {post : Int32 -> Prop}
def ws_X3_within_32 (post : Int32 -> Prop) (K5 : Int32 -> Int32 -> Int32 -> Int32 -> Prop) (dN : Int32) (uU gF mX oE : Nat -> Int32) (x1 x2 x3 x4 : Int32) : Prop := ∀ v_2 : Int32, v_2 = x4 + 1 -> K5 x1 x2 x3 v_2
set_option maxHeartbeats 4000000 in
set_option maxRecDepth 100000 in
theorem ks_X3_within_32 (C0 : gc aLk (some .int) 5 RX3 (dC, dI) (tyl cI cC cZ cB cJ) A p s m args meth c) {K5 : Int32 -> Int32 -> Int32 -> Int32 -> Prop} (hK5 : ∀ (x1 : Int32) (x2 : Int32) (x3 : Int32) (x4 : Int32) (H : Heap) (locs : List Loc) (ls : Array Slot), K5 x1 x2 x3 x4 -> va_P (dC, dI) classes (aLx cI cC cZ cB cJ vI tJ jJ mY pG pD pE eO dN bD bJ aI uU gF mX oE) H -> va_D A (aLx cI cC cZ cB cJ vI tJ jJ mY pG pD pE eO dN bD bJ aI uU gF mX oE) -> va_S A s.heap H locs -> lv_has ls 5 [(0, .ref vI), (1, .int x1), (2, .int x2), (3, .int x3), (4, .int x4)] -> W p l e rm_X3_within s m args below meth c H locs 0 0 (MQ below (q_X3_within dC dI cI cC cZ cB cJ A vI tJ jJ mY pG pD pE eO dN bD bJ aI uU gF mX oE post) args s 0 0 A) (F0 m 5 ls [])) : ∀ (x1 x2 x3 x4 : Int32) (H : Heap) (locs : List Loc) (ls : Array Slot), (ws_X3_within_32 post K5 dN uU gF mX oE) x1 x2 x3 x4 -> va_P (dC, dI) classes (aLx cI cC cZ cB cJ vI tJ jJ mY pG pD pE eO dN bD bJ aI uU gF mX oE) H -> va_D A (aLx cI cC cZ cB cJ vI tJ jJ mY pG pD pE eO dN bD bJ aI uU gF mX oE) -> va_S A s.heap H locs -> lv_has ls 5 [(0, .ref vI), (1, .int x1), (2, .int x2), (3, .int x3), (4, .int x4)] -> W p l e rm_X3_within s m args below meth c H locs 0 0 (MQ below (q_X3_within dC dI cI cC cZ cB cJ A vI tJ jJ mY pG pD pE eO dN bD bJ aI uU gF mX oE post) args s 0 0 A) (F0 m 32 ls []) := by
  obtain ⟨hx, hb, hr, hml, hown, hts, hlocks, hA, hK, hN, tL, tM, hZL, hTL, hZM, hTM, hZX⟩ := id C0
  intro x1 x2 x3 x4 H locs ls hp hP hD hS hl
  unfold ws_X3_within_32 at hp
  obtain ⟨v_2, aGO⟩ : ∃ y : Int32, y = x4 + 1 := ⟨_, rfl⟩
  refine lv_iinc (v := v_2) (lv' := [(4, .int v_2), (0, .ref vI), (1, .int x1), (2, .int x2), (3, .int x3)]) hx hb eX3_within_27.2.2.2.2.1 hl (k := 4) rfl (by rw [aGO]; rfl) (by decide) rfl (fun ls hl => ?_)
  have hp := hp v_2 aGO
  refine lv_goto (tgt := 5) hx hb eX3_within_27.2.2.2.2.2.1 (by decide) ?_
  exact hK5 x1 x2 x3 v_2 H locs ls hp hP hD hS (lv_sub hl [1, 2, 3, 4, 0] rfl)
def ws_X3_within_5 (post : Int32 -> Prop) (next : Int32 -> Int32 -> Int32 -> Int32 -> Prop) (dN : Int32) (uU gF mX oE : Nat -> Int32) (x1 x2 x3 x4 : Int32) : Prop := (dN <= x4 -> post x3) /\ (¬ dN <= x4 -> bBv (fun r_1 => (r_1 = 0 -> ws_X3_within_32 post next dN uU gF mX oE x1 x2 x3 x4) /\ (¬ r_1 = 0 -> ∀ v_3 : Int32, v_3 = x3 ||| (1 <<< (x4 &&& 31)) -> ws_X3_within_32 post next dN uU gF mX oE x1 x2 v_3 x4)) x4 x1 x2 uU gF mX oE)
noncomputable def wb_X3_within_5 (post : Int32 -> Prop) (dN : Int32) (uU gF mX oE : Nat -> Int32) : Nat -> Int32 -> Int32 -> Int32 -> Int32 -> Prop := fun n => Nat.rec (motive := fun _ => Int32 -> Int32 -> Int32 -> Int32 -> Prop) (fun _ _ _ _ => False) (fun _ ih => ws_X3_within_5 post ih dN uU gF mX oE) n
set_option maxHeartbeats 4000000 in
set_option maxRecDepth 100000 in
theorem ks_X3_within_5 (C0 : gc aLk (some .int) 5 RX3 (dC, dI) (tyl cI cC cZ cB cJ) A p s m args meth c) {next : Int32 -> Int32 -> Int32 -> Int32 -> Prop} (hKn : ∀ (x1 : Int32) (x2 : Int32) (x3 : Int32) (x4 : Int32) (H : Heap) (locs : List Loc) (ls : Array Slot), next x1 x2 x3 x4 -> va_P (dC, dI) classes (aLx cI cC cZ cB cJ vI tJ jJ mY pG pD pE eO dN bD bJ aI uU gF mX oE) H -> va_D A (aLx cI cC cZ cB cJ vI tJ jJ mY pG pD pE eO dN bD bJ aI uU gF mX oE) -> va_S A s.heap H locs -> lv_has ls 5 [(0, .ref vI), (1, .int x1), (2, .int x2), (3, .int x3), (4, .int x4)] -> W p l e rm_X3_within s m args below meth c H locs 0 0 (MQ below (q_X3_within dC dI cI cC cZ cB cJ A vI tJ jJ mY pG pD pE eO dN bD bJ aI uU gF mX oE post) args s 0 0 A) (F0 m 5 ls [])) : ∀ (x1 x2 x3 x4 : Int32) (H : Heap) (locs : List Loc) (ls : Array Slot), (ws_X3_within_5 post next dN uU gF mX oE) x1 x2 x3 x4 -> va_P (dC, dI) classes (aLx cI cC cZ cB cJ vI tJ jJ mY pG pD pE eO dN bD bJ aI uU gF mX oE) H -> va_D A (aLx cI cC cZ cB cJ vI tJ jJ mY pG pD pE eO dN bD bJ aI uU gF mX oE) -> va_S A s.heap H locs -> lv_has ls 5 [(0, .ref vI), (1, .int x1), (2, .int x2), (3, .int x3), (4, .int x4)] -> W p l e rm_X3_within s m args below meth c H locs 0 0 (MQ below (q_X3_within dC dI cI cC cZ cB cJ A vI tJ jJ mY pG pD pE eO dN bD bJ aI uU gF mX oE post) args s 0 0 A) (F0 m 5 ls []) := by
  obtain ⟨hx, hb, hr, hml, hown, hts, hlocks, hA, hK, hN, tL, tM, hZL, hTL, hZM, hTM, hZX⟩ := id C0
  intro x1 x2 x3 x4 H locs ls hp hP hD hS hl
  unfold ws_X3_within_5 at hp
  refine lv_iload hx hb aWc.2.2.2.2.1 (lv_at hl 4 rfl) ?_
  refine lv_aload_n hx hb aWc.2.2.2.2.2.1 rfl (lv_at hl 0 rfl) ?_
  refine va_get (D := (dC, dI)) (ci := 3) (v := .int dN) (C := RX3) (T := TX3) (N := 11) hx hb hts i_X3 hown hK hP 0 rfl rfl 7 (lbz rfl) (hts _ q_20) (fun _ h9 => h9) rfl aWc.2.2.2.2.2.2.1 ?_
  refine lv_icmp_ge (tgt := 38) hx hb aWc.2.2.2.2.2.2.2.1 (by decide) (fun hc => ?_) (fun hc => ?_)
  · have hp := hp.1 hc
    refine lv_iload_n hx hb eX3_within_27.2.2.2.2.2.2.1 rfl (lv_at hl 3 rfl) ?_
    exact W.iret (v := x3) hx hb hr (fun t ht hW => ⟨⟨x3, (), rfl, hp, by rw [ht]; exact hP, va_K.moved hW.alike hK, hD⟩, hS.F ht⟩) hS.2.2 eX3_within_27.2.2.2.2.2.2.2
  · have hp := hp.2 hc
    refine lv_aload_n hx hb aWc.2.2.2.2.2.2.2.2.1 rfl (lv_at hl 0 rfl) ?_
    refine lv_iload hx hb aWc.2.2.2.2.2.2.2.2.2.1 (lv_at hl 4 rfl) ?_
    refine lv_iload_n hx hb aWc.2.2.2.2.2.2.2.2.2.2.1 rfl (lv_at hl 1 rfl) ?_
    refine lv_iload_n hx hb aWc.2.2.2.2.2.2.2.2.2.2.2.1 rfl (lv_at hl 2 rfl) ?_
    have hm := mgk (wc := (aY3 cI cC cZ cB cJ vI tJ jJ mY pG pD pE eO dN bD bJ aI uU gF mX oE)) hP mk_70 5 rfl rfl rfl
    refine yW hP hD hS hA (yS mk_70) (aAi mk_70) hm.1 hm.2 (aAk _) (zW _) (zF (As := [.int x4, .int x1, .int x2]) (rest := []) C0 hP hD hS (yS mk_70) hm.1 (aAl _) 0 3 rfl rfl (c_X3_isWithin l dC dI cI cC cZ cB cJ vI tJ jJ mY pG pD pE eO H.size x4 x1 x2 dN bD bJ aI uU gF mX oE _ hp) q_316 q_338 q_317 q_318 q_48 h_X3_isWithin rfl rfl ⟨lbz rfl, lbz rfl⟩ rfl rfl hl.1 rfl (lv_room (lbz rfl)) aWc.2.2.2.2.2.2.2.2.2.2.2.2.1 ⟨Nat.zero_le _, Nat.zero_le _⟩) (fun r_1 u H locs hp hP hD hS => ?_)
    have hPD := PDm (ws' := (aLx cI cC cZ cB cJ vI tJ jJ mY pG pD pE eO dN bD bJ aI uU gF mX oE)) hP hD 5 rfl rfl rfl
    have hP := hPD.1
    have hD := hPD.2
    refine lv_if_eq (tgt := 32) hx hb aWc.2.2.2.2.2.2.2.2.2.2.2.2.2.1 (by decide) (fun hc => ?_) (fun hc => ?_)
    · have hp := hp.1 hc
      exact ks_X3_within_32 C0 hKn x1 x2 x3 x4 H locs ls hp hP hD hS (lv_sub hl [0, 1, 2, 3, 4] rfl)
    · have hp := hp.2 hc
      refine lv_iload_n hx hb aWc.2.2.2.2.2.2.2.2.2.2.2.2.2.2.1 rfl (lv_at hl 3 rfl) ?_
      refine lv_iconst (v := 1) hx hb aWc.2.2.2.2.2.2.2.2.2.2.2.2.2.2.2 aDx ?_
      refine lv_iload hx hb eX3_within_27.1 (lv_at hl 4 rfl) ?_
      refine lv_ishl hx hb eX3_within_27.2.1 ?_
      refine lv_ior hx hb eX3_within_27.2.2.1 ?_
      refine lv_topi (fun v_3 aGW => ?_)
      have hp := hp v_3 aGW
      refine lv_istore_n (lv' := [(3, .int v_3), (0, .ref vI), (1, .int x1), (2, .int x2), (4, .int x4)]) hx hb eX3_within_27.2.2.2.1 rfl hl (by decide) rfl (fun ls hl => ?_)
      exact ks_X3_within_32 C0 hKn x1 x2 v_3 x4 H locs ls hp hP hD hS (lv_sub hl [1, 2, 3, 0, 4] rfl)
set_option maxHeartbeats 4000000 in
set_option maxRecDepth 100000 in
theorem kb_X3_within_5 (C0 : gc aLk (some .int) 5 RX3 (dC, dI) (tyl cI cC cZ cB cJ) A p s m args meth c) : ∀ (n : Nat), ∀ (x1 x2 x3 x4 : Int32) (H : Heap) (locs : List Loc) (ls : Array Slot), (wb_X3_within_5 post dN uU gF mX oE n) x1 x2 x3 x4 -> va_P (dC, dI) classes (aLx cI cC cZ cB cJ vI tJ jJ mY pG pD pE eO dN bD bJ aI uU gF mX oE) H -> va_D A (aLx cI cC cZ cB cJ vI tJ jJ mY pG pD pE eO dN bD bJ aI uU gF mX oE) -> va_S A s.heap H locs -> lv_has ls 5 [(0, .ref vI), (1, .int x1), (2, .int x2), (3, .int x3), (4, .int x4)] -> W p l e rm_X3_within s m args below meth c H locs 0 0 (MQ below (q_X3_within dC dI cI cC cZ cB cJ A vI tJ jJ mY pG pD pE eO dN bD bJ aI uU gF mX oE post) args s 0 0 A) (F0 m 5 ls []) := by
  intro n
  induction n with
  | zero =>
    intro x1 x2 x3 x4 H locs ls hp
    exact False.elim hp
  | succ n ih =>
    intro x1 x2 x3 x4 H locs ls hp
    exact ks_X3_within_5 C0 ih x1 x2 x3 x4 H locs ls hp
end S_X3_within
def bBS (post : Int32 -> Prop) (p0 p1 dN : Int32) (uU gF mX oE : Nat -> Int32) : Prop := ∃ n : Nat, wb_X3_within_5 post dN uU gF mX oE n p0 p1 0 0
set_option maxHeartbeats 4000000 in
set_option maxRecDepth 100000 in
theorem c_X3_within (l : Launch) (dC : Nat -> ClassId) (dI : Nat -> Nat -> Nat) (cI cC cZ cB cJ : ClassId) (vI tJ jJ mY pG pD pE eO sz : Nat) (p0 p1 dN bD bJ aI : Int32) (uU gF mX oE : Nat -> Int32) (post : Int32 -> Prop) (hw : bBS post p0 p1 dN uU gF mX oE) : Met l yX3_within (gw yX3_within aLk 5 (some .int)) rm_X3_within (va_Pc [.ref vI, .int p0, .int p1] (gPre (dC, dI) (tyl cI cC cZ cB cJ) (aLx cI cC cZ cB cJ vI tJ jJ mY pG pD pE eO dN bD bJ aI uU gF mX oE) sz)) (q_X3_within dC dI cI cC cZ cB cJ (va_A (aLx cI cC cZ cB cJ vI tJ jJ mY pG pD pE eO dN bD bJ aI uU gF mX oE) sz) vI tJ jJ mY pG pD pE eO dN bD bJ aI uU gF mX oE post) 0 0 (va_A (aLx cI cC cZ cB cJ vI tJ jJ mY pG pD pE eO dN bD bJ aI uU gF mX oE) sz) := by
  refine aBJ (own := RX3) (dC, dI) (tyl cI cC cZ cB cJ) (aLx cI cC cZ cB cJ vI tJ jJ mY pG pD pE eO dN bD bJ aI uU gF mX oE) sz [.ref vI, .int p0, .int p1] (fun A => q_X3_within dC dI cI cC cZ cB cJ A vI tJ jJ mY pG pD pE eO dN bD bJ aI uU gF mX oE post) pn_RX3 rfl (lbz rfl) ?_
  intro p e s m args below meth c A H locs ls C0 hP hD hS hl
  have hl : lv_has ls 5 [(0, .ref vI), (1, .int p0), (2, .int p1)] := hl
  obtain ⟨hx, hb, hr, hml, hown, hts, hlocks, hA, hK, hN, tL, tM, hZL, hTL, hZM, hTM, hZX⟩ := id C0
  have hp := hw
  unfold bBS at hp
  refine lv_iconst (v := 0) hx hb aWc.1 aCi ?_
  refine lv_istore_n (lv' := [(3, .int 0), (0, .ref vI), (1, .int p0), (2, .int p1)]) hx hb aWc.2.1 rfl hl (by decide) rfl (fun ls hl => ?_)
  refine lv_iconst (v := 0) hx hb aWc.2.2.1 aCi ?_
  refine lv_istore (lv' := [(4, .int 0), (3, .int 0), (0, .ref vI), (1, .int p0), (2, .int p1)]) hx hb aWc.2.2.2.1 hl (by decide) rfl (fun ls hl => ?_)
  obtain ⟨n9, hp⟩ := hp
  exact kb_X3_within_5 C0 n9 p0 p1 0 0 H locs ls hp hP hD hS (lv_sub hl [2, 3, 4, 1, 0] rfl)
abbrev aLw (cI cC cZ cB cJ : ClassId) (vI tJ jJ mY pG pD pE eO : Nat) (dN bD bJ aI : Int32) (qF : Nat -> Int32) : va_W := [(vI, .inr (3, [.ref tJ, .ref jJ, .ref mY, .ref pG, .ref pD, .ref pE, .ref eO, .int dN, .int bD, .int bJ, .int aI])), (pG, .inl (cI, 16, .inl qF))]
abbrev q_X3_ripeBy (dC : Nat -> ClassId) (dI : Nat -> Nat -> Nat) (cI cC cZ cB cJ : ClassId) (A : Nat -> Prop) (vI tJ jJ mY pG pD pE eO : Nat) (dN bD bJ aI : Int32) (qF : Nat -> Int32) (post : Int32 -> Prop) : Array Value -> State -> Outcome -> State -> Prop := va_Qi (fun (r : Int32) (u : Unit) => post r) (fun u t => gB (dC, dI) (tyl cI cC cZ cB cJ) A (aLw cI cC cZ cB cJ vI tJ jJ mY pG pD pE eO dN bD bJ aI qF) t) A
abbrev rm_X3_ripeBy : Room := { frames := 0, cells := 0, slots := 0, locals := 0 }
section S_X3_ripeBy
variable {p : Program} {l : Launch} {e : Env} {s : State} {m : MethodId} {args : Array Value} {below : List Frame} {meth : Method} {c : Code} {dC : Nat -> ClassId} {dI : Nat -> Nat -> Nat} {cI cC cZ cB cJ : ClassId} {A : Nat -> Prop} {vI tJ jJ mY pG pD pE eO : Nat} {dN bD bJ aI : Int32} {qF : Nat -> Int32} {post : Int32 -> Prop}
def ws_X3_ripeBy_28 (post : Int32 -> Prop) (K4 : Int32 -> Int32 -> Int32 -> Prop) (dN : Int32) (qF : Nat -> Int32) (x1 x2 x3 : Int32) : Prop := ∀ v_2 : Int32, v_2 = x3 + 1 -> K4 x1 x2 v_2
set_option maxHeartbeats 4000000 in
set_option maxRecDepth 100000 in
theorem ks_X3_ripeBy_28 (C0 : gc aLj (some .int) 4 RX3 (dC, dI) (tyl cI cC cZ cB cJ) A p s m args meth c) {K4 : Int32 -> Int32 -> Int32 -> Prop} (hK4 : ∀ (x1 : Int32) (x2 : Int32) (x3 : Int32) (H : Heap) (locs : List Loc) (ls : Array Slot), K4 x1 x2 x3 -> va_P (dC, dI) classes (aLw cI cC cZ cB cJ vI tJ jJ mY pG pD pE eO dN bD bJ aI qF) H -> va_D A (aLw cI cC cZ cB cJ vI tJ jJ mY pG pD pE eO dN bD bJ aI qF) -> va_S A s.heap H locs -> lv_has ls 4 [(0, .ref vI), (1, .int x1), (2, .int x2), (3, .int x3)] -> W p l e rm_X3_ripeBy s m args below meth c H locs 0 0 (MQ below (q_X3_ripeBy dC dI cI cC cZ cB cJ A vI tJ jJ mY pG pD pE eO dN bD bJ aI qF post) args s 0 0 A) (F0 m 4 ls [])) : ∀ (x1 x2 x3 : Int32) (H : Heap) (locs : List Loc) (ls : Array Slot), (ws_X3_ripeBy_28 post K4 dN qF) x1 x2 x3 -> va_P (dC, dI) classes (aLw cI cC cZ cB cJ vI tJ jJ mY pG pD pE eO dN bD bJ aI qF) H -> va_D A (aLw cI cC cZ cB cJ vI tJ jJ mY pG pD pE eO dN bD bJ aI qF) -> va_S A s.heap H locs -> lv_has ls 4 [(0, .ref vI), (1, .int x1), (2, .int x2), (3, .int x3)] -> W p l e rm_X3_ripeBy s m args below meth c H locs 0 0 (MQ below (q_X3_ripeBy dC dI cI cC cZ cB cJ A vI tJ jJ mY pG pD pE eO dN bD bJ aI qF post) args s 0 0 A) (F0 m 28 ls []) := by
  obtain ⟨hx, hb, hr, hml, hown, hts, hlocks, hA, hK, hN, tL, tM, hZL, hTL, hZM, hTM, hZX⟩ := id C0
  intro x1 x2 x3 H locs ls hp hP hD hS hl
  unfold ws_X3_ripeBy_28 at hp
  obtain ⟨v_2, aGO⟩ : ∃ y : Int32, y = x3 + 1 := ⟨_, rfl⟩
  refine lv_iinc (v := v_2) (lv' := [(3, .int v_2), (0, .ref vI), (1, .int x1), (2, .int x2)]) hx hb eX3_ripeBy_24.2.2.2.2.1 hl (k := 3) rfl (by rw [aGO]; rfl) (by decide) rfl (fun ls hl => ?_)
  have hp := hp v_2 aGO
  refine lv_goto (tgt := 4) hx hb eX3_ripeBy_24.2.2.2.2.2.1 (by decide) ?_
  exact hK4 x1 x2 v_2 H locs ls hp hP hD hS (lv_sub hl [1, 2, 3, 0] rfl)
def ws_X3_ripeBy_4 (post : Int32 -> Prop) (next : Int32 -> Int32 -> Int32 -> Prop) (dN : Int32) (qF : Nat -> Int32) (x1 x2 x3 : Int32) : Prop := (dN <= x3 -> post x2) /\ (¬ dN <= x3 -> vp_in x3 16 /\ (∀ v_1 : Int32, v_1 = qF x3.toNatClampNeg -> (x1 < v_1 -> ws_X3_ripeBy_28 post next dN qF x1 x2 x3) /\ (¬ x1 < v_1 -> ∀ v_3 : Int32, v_3 = x2 ||| (1 <<< (x3 &&& 31)) -> ws_X3_ripeBy_28 post next dN qF x1 v_3 x3)))
noncomputable def wb_X3_ripeBy_4 (post : Int32 -> Prop) (dN : Int32) (qF : Nat -> Int32) : Nat -> Int32 -> Int32 -> Int32 -> Prop := fun n => Nat.rec (motive := fun _ => Int32 -> Int32 -> Int32 -> Prop) (fun _ _ _ => False) (fun _ ih => ws_X3_ripeBy_4 post ih dN qF) n
set_option maxHeartbeats 4000000 in
set_option maxRecDepth 100000 in
theorem ks_X3_ripeBy_4 (C0 : gc aLj (some .int) 4 RX3 (dC, dI) (tyl cI cC cZ cB cJ) A p s m args meth c) {next : Int32 -> Int32 -> Int32 -> Prop} (hKn : ∀ (x1 : Int32) (x2 : Int32) (x3 : Int32) (H : Heap) (locs : List Loc) (ls : Array Slot), next x1 x2 x3 -> va_P (dC, dI) classes (aLw cI cC cZ cB cJ vI tJ jJ mY pG pD pE eO dN bD bJ aI qF) H -> va_D A (aLw cI cC cZ cB cJ vI tJ jJ mY pG pD pE eO dN bD bJ aI qF) -> va_S A s.heap H locs -> lv_has ls 4 [(0, .ref vI), (1, .int x1), (2, .int x2), (3, .int x3)] -> W p l e rm_X3_ripeBy s m args below meth c H locs 0 0 (MQ below (q_X3_ripeBy dC dI cI cC cZ cB cJ A vI tJ jJ mY pG pD pE eO dN bD bJ aI qF post) args s 0 0 A) (F0 m 4 ls [])) : ∀ (x1 x2 x3 : Int32) (H : Heap) (locs : List Loc) (ls : Array Slot), (ws_X3_ripeBy_4 post next dN qF) x1 x2 x3 -> va_P (dC, dI) classes (aLw cI cC cZ cB cJ vI tJ jJ mY pG pD pE eO dN bD bJ aI qF) H -> va_D A (aLw cI cC cZ cB cJ vI tJ jJ mY pG pD pE eO dN bD bJ aI qF) -> va_S A s.heap H locs -> lv_has ls 4 [(0, .ref vI), (1, .int x1), (2, .int x2), (3, .int x3)] -> W p l e rm_X3_ripeBy s m args below meth c H locs 0 0 (MQ below (q_X3_ripeBy dC dI cI cC cZ cB cJ A vI tJ jJ mY pG pD pE eO dN bD bJ aI qF post) args s 0 0 A) (F0 m 4 ls []) := by
  obtain ⟨hx, hb, hr, hml, hown, hts, hlocks, hA, hK, hN, tL, tM, hZL, hTL, hZM, hTM, hZX⟩ := id C0
  intro x1 x2 x3 H locs ls hp hP hD hS hl
  unfold ws_X3_ripeBy_4 at hp
  refine lv_iload_n hx hb aWb.2.2.2.2.1 rfl (lv_at hl 3 rfl) ?_
  refine lv_aload_n hx hb aWb.2.2.2.2.2.1 rfl (lv_at hl 0 rfl) ?_
  refine va_get (D := (dC, dI)) (ci := 3) (v := .int dN) (C := RX3) (T := TX3) (N := 11) hx hb hts i_X3 hown hK hP 0 rfl rfl 7 (lbz rfl) (hts _ q_20) (fun _ h9 => h9) rfl aWb.2.2.2.2.2.2.1 ?_
  refine lv_icmp_ge (tgt := 34) hx hb aWb.2.2.2.2.2.2.2.1 (by decide) (fun hc => ?_) (fun hc => ?_)
  · have hp := hp.1 hc
    refine lv_iload_n hx hb eX3_ripeBy_24.2.2.2.2.2.2.1 rfl (lv_at hl 2 rfl) ?_
    exact W.iret (v := x2) hx hb hr (fun t ht hW => ⟨⟨x2, (), rfl, hp, by rw [ht]; exact hP, va_K.moved hW.alike hK, hD⟩, hS.F ht⟩) hS.2.2 eX3_ripeBy_24.2.2.2.2.2.2.2
  · have hp := hp.2 hc
    refine lv_aload_n hx hb aWb.2.2.2.2.2.2.2.2.1 rfl (lv_at hl 0 rfl) ?_
    refine va_get (D := (dC, dI)) (ci := 3) (v := .ref pG) (C := RX3) (T := TX3) (N := 11) hx hb hts i_X3 hown hK hP 0 rfl rfl 3 (lbz rfl) (hts _ q_52) (fun _ h9 => h9) rfl aWb.2.2.2.2.2.2.2.2.2.1 ?_
    refine lv_iload_n hx hb aWb.2.2.2.2.2.2.2.2.2.2.1 rfl (lv_at hl 3 rfl) ?_
    have hin := hp.1
    have hp := hp.2
    refine va_iald hx hb hK hP 1 0 rfl rfl hin aWb.2.2.2.2.2.2.2.2.2.2.2.1 ?_
    refine lv_topi (fun v_1 aFJ => ?_)
    have hp := hp v_1 aFJ
    refine lv_iload_n hx hb aWb.2.2.2.2.2.2.2.2.2.2.2.2.1 rfl (lv_at hl 1 rfl) ?_
    refine lv_icmp_gt (tgt := 28) hx hb aWb.2.2.2.2.2.2.2.2.2.2.2.2.2.1 (by decide) (fun hc => ?_) (fun hc => ?_)
    · have hp := hp.1 hc
      exact ks_X3_ripeBy_28 C0 hKn x1 x2 x3 H locs ls hp hP hD hS (lv_sub hl [0, 1, 2, 3] rfl)
    · have hp := hp.2 hc
      refine lv_iload_n hx hb aWb.2.2.2.2.2.2.2.2.2.2.2.2.2.2.1 rfl (lv_at hl 2 rfl) ?_
      refine lv_iconst (v := 1) hx hb aWb.2.2.2.2.2.2.2.2.2.2.2.2.2.2.2 aDx ?_
      refine lv_iload_n hx hb eX3_ripeBy_24.1 rfl (lv_at hl 3 rfl) ?_
      refine lv_ishl hx hb eX3_ripeBy_24.2.1 ?_
      refine lv_ior hx hb eX3_ripeBy_24.2.2.1 ?_
      refine lv_topi (fun v_3 aGW => ?_)
      have hp := hp v_3 aGW
      refine lv_istore_n (lv' := [(2, .int v_3), (0, .ref vI), (1, .int x1), (3, .int x3)]) hx hb eX3_ripeBy_24.2.2.2.1 rfl hl (by decide) rfl (fun ls hl => ?_)
      exact ks_X3_ripeBy_28 C0 hKn x1 v_3 x3 H locs ls hp hP hD hS (lv_sub hl [1, 2, 0, 3] rfl)
set_option maxHeartbeats 4000000 in
set_option maxRecDepth 100000 in
theorem kb_X3_ripeBy_4 (C0 : gc aLj (some .int) 4 RX3 (dC, dI) (tyl cI cC cZ cB cJ) A p s m args meth c) : ∀ (n : Nat), ∀ (x1 x2 x3 : Int32) (H : Heap) (locs : List Loc) (ls : Array Slot), (wb_X3_ripeBy_4 post dN qF n) x1 x2 x3 -> va_P (dC, dI) classes (aLw cI cC cZ cB cJ vI tJ jJ mY pG pD pE eO dN bD bJ aI qF) H -> va_D A (aLw cI cC cZ cB cJ vI tJ jJ mY pG pD pE eO dN bD bJ aI qF) -> va_S A s.heap H locs -> lv_has ls 4 [(0, .ref vI), (1, .int x1), (2, .int x2), (3, .int x3)] -> W p l e rm_X3_ripeBy s m args below meth c H locs 0 0 (MQ below (q_X3_ripeBy dC dI cI cC cZ cB cJ A vI tJ jJ mY pG pD pE eO dN bD bJ aI qF post) args s 0 0 A) (F0 m 4 ls []) := by
  intro n
  induction n with
  | zero =>
    intro x1 x2 x3 H locs ls hp
    exact False.elim hp
  | succ n ih =>
    intro x1 x2 x3 H locs ls hp
    exact ks_X3_ripeBy_4 C0 ih x1 x2 x3 H locs ls hp
end S_X3_ripeBy
def aZj (post : Int32 -> Prop) (p0 dN : Int32) (qF : Nat -> Int32) : Prop := ∃ n : Nat, wb_X3_ripeBy_4 post dN qF n p0 0 0
set_option maxHeartbeats 4000000 in
set_option maxRecDepth 100000 in
theorem c_X3_ripeBy (l : Launch) (dC : Nat -> ClassId) (dI : Nat -> Nat -> Nat) (cI cC cZ cB cJ : ClassId) (vI tJ jJ mY pG pD pE eO sz : Nat) (p0 dN bD bJ aI : Int32) (qF : Nat -> Int32) (post : Int32 -> Prop) (hw : aZj post p0 dN qF) : Met l yX3_ripeBy (gw yX3_ripeBy aLj 4 (some .int)) rm_X3_ripeBy (va_Pc [.ref vI, .int p0] (gPre (dC, dI) (tyl cI cC cZ cB cJ) (aLw cI cC cZ cB cJ vI tJ jJ mY pG pD pE eO dN bD bJ aI qF) sz)) (q_X3_ripeBy dC dI cI cC cZ cB cJ (va_A (aLw cI cC cZ cB cJ vI tJ jJ mY pG pD pE eO dN bD bJ aI qF) sz) vI tJ jJ mY pG pD pE eO dN bD bJ aI qF post) 0 0 (va_A (aLw cI cC cZ cB cJ vI tJ jJ mY pG pD pE eO dN bD bJ aI qF) sz) := by
  refine aBJ (own := RX3) (dC, dI) (tyl cI cC cZ cB cJ) (aLw cI cC cZ cB cJ vI tJ jJ mY pG pD pE eO dN bD bJ aI qF) sz [.ref vI, .int p0] (fun A => q_X3_ripeBy dC dI cI cC cZ cB cJ A vI tJ jJ mY pG pD pE eO dN bD bJ aI qF post) pn_RX3 rfl (lbz rfl) ?_
  intro p e s m args below meth c A H locs ls C0 hP hD hS hl
  have hl : lv_has ls 4 [(0, .ref vI), (1, .int p0)] := hl
  obtain ⟨hx, hb, hr, hml, hown, hts, hlocks, hA, hK, hN, tL, tM, hZL, hTL, hZM, hTM, hZX⟩ := id C0
  have hp := hw
  unfold aZj at hp
  refine lv_iconst (v := 0) hx hb aWb.1 aCi ?_
  refine lv_istore_n (lv' := [(2, .int 0), (0, .ref vI), (1, .int p0)]) hx hb aWb.2.1 rfl hl (by decide) rfl (fun ls hl => ?_)
  refine lv_iconst (v := 0) hx hb aWb.2.2.1 aCi ?_
  refine lv_istore_n (lv' := [(3, .int 0), (2, .int 0), (0, .ref vI), (1, .int p0)]) hx hb aWb.2.2.2.1 rfl hl (by decide) rfl (fun ls hl => ?_)
  obtain ⟨n9, hp⟩ := hp
  exact kb_X3_ripeBy_4 C0 n9 p0 0 0 H locs ls hp hP hD hS (lv_sub hl [2, 3, 1, 0] rfl)
abbrev aUW (cI cC cZ cB cJ : ClassId) (xB vI wY xO tJ jJ mY pG pD pE eO : Nat) (dN bD bJ aI : Int32) (uU gF qF mX oE dY : Nat -> Int32) (jE eW eY dU fY gJ jG nU : Int32) : va_W := [(xB, .inr (0, [.ref vI, .ref wY, .ref xO])), (vI, .inr (3, [.ref tJ, .ref jJ, .ref mY, .ref pG, .ref pD, .ref pE, .ref eO, .int dN, .int bD, .int bJ, .int aI])), (tJ, .inl (cI, 16, .inl uU)), (jJ, .inl (cI, 16, .inl gF)), (pG, .inl (cI, 16, .inl qF)), (pD, .inl (cI, 8, .inl mX)), (pE, .inl (cI, 8, .inl oE)), (eO, .inl (cI, 5, .inl dY)), (wY, .inr (2, [.int jE, .int eW, .int eY, .int dU, .int fY, .int gJ, .int jG, .int nU]))]
abbrev q_X0_readyHere (dC : Nat -> ClassId) (dI : Nat -> Nat -> Nat) (cI cC cZ cB cJ : ClassId) (A : Nat -> Prop) (xB vI wY xO tJ jJ mY pG pD pE eO : Nat) (dN bD bJ aI : Int32) (uU gF qF mX oE dY : Nat -> Int32) (jE eW eY dU fY gJ jG nU : Int32) (post : Int32 -> Prop) : Array Value -> State -> Outcome -> State -> Prop := va_Qi (fun (r : Int32) (u : Unit) => post r) (fun u t => gB (dC, dI) (tyl cI cC cZ cB cJ) A (aUW cI cC cZ cB cJ xB vI wY xO tJ jJ mY pG pD pE eO dN bD bJ aI uU gF qF mX oE dY jE eW eY dU fY gJ jG nU) t) A
abbrev rm_X0_readyHere : Room := { frames := 3, cells := 0, slots := 0, locals := 71 }
def wp_X0_readyHere (post : Int32 -> Prop) (dN : Int32) (uU gF qF mX oE dY : Nat -> Int32) (jE eW eY fY gJ jG : Int32) : Prop := (¬ fY = (-1) -> bAw (fun r_1 => bBS (fun r_2 => aOu (fun r_3 => aZj (fun r_4 => ∀ v_5 : Int32, v_5 = r_3 &&& r_4 -> post (v_5 &&& r_2)) jG dN qF) dN jE eW eY) fY r_1 dN uU gF mX oE) gJ 0 dY) /\ (fY = (-1) -> post 0)
set_option maxHeartbeats 4000000 in
set_option maxRecDepth 100000 in
theorem c_X0_readyHere (l : Launch) (dC : Nat -> ClassId) (dI : Nat -> Nat -> Nat) (cI cC cZ cB cJ : ClassId) (xB vI wY xO tJ jJ mY pG pD pE eO sz : Nat) (dN bD bJ aI : Int32) (uU gF qF mX oE dY : Nat -> Int32) (jE eW eY dU fY gJ jG nU : Int32) (post : Int32 -> Prop) (hw : wp_X0_readyHere post dN uU gF qF mX oE dY jE eW eY fY gJ jG) : Met l bCN (gw bCN aFz 2 (some .int)) rm_X0_readyHere (va_Pc [.ref xB] (gPre (dC, dI) (tyl cI cC cZ cB cJ) (aUW cI cC cZ cB cJ xB vI wY xO tJ jJ mY pG pD pE eO dN bD bJ aI uU gF qF mX oE dY jE eW eY dU fY gJ jG nU) sz)) (q_X0_readyHere dC dI cI cC cZ cB cJ (va_A (aUW cI cC cZ cB cJ xB vI wY xO tJ jJ mY pG pD pE eO dN bD bJ aI uU gF qF mX oE dY jE eW eY dU fY gJ jG nU) sz) xB vI wY xO tJ jJ mY pG pD pE eO dN bD bJ aI uU gF qF mX oE dY jE eW eY dU fY gJ jG nU post) 0 0 (va_A (aUW cI cC cZ cB cJ xB vI wY xO tJ jJ mY pG pD pE eO dN bD bJ aI uU gF qF mX oE dY jE eW eY dU fY gJ jG nU) sz) := by
  refine aBJ (own := RX0) (dC, dI) (tyl cI cC cZ cB cJ) (aUW cI cC cZ cB cJ xB vI wY xO tJ jJ mY pG pD pE eO dN bD bJ aI uU gF qF mX oE dY jE eW eY dU fY gJ jG nU) sz [.ref xB] (fun A => q_X0_readyHere dC dI cI cC cZ cB cJ A xB vI wY xO tJ jJ mY pG pD pE eO dN bD bJ aI uU gF qF mX oE dY jE eW eY dU fY gJ jG nU post) pn_RX0 rfl (lbz rfl) ?_
  intro p e s m args below meth c A H locs ls C0 hP hD hS hl
  have hl : lv_has ls 2 [(0, .ref xB)] := hl
  obtain ⟨hx, hb, hr, hml, hown, hts, hlocks, hA, hK, hN, tL, tM, hZL, hTL, hZM, hTM, hZX⟩ := id C0
  have hp := hw
  unfold wp_X0_readyHere at hp
  refine lv_aload_n hx hb aNa.1 rfl (lv_at hl 0 rfl) ?_
  refine va_get (D := (dC, dI)) (ci := 0) (v := .ref wY) (C := RX0) (T := TX0) (N := 3) hx hb hts i_X0 hown hK hP 0 rfl rfl 1 (lbz rfl) (hts _ q_161) (fun _ h9 => h9) rfl aNa.2.1 ?_
  refine va_get (D := (dC, dI)) (ci := 2) (v := .int fY) (C := RX2) (T := TX2) (N := 8) hx hb hts i_X2 hown hK hP 8 rfl rfl 4 (lbz rfl) (hts _ q_228) (fun _ h9 => h9) rfl aNa.2.2.1 ?_
  refine lv_iconst (v := (-1)) hx hb aNa.2.2.2.1 aEJ ?_
  refine lv_icmp_ne (tgt := 13) hx hb aNa.2.2.2.2.1 (by decide) (fun hc => ?_) (fun hc => ?_)
  · have hp := hp.1 hc
    refine lv_aload_n hx hb aNa.2.2.2.2.2.2.2.1 rfl (lv_at hl 0 rfl) ?_
    refine va_get (D := (dC, dI)) (ci := 0) (v := .ref vI) (C := RX0) (T := TX0) (N := 3) hx hb hts i_X0 hown hK hP 0 rfl rfl 0 (lbz rfl) (hts _ q_156) (fun _ h9 => h9) rfl aNa.2.2.2.2.2.2.2.2.1 ?_
    refine lv_aload_n hx hb aNa.2.2.2.2.2.2.2.2.2.1 rfl (lv_at hl 0 rfl) ?_
    refine va_get (D := (dC, dI)) (ci := 0) (v := .ref wY) (C := RX0) (T := TX0) (N := 3) hx hb hts i_X0 hown hK hP 0 rfl rfl 1 (lbz rfl) (hts _ q_161) (fun _ h9 => h9) rfl aNa.2.2.2.2.2.2.2.2.2.2.1 ?_
    refine va_get (D := (dC, dI)) (ci := 2) (v := .int fY) (C := RX2) (T := TX2) (N := 8) hx hb hts i_X2 hown hK hP 8 rfl rfl 4 (lbz rfl) (hts _ q_228) (fun _ h9 => h9) rfl aNa.2.2.2.2.2.2.2.2.2.2.2.1 ?_
    refine lv_aload_n hx hb aNa.2.2.2.2.2.2.2.2.2.2.2.2.1 rfl (lv_at hl 0 rfl) ?_
    refine va_get (D := (dC, dI)) (ci := 0) (v := .ref vI) (C := RX0) (T := TX0) (N := 3) hx hb hts i_X0 hown hK hP 0 rfl rfl 0 (lbz rfl) (hts _ q_156) (fun _ h9 => h9) rfl aNa.2.2.2.2.2.2.2.2.2.2.2.2.2.1 ?_
    refine lv_aload_n hx hb aNa.2.2.2.2.2.2.2.2.2.2.2.2.2.2.1 rfl (lv_at hl 0 rfl) ?_
    refine va_get (D := (dC, dI)) (ci := 0) (v := .ref wY) (C := RX0) (T := TX0) (N := 3) hx hb hts i_X0 hown hK hP 0 rfl rfl 1 (lbz rfl) (hts _ q_161) (fun _ h9 => h9) rfl aNa.2.2.2.2.2.2.2.2.2.2.2.2.2.2.2 ?_
    refine va_get (D := (dC, dI)) (ci := 2) (v := .int gJ) (C := RX2) (T := TX2) (N := 8) hx hb hts i_X2 hown hK hP 8 rfl rfl 5 (lbz rfl) (hts _ q_262) (fun _ h9 => h9) rfl aL4.1 ?_
    refine lv_iconst (v := 0) hx hb aL4.2.1 aCi ?_
    have hm := mgk (wc := (wd_X3_reach cI cC cZ cB cJ vI tJ jJ mY pG pD pE eO dN bD bJ aI dY)) hP mk_71 9 rfl rfl rfl
    refine yW hP hD hS hA (yS mk_71) (aAi mk_71) hm.1 hm.2 (aAk _) (zW _) (zF (As := [.int gJ, .int 0]) (rest := [.int fY, .ref vI]) C0 hP hD hS (yS mk_71) hm.1 (aAl _) 1 3 rfl rfl (c_X3_reach l dC dI cI cC cZ cB cJ vI tJ jJ mY pG pD pE eO H.size gJ 0 dN bD bJ aI dY _ hp) q_312 q_315 q_313 q_314 q_48 h_X3_reach rfl rfl ⟨lbz rfl, lbz rfl⟩ rfl rfl hl.1 rfl (lv_room (lbz rfl)) aL4.2.2.1 ⟨Nat.zero_le _, Nat.zero_le _⟩) (fun r_1 u H locs hp hP hD hS => ?_)
    have hPD := PDm (ws' := (aUW cI cC cZ cB cJ xB vI wY xO tJ jJ mY pG pD pE eO dN bD bJ aI uU gF qF mX oE dY jE eW eY dU fY gJ jG nU)) hP hD 9 rfl rfl rfl
    have hP := hPD.1
    have hD := hPD.2
    have hm := mgk (wc := (aLx cI cC cZ cB cJ vI tJ jJ mY pG pD pE eO dN bD bJ aI uU gF mX oE)) hP mk_72 9 rfl rfl rfl
    refine yW hP hD hS hA (yS mk_72) (aAi mk_72) hm.1 hm.2 (aAk _) (zW _) (zF (As := [.int fY, .int r_1]) (rest := []) C0 hP hD hS (yS mk_72) hm.1 (aAl _) 1 3 rfl rfl (c_X3_within l dC dI cI cC cZ cB cJ vI tJ jJ mY pG pD pE eO H.size fY r_1 dN bD bJ aI uU gF mX oE _ hp) q_339 q_342 q_340 q_341 q_48 h_X3_within rfl rfl ⟨lbz rfl, lbz rfl⟩ rfl rfl hl.1 rfl (lv_room (lbz rfl)) aL4.2.2.2.1 ⟨Nat.zero_le _, Nat.zero_le _⟩) (fun r_2 u H locs hp hP hD hS => ?_)
    have hPD := PDm (ws' := (aUW cI cC cZ cB cJ xB vI wY xO tJ jJ mY pG pD pE eO dN bD bJ aI uU gF qF mX oE dY jE eW eY dU fY gJ jG nU)) hP hD 9 rfl rfl rfl
    have hP := hPD.1
    have hD := hPD.2
    refine lv_istore_n (lv' := [(1, .int r_2), (0, .ref xB)]) hx hb aL4.2.2.2.2.1 rfl hl (by decide) rfl (fun ls hl => ?_)
    refine lv_aload_n hx hb aL4.2.2.2.2.2.1 rfl (lv_at hl 1 rfl) ?_
    have hm := mgk (wc := (aOf cI cC cZ cB cJ xB vI wY xO tJ jJ mY pG pD pE eO dN bD bJ aI jE eW eY dU fY gJ jG nU)) hP mk_73 9 rfl rfl rfl
    refine yW hP hD hS hA (yS mk_73) (aAi mk_73) hm.1 hm.2 (aAk _) (zW _) (zF (As := []) (rest := []) C0 hP hD hS (yS mk_73) hm.1 (aAl _) 0 0 rfl rfl (c_X0_hanging l dC dI cI cC cZ cB cJ xB vI wY xO tJ jJ mY pG pD pE eO H.size dN bD bJ aI jE eW eY dU fY gJ jG nU _ hp) q_186 q_309 q_188 q_189 q_187 h_X0_hanging rfl rfl ⟨lbz rfl, lbz rfl⟩ rfl rfl hl.1 rfl (lv_room (lbz rfl)) aL4.2.2.2.2.2.2.1 ⟨Nat.zero_le _, Nat.zero_le _⟩) (fun r_3 u H locs hp hP hD hS => ?_)
    have hPD := PDm (ws' := (aUW cI cC cZ cB cJ xB vI wY xO tJ jJ mY pG pD pE eO dN bD bJ aI uU gF qF mX oE dY jE eW eY dU fY gJ jG nU)) hP hD 9 rfl rfl rfl
    have hP := hPD.1
    have hD := hPD.2
    refine lv_aload_n hx hb aL4.2.2.2.2.2.2.2.1 rfl (lv_at hl 1 rfl) ?_
    refine va_get (D := (dC, dI)) (ci := 0) (v := .ref vI) (C := RX0) (T := TX0) (N := 3) hx hb hts i_X0 hown hK hP 0 rfl rfl 0 (lbz rfl) (hts _ q_156) (fun _ h9 => h9) rfl aL4.2.2.2.2.2.2.2.2.1 ?_
    refine lv_aload_n hx hb aL4.2.2.2.2.2.2.2.2.2.1 rfl (lv_at hl 1 rfl) ?_
    refine va_get (D := (dC, dI)) (ci := 0) (v := .ref wY) (C := RX0) (T := TX0) (N := 3) hx hb hts i_X0 hown hK hP 0 rfl rfl 1 (lbz rfl) (hts _ q_161) (fun _ h9 => h9) rfl aL4.2.2.2.2.2.2.2.2.2.2.1 ?_
    refine va_get (D := (dC, dI)) (ci := 2) (v := .int jG) (C := RX2) (T := TX2) (N := 8) hx hb hts i_X2 hown hK hP 8 rfl rfl 6 (lbz rfl) (hts _ q_311) (fun _ h9 => h9) rfl aL4.2.2.2.2.2.2.2.2.2.2.2.1 ?_
    have hm := mgk (wc := (aLw cI cC cZ cB cJ vI tJ jJ mY pG pD pE eO dN bD bJ aI qF)) hP mk_74 9 rfl rfl rfl
    refine yW hP hD hS hA (yS mk_74) (aAi mk_74) hm.1 hm.2 (aAk _) (zW _) (zF (As := [.int jG]) (rest := [.int r_3]) C0 hP hD hS (yS mk_74) hm.1 (aAl _) 1 3 rfl rfl (c_X3_ripeBy l dC dI cI cC cZ cB cJ vI tJ jJ mY pG pD pE eO H.size jG dN bD bJ aI qF _ hp) q_343 q_346 q_344 q_345 q_48 h_X3_ripeBy rfl rfl ⟨lbz rfl, lbz rfl⟩ rfl rfl hl.1 rfl (lv_room (lbz rfl)) aL4.2.2.2.2.2.2.2.2.2.2.2.2.1 ⟨Nat.zero_le _, Nat.zero_le _⟩) (fun r_4 u H locs hp hP hD hS => ?_)
    have hPD := PDm (ws' := (aUW cI cC cZ cB cJ xB vI wY xO tJ jJ mY pG pD pE eO dN bD bJ aI uU gF qF mX oE dY jE eW eY dU fY gJ jG nU)) hP hD 9 rfl rfl rfl
    have hP := hPD.1
    have hD := hPD.2
    refine lv_iand hx hb aL4.2.2.2.2.2.2.2.2.2.2.2.2.2.1 ?_
    refine lv_topi (fun v_5 aJD => ?_)
    have hp := hp v_5 aJD
    refine lv_iload_n hx hb aL4.2.2.2.2.2.2.2.2.2.2.2.2.2.2.1 rfl (lv_at hl 0 rfl) ?_
    refine lv_iand hx hb aL4.2.2.2.2.2.2.2.2.2.2.2.2.2.2.2 ?_
    exact W.iret (v := v_5 &&& r_2) hx hb hr (fun t ht hW => ⟨⟨v_5 &&& r_2, (), rfl, hp, by rw [ht]; exact hP, va_K.moved hW.alike hK, hD⟩, hS.F ht⟩) hS.2.2 dX0_readyHere_64
  · have hp := hp.2 hc
    refine lv_iconst (v := 0) hx hb aNa.2.2.2.2.2.1 aCi ?_
    exact W.iret (v := 0) hx hb hr (fun t ht hW => ⟨⟨0, (), rfl, hp, by rw [ht]; exact hP, va_K.moved hW.alike hK, hD⟩, hS.F ht⟩) hS.2.2 aNa.2.2.2.2.2.2.1
abbrev aGv (cI cC cZ cB cJ : ClassId) (xB vI wY xO tJ jJ mY pG pD pE eO : Nat) (dN bD bJ aI : Int32) (uU gF qF mX oE dY : Nat -> Int32) (jE eW eY dU fY gJ jG nU : Int32) : va_W := [(xB, .inr (0, [.ref vI, .ref wY, .ref xO])), (vI, .inr (3, [.ref tJ, .ref jJ, .ref mY, .ref pG, .ref pD, .ref pE, .ref eO, .int dN, .int bD, .int bJ, .int aI])), (tJ, .inl (cI, 16, .inl uU)), (jJ, .inl (cI, 16, .inl gF)), (pG, .inl (cI, 16, .inl qF)), (pD, .inl (cI, 8, .inl mX)), (pE, .inl (cI, 8, .inl oE)), (eO, .inl (cI, 5, .inl dY)), (wY, .inr (2, [.int jE, .int eW, .int eY, .int dU, .int fY, .int gJ, .int jG, .int nU]))]
abbrev q_X0_shakeTree (dC : Nat -> ClassId) (dI : Nat -> Nat -> Nat) (cI cC cZ cB cJ : ClassId) (A : Nat -> Prop) (xB vI wY xO tJ jJ mY pG pD pE eO : Nat) (dN bD bJ aI : Int32) (uU gF qF mX oE dY : Nat -> Int32) (jE eW fY gJ jG : Int32) (post : Int32 -> Int32 -> Int32 -> Int32 -> Prop) : Array Value -> State -> Outcome -> State -> Prop := va_Qi (fun (r : Int32) (u : Int32 × Int32 × Int32) => post r u.1 u.2.1 u.2.2) (fun u t => gB (dC, dI) (tyl cI cC cZ cB cJ) A (aGv cI cC cZ cB cJ xB vI wY xO tJ jJ mY pG pD pE eO dN bD bJ aI uU gF qF mX oE dY jE eW u.1 u.2.1 fY gJ jG u.2.2) t) A
abbrev rm_X0_shakeTree : Room := { frames := 4, cells := 0, slots := 0, locals := 92 }
section S_X0_shakeTree
variable {p : Program} {l : Launch} {e : Env} {s : State} {m : MethodId} {args : Array Value} {below : List Frame} {meth : Method} {c : Code} {dC : Nat -> ClassId} {dI : Nat -> Nat -> Nat} {cI cC cZ cB cJ : ClassId} {A : Nat -> Prop} {xB vI wY xO tJ jJ mY pG pD pE eO : Nat} {dN bD bJ aI : Int32} {uU gF qF mX oE dY : Nat -> Int32} {jE eW fY gJ jG : Int32} {post : Int32 -> Int32 -> Int32 -> Int32 -> Prop}
def ws_X0_shakeTree_63 (post : Int32 -> Int32 -> Int32 -> Int32 -> Prop) (K29 : Int32 -> Int32 -> Int32 -> Int32 -> Int32 -> Int32 -> Int32 -> Prop) (dN : Int32) (uU gF qF mX oE dY : Nat -> Int32) (jE eW fY gJ jG x1 x2 x3 x4 eY dU nU : Int32) : Prop := ∀ v_8 : Int32, v_8 = x4 + 1 -> K29 x1 x2 x3 v_8 eY dU nU
set_option maxHeartbeats 4000000 in
set_option maxRecDepth 100000 in
theorem ks_X0_shakeTree_63 (C0 : gc aCl (some .int) 5 RX0 (dC, dI) (tyl cI cC cZ cB cJ) A p s m args meth c) {K29 : Int32 -> Int32 -> Int32 -> Int32 -> Int32 -> Int32 -> Int32 -> Prop} (hK29 : ∀ (x1 : Int32) (x2 : Int32) (x3 : Int32) (x4 : Int32) (eY : Int32) (dU : Int32) (nU : Int32) (H : Heap) (locs : List Loc) (ls : Array Slot), K29 x1 x2 x3 x4 eY dU nU -> va_P (dC, dI) classes (aGv cI cC cZ cB cJ xB vI wY xO tJ jJ mY pG pD pE eO dN bD bJ aI uU gF qF mX oE dY jE eW eY dU fY gJ jG nU) H -> va_D A (aGv cI cC cZ cB cJ xB vI wY xO tJ jJ mY pG pD pE eO dN bD bJ aI uU gF qF mX oE dY jE eW eY dU fY gJ jG nU) -> va_S A s.heap H locs -> lv_has ls 5 [(0, .ref xB), (1, .int x1), (2, .int x2), (3, .int x3), (4, .int x4)] -> W p l e rm_X0_shakeTree s m args below meth c H locs 0 0 (MQ below (q_X0_shakeTree dC dI cI cC cZ cB cJ A xB vI wY xO tJ jJ mY pG pD pE eO dN bD bJ aI uU gF qF mX oE dY jE eW fY gJ jG post) args s 0 0 A) (F0 m 29 ls [])) : ∀ (x1 x2 x3 x4 eY dU nU : Int32) (H : Heap) (locs : List Loc) (ls : Array Slot), (ws_X0_shakeTree_63 post K29 dN uU gF qF mX oE dY jE eW fY gJ jG) x1 x2 x3 x4 eY dU nU -> va_P (dC, dI) classes (aGv cI cC cZ cB cJ xB vI wY xO tJ jJ mY pG pD pE eO dN bD bJ aI uU gF qF mX oE dY jE eW eY dU fY gJ jG nU) H -> va_D A (aGv cI cC cZ cB cJ xB vI wY xO tJ jJ mY pG pD pE eO dN bD bJ aI uU gF qF mX oE dY jE eW eY dU fY gJ jG nU) -> va_S A s.heap H locs -> lv_has ls 5 [(0, .ref xB), (1, .int x1), (2, .int x2), (3, .int x3), (4, .int x4)] -> W p l e rm_X0_shakeTree s m args below meth c H locs 0 0 (MQ below (q_X0_shakeTree dC dI cI cC cZ cB cJ A xB vI wY xO tJ jJ mY pG pD pE eO dN bD bJ aI uU gF qF mX oE dY jE eW fY gJ jG post) args s 0 0 A) (F0 m 63 ls []) := by
  obtain ⟨hx, hb, hr, hml, hown, hts, hlocks, hA, hK, hN, tL, tM, hZL, hTL, hZM, hTM, hZX⟩ := id C0
  intro x1 x2 x3 x4 eY dU nU H locs ls hp hP hD hS hl
  unfold ws_X0_shakeTree_63 at hp
  obtain ⟨v_8, ev_8⟩ : ∃ y : Int32, y = x4 + 1 := ⟨_, rfl⟩
  refine lv_iinc (v := v_8) (lv' := [(4, .int v_8), (0, .ref xB), (1, .int x1), (2, .int x2), (3, .int x3)]) hx hb aL8.2.2.2.2.1 hl (k := 4) rfl (by rw [ev_8]; rfl) (by decide) rfl (fun ls hl => ?_)
  have hp := hp v_8 ev_8
  refine lv_goto (tgt := 29) hx hb aL8.2.2.2.2.2.1 (by decide) ?_
  exact hK29 x1 x2 x3 v_8 eY dU nU H locs ls hp hP hD hS (lv_sub hl [1, 2, 3, 4, 0] rfl)
def ws_X0_shakeTree_29 (post : Int32 -> Int32 -> Int32 -> Int32 -> Prop) (next : Int32 -> Int32 -> Int32 -> Int32 -> Int32 -> Int32 -> Int32 -> Prop) (dN : Int32) (uU gF qF mX oE dY : Nat -> Int32) (jE eW fY gJ jG x1 x2 x3 x4 eY dU nU : Int32) : Prop := (dN <= x4 -> ∀ v_3 : Int32, v_3 = eY ||| x2 -> ∀ v_4 : Int32, v_4 = dU ||| x3 -> wp_X2_spend (fun aIm => aBb (fun r_6 => post r_6 v_3 v_4 aIm) x2) 5 nU) /\ (¬ dN <= x4 -> ∀ v_7 : Int32, v_7 = x2 >>> (x4 &&& 31) -> ((v_7 &&& 1) = 0 -> ws_X0_shakeTree_63 post next dN uU gF qF mX oE dY jE eW fY gJ jG x1 x2 x3 x4 eY dU nU) /\ (¬ (v_7 &&& 1) = 0 -> bA6 (fun r_9 => ∀ aEr : Int32, aEr = x3 ||| r_9 -> ws_X0_shakeTree_63 post next dN uU gF qF mX oE dY jE eW fY gJ jG x1 x2 aEr x4 eY dU nU) x4 x1 dN uU gF))
noncomputable def wb_X0_shakeTree_29 (post : Int32 -> Int32 -> Int32 -> Int32 -> Prop) (dN : Int32) (uU gF qF mX oE dY : Nat -> Int32) (jE eW fY gJ jG : Int32) : Nat -> Int32 -> Int32 -> Int32 -> Int32 -> Int32 -> Int32 -> Int32 -> Prop := fun n => Nat.rec (motive := fun _ => Int32 -> Int32 -> Int32 -> Int32 -> Int32 -> Int32 -> Int32 -> Prop) (fun _ _ _ _ _ _ _ => False) (fun _ ih => ws_X0_shakeTree_29 post ih dN uU gF qF mX oE dY jE eW fY gJ jG) n
set_option maxHeartbeats 4000000 in
set_option maxRecDepth 100000 in
theorem ks_X0_shakeTree_29 (C0 : gc aCl (some .int) 5 RX0 (dC, dI) (tyl cI cC cZ cB cJ) A p s m args meth c) {next : Int32 -> Int32 -> Int32 -> Int32 -> Int32 -> Int32 -> Int32 -> Prop} (hKn : ∀ (x1 : Int32) (x2 : Int32) (x3 : Int32) (x4 : Int32) (eY : Int32) (dU : Int32) (nU : Int32) (H : Heap) (locs : List Loc) (ls : Array Slot), next x1 x2 x3 x4 eY dU nU -> va_P (dC, dI) classes (aGv cI cC cZ cB cJ xB vI wY xO tJ jJ mY pG pD pE eO dN bD bJ aI uU gF qF mX oE dY jE eW eY dU fY gJ jG nU) H -> va_D A (aGv cI cC cZ cB cJ xB vI wY xO tJ jJ mY pG pD pE eO dN bD bJ aI uU gF qF mX oE dY jE eW eY dU fY gJ jG nU) -> va_S A s.heap H locs -> lv_has ls 5 [(0, .ref xB), (1, .int x1), (2, .int x2), (3, .int x3), (4, .int x4)] -> W p l e rm_X0_shakeTree s m args below meth c H locs 0 0 (MQ below (q_X0_shakeTree dC dI cI cC cZ cB cJ A xB vI wY xO tJ jJ mY pG pD pE eO dN bD bJ aI uU gF qF mX oE dY jE eW fY gJ jG post) args s 0 0 A) (F0 m 29 ls [])) : ∀ (x1 x2 x3 x4 eY dU nU : Int32) (H : Heap) (locs : List Loc) (ls : Array Slot), (ws_X0_shakeTree_29 post next dN uU gF qF mX oE dY jE eW fY gJ jG) x1 x2 x3 x4 eY dU nU -> va_P (dC, dI) classes (aGv cI cC cZ cB cJ xB vI wY xO tJ jJ mY pG pD pE eO dN bD bJ aI uU gF qF mX oE dY jE eW eY dU fY gJ jG nU) H -> va_D A (aGv cI cC cZ cB cJ xB vI wY xO tJ jJ mY pG pD pE eO dN bD bJ aI uU gF qF mX oE dY jE eW eY dU fY gJ jG nU) -> va_S A s.heap H locs -> lv_has ls 5 [(0, .ref xB), (1, .int x1), (2, .int x2), (3, .int x3), (4, .int x4)] -> W p l e rm_X0_shakeTree s m args below meth c H locs 0 0 (MQ below (q_X0_shakeTree dC dI cI cC cZ cB cJ A xB vI wY xO tJ jJ mY pG pD pE eO dN bD bJ aI uU gF qF mX oE dY jE eW fY gJ jG post) args s 0 0 A) (F0 m 29 ls []) := by
  obtain ⟨hx, hb, hr, hml, hown, hts, hlocks, hA, hK, hN, tL, tM, hZL, hTL, hZM, hTM, hZX⟩ := id C0
  intro x1 x2 x3 x4 eY dU nU H locs ls hp hP hD hS hl
  unfold ws_X0_shakeTree_29 at hp
  refine lv_iload hx hb aL7.2.1 (lv_at hl 4 rfl) ?_
  refine lv_aload_n hx hb aL7.2.2.1 rfl (lv_at hl 0 rfl) ?_
  refine va_get (D := (dC, dI)) (ci := 0) (v := .ref vI) (C := RX0) (T := TX0) (N := 3) hx hb hts i_X0 hown hK hP 0 rfl rfl 0 (lbz rfl) (hts _ q_156) (fun _ h9 => h9) rfl aL7.2.2.2.1 ?_
  refine va_get (D := (dC, dI)) (ci := 3) (v := .int dN) (C := RX3) (T := TX3) (N := 11) hx hb hts i_X3 hown hK hP 1 rfl rfl 7 (lbz rfl) (hts _ q_351) (fun _ h9 => h9) rfl aL7.2.2.2.2.1 ?_
  refine lv_icmp_ge (tgt := 69) hx hb aL7.2.2.2.2.2.1 (by decide) (fun hc => ?_) (fun hc => ?_)
  · have hp := hp.1 hc
    refine lv_aload_n hx hb aL8.2.2.2.2.2.2.1 rfl (lv_at hl 0 rfl) ?_
    refine va_get (D := (dC, dI)) (ci := 0) (v := .ref wY) (C := RX0) (T := TX0) (N := 3) hx hb hts i_X0 hown hK hP 0 rfl rfl 1 (lbz rfl) (hts _ q_161) (fun _ h9 => h9) rfl aL8.2.2.2.2.2.2.2.1 ?_
    refine lv_dup hx hb aL8.2.2.2.2.2.2.2.2.1 rfl ?_
    refine va_get (D := (dC, dI)) (ci := 2) (v := .int eY) (C := RX2) (T := TX2) (N := 8) hx hb hts i_X2 hown hK hP 8 rfl rfl 2 (lbz rfl) (hts _ q_164) (fun _ h9 => h9) rfl aL8.2.2.2.2.2.2.2.2.2.1 ?_
    refine lv_iload_n hx hb aL8.2.2.2.2.2.2.2.2.2.2.1 rfl (lv_at hl 2 rfl) ?_
    refine lv_ior hx hb aL8.2.2.2.2.2.2.2.2.2.2.2.1 ?_
    refine lv_topi (fun v_3 aGW => ?_)
    have hp := hp v_3 aGW
    refine va_put (D := (dC, dI)) (ci := 2) (v := .int v_3) (ty := .int) (C := RX2) (T := TX2) (N := 8) hx hb hts i_X2 tyX2 aIa nmX2 hown hK hP hD hS 8 rfl rfl 2 (lbz rfl) (hts _ q_164) (fun _ h9 => h9) rfl (aIa 2 (lbz rfl)) rfl rfl (lbz rfl) aL8.2.2.2.2.2.2.2.2.2.2.2.2.1 (fun H locs hP hD hS => ?_)
    have hPD := PDw (ws' := (aGv cI cC cZ cB cJ xB vI wY xO tJ jJ mY pG pD pE eO dN bD bJ aI uU gF qF mX oE dY jE eW v_3 dU fY gJ jG nU)) hP hD rfl
    have hP := hPD.1
    have hD := hPD.2
    refine lv_aload_n hx hb aL8.2.2.2.2.2.2.2.2.2.2.2.2.2.1 rfl (lv_at hl 0 rfl) ?_
    refine va_get (D := (dC, dI)) (ci := 0) (v := .ref wY) (C := RX0) (T := TX0) (N := 3) hx hb hts i_X0 hown hK hP 0 rfl rfl 1 (lbz rfl) (hts _ q_161) (fun _ h9 => h9) rfl aL8.2.2.2.2.2.2.2.2.2.2.2.2.2.2.1 ?_
    refine lv_dup hx hb aL8.2.2.2.2.2.2.2.2.2.2.2.2.2.2.2 rfl ?_
    refine va_get (D := (dC, dI)) (ci := 2) (v := .int dU) (C := RX2) (T := TX2) (N := 8) hx hb hts i_X2 hown hK hP 8 rfl rfl 3 (lbz rfl) (hts _ q_278) (fun _ h9 => h9) rfl aXa.1 ?_
    refine lv_iload_n hx hb aXa.2.1 rfl (lv_at hl 3 rfl) ?_
    refine lv_ior hx hb aXa.2.2.1 ?_
    refine lv_topi (fun v_4 aHM => ?_)
    have hp := hp v_4 aHM
    refine va_put (D := (dC, dI)) (ci := 2) (v := .int v_4) (ty := .int) (C := RX2) (T := TX2) (N := 8) hx hb hts i_X2 tyX2 aIa nmX2 hown hK hP hD hS 8 rfl rfl 3 (lbz rfl) (hts _ q_278) (fun _ h9 => h9) rfl (aIa 3 (lbz rfl)) rfl rfl (lbz rfl) aXa.2.2.2.1 (fun H locs hP hD hS => ?_)
    have hPD := PDw (ws' := (aGv cI cC cZ cB cJ xB vI wY xO tJ jJ mY pG pD pE eO dN bD bJ aI uU gF qF mX oE dY jE eW v_3 v_4 fY gJ jG nU)) hP hD rfl
    have hP := hPD.1
    have hD := hPD.2
    refine lv_aload_n hx hb aXa.2.2.2.2.1 rfl (lv_at hl 0 rfl) ?_
    refine va_get (D := (dC, dI)) (ci := 0) (v := .ref wY) (C := RX0) (T := TX0) (N := 3) hx hb hts i_X0 hown hK hP 0 rfl rfl 1 (lbz rfl) (hts _ q_161) (fun _ h9 => h9) rfl aXa.2.2.2.2.2.1 ?_
    refine lv_iconst (v := 5) hx hb aXa.2.2.2.2.2.2.1 ic_5 ?_
    have hm := mgk (wc := (wd_X2_spend cI cC cZ cB cJ wY jE eW v_3 v_4 fY gJ jG nU)) hP mk_75 9 rfl rfl rfl
    refine aBn hP hD hS hA (yS mk_75) (aAi mk_75) hm.1 hm.2 (aAk _) (zW _) (zF (As := [.int 5]) (rest := []) C0 hP hD hS (yS mk_75) hm.1 (aAl _) 8 2 rfl rfl (c_X2_spend l dC dI cI cC cZ cB cJ wY H.size 5 jE eW v_3 v_4 fY gJ jG nU _ hp) q_237 q_240 q_238 q_239 q_181 h_X2_spend rfl rfl ⟨lbz rfl, lbz rfl⟩ rfl rfl hl.1 rfl (lv_room (lbz rfl)) aXa.2.2.2.2.2.2.2.1 ⟨Nat.zero_le _, Nat.zero_le _⟩) (fun u H locs hp hP hD hS => ?_)
    obtain ⟨aIm, rfl⟩ : ∃ z, z = u := ⟨_, rfl⟩
    have hPD := PDm (ws' := (aGv cI cC cZ cB cJ xB vI wY xO tJ jJ mY pG pD pE eO dN bD bJ aI uU gF qF mX oE dY jE eW v_3 v_4 fY gJ jG aIm)) hP hD 9 rfl rfl rfl
    have hP := hPD.1
    have hD := hPD.2
    refine lv_iload_n hx hb aXa.2.2.2.2.2.2.2.2.1 rfl (lv_at hl 2 rfl) ?_
    have hm := mgk (wc := (aBh cI cC cZ cB cJ)) hP mk_76 9 rfl rfl rfl
    refine yW hP hD hS hA (yS mk_76) (aAi mk_76) hm.1 hm.2 (aAk _) (zW _) (aDn (As := [.int x2]) (rest := []) C0 hP hD hS (yS mk_76) hm.1 (aAl _) (aBv l dC dI cI cC cZ cB cJ H.size x2 _ hp) q_320 q_323 q_322 q_321 aBw rfl rfl ⟨lbz rfl, lbz rfl⟩ rfl rfl hl.1 rfl (lv_room (lbz rfl)) aXa.2.2.2.2.2.2.2.2.2.1 ⟨Nat.zero_le _, Nat.zero_le _⟩) (fun r_6 u H locs hp hP hD hS => ?_)
    have hPD := PDm (ws' := (aGv cI cC cZ cB cJ xB vI wY xO tJ jJ mY pG pD pE eO dN bD bJ aI uU gF qF mX oE dY jE eW v_3 v_4 fY gJ jG aIm)) hP hD 9 rfl rfl rfl
    have hP := hPD.1
    have hD := hPD.2
    exact W.iret (v := r_6) hx hb hr (fun t ht hW => ⟨⟨r_6, (v_3, v_4, aIm), rfl, hp, by rw [ht]; exact hP, va_K.moved hW.alike hK, hD⟩, hS.F ht⟩) hS.2.2 aXa.2.2.2.2.2.2.2.2.2.2
  · have hp := hp.2 hc
    refine lv_iload_n hx hb aL7.2.2.2.2.2.2.1 rfl (lv_at hl 2 rfl) ?_
    refine lv_iload hx hb aL7.2.2.2.2.2.2.2.1 (lv_at hl 4 rfl) ?_
    refine lv_ishr hx hb aL7.2.2.2.2.2.2.2.2.1 ?_
    refine lv_topi (fun v_7 ev_7 => ?_)
    have hp := hp v_7 ev_7
    refine lv_iconst (v := 1) hx hb aL7.2.2.2.2.2.2.2.2.2.1 aDx ?_
    refine lv_iand hx hb aL7.2.2.2.2.2.2.2.2.2.2.1 ?_
    refine lv_if_eq (tgt := 63) hx hb aL7.2.2.2.2.2.2.2.2.2.2.2.1 (by decide) (fun hc => ?_) (fun hc => ?_)
    · have hp := hp.1 hc
      exact ks_X0_shakeTree_63 C0 hKn x1 x2 x3 x4 eY dU nU H locs ls hp hP hD hS (lv_sub hl [0, 1, 2, 3, 4] rfl)
    · have hp := hp.2 hc
      refine lv_iload_n hx hb aL7.2.2.2.2.2.2.2.2.2.2.2.2.1 rfl (lv_at hl 3 rfl) ?_
      refine lv_aload_n hx hb aL7.2.2.2.2.2.2.2.2.2.2.2.2.2.1 rfl (lv_at hl 0 rfl) ?_
      refine va_get (D := (dC, dI)) (ci := 0) (v := .ref vI) (C := RX0) (T := TX0) (N := 3) hx hb hts i_X0 hown hK hP 0 rfl rfl 0 (lbz rfl) (hts _ q_156) (fun _ h9 => h9) rfl aL7.2.2.2.2.2.2.2.2.2.2.2.2.2.2.1 ?_
      refine lv_iload hx hb aL7.2.2.2.2.2.2.2.2.2.2.2.2.2.2.2 (lv_at hl 4 rfl) ?_
      refine lv_iload_n hx hb aL8.1 rfl (lv_at hl 1 rfl) ?_
      have hm := mgk (wc := (aGD cI cC cZ cB cJ vI tJ jJ mY pG pD pE eO dN bD bJ aI uU gF)) hP mk_77 9 rfl rfl rfl
      refine yW hP hD hS hA (yS mk_77) (aAi mk_77) hm.1 hm.2 (aAk _) (zW _) (zF (As := [.int x4, .int x1]) (rest := [.int x3]) C0 hP hD hS (yS mk_77) hm.1 (aAl _) 1 3 rfl rfl (c_X3_lowerThan l dC dI cI cC cZ cB cJ vI tJ jJ mY pG pD pE eO H.size x4 x1 dN bD bJ aI uU gF _ hp) q_191 q_329 q_192 q_193 q_48 h_X3_lowerThan rfl rfl ⟨lbz rfl, lbz rfl⟩ rfl rfl hl.1 rfl (lv_room (lbz rfl)) aL8.2.1 ⟨Nat.zero_le _, Nat.zero_le _⟩) (fun r_9 u H locs hp hP hD hS => ?_)
      have hPD := PDm (ws' := (aGv cI cC cZ cB cJ xB vI wY xO tJ jJ mY pG pD pE eO dN bD bJ aI uU gF qF mX oE dY jE eW eY dU fY gJ jG nU)) hP hD 9 rfl rfl rfl
      have hP := hPD.1
      have hD := hPD.2
      refine lv_ior hx hb aL8.2.2.1 ?_
      refine lv_topi (fun aEr aNB => ?_)
      have hp := hp aEr aNB
      refine lv_istore_n (lv' := [(3, .int aEr), (0, .ref xB), (1, .int x1), (2, .int x2), (4, .int x4)]) hx hb aL8.2.2.2.1 rfl hl (by decide) rfl (fun ls hl => ?_)
      exact ks_X0_shakeTree_63 C0 hKn x1 x2 aEr x4 eY dU nU H locs ls hp hP hD hS (lv_sub hl [1, 2, 3, 0, 4] rfl)
set_option maxHeartbeats 4000000 in
set_option maxRecDepth 100000 in
theorem kb_X0_shakeTree_29 (C0 : gc aCl (some .int) 5 RX0 (dC, dI) (tyl cI cC cZ cB cJ) A p s m args meth c) : ∀ (n : Nat), ∀ (x1 x2 x3 x4 eY dU nU : Int32) (H : Heap) (locs : List Loc) (ls : Array Slot), (wb_X0_shakeTree_29 post dN uU gF qF mX oE dY jE eW fY gJ jG n) x1 x2 x3 x4 eY dU nU -> va_P (dC, dI) classes (aGv cI cC cZ cB cJ xB vI wY xO tJ jJ mY pG pD pE eO dN bD bJ aI uU gF qF mX oE dY jE eW eY dU fY gJ jG nU) H -> va_D A (aGv cI cC cZ cB cJ xB vI wY xO tJ jJ mY pG pD pE eO dN bD bJ aI uU gF qF mX oE dY jE eW eY dU fY gJ jG nU) -> va_S A s.heap H locs -> lv_has ls 5 [(0, .ref xB), (1, .int x1), (2, .int x2), (3, .int x3), (4, .int x4)] -> W p l e rm_X0_shakeTree s m args below meth c H locs 0 0 (MQ below (q_X0_shakeTree dC dI cI cC cZ cB cJ A xB vI wY xO tJ jJ mY pG pD pE eO dN bD bJ aI uU gF qF mX oE dY jE eW fY gJ jG post) args s 0 0 A) (F0 m 29 ls []) := by
  intro n
  induction n with
  | zero =>
    intro x1 x2 x3 x4 eY dU nU H locs ls hp
    exact False.elim hp
  | succ n ih =>
    intro x1 x2 x3 x4 eY dU nU H locs ls hp
    exact ks_X0_shakeTree_29 C0 ih x1 x2 x3 x4 eY dU nU H locs ls hp
end S_X0_shakeTree
def wp_X0_shakeTree (post : Int32 -> Int32 -> Int32 -> Int32 -> Prop) (dN : Int32) (uU gF qF mX oE dY : Nat -> Int32) (jE eW eY dU fY gJ jG nU : Int32) : Prop := (¬ fY = (-1) -> aOu (fun r_1 => wp_X0_readyHere (fun r_2 => ∃ n : Nat, wb_X0_shakeTree_29 post dN uU gF qF mX oE dY jE eW fY gJ jG n r_1 r_2 r_2 0 eY dU nU) dN uU gF qF mX oE dY jE eW eY fY gJ jG) dN jE eW eY) /\ (fY = (-1) -> post (-2) eY dU nU)
set_option maxHeartbeats 4000000 in
set_option maxRecDepth 100000 in
theorem c_X0_shakeTree (l : Launch) (dC : Nat -> ClassId) (dI : Nat -> Nat -> Nat) (cI cC cZ cB cJ : ClassId) (xB vI wY xO tJ jJ mY pG pD pE eO sz : Nat) (dN bD bJ aI : Int32) (uU gF qF mX oE dY : Nat -> Int32) (jE eW eY dU fY gJ jG nU : Int32) (post : Int32 -> Int32 -> Int32 -> Int32 -> Prop) (hw : wp_X0_shakeTree post dN uU gF qF mX oE dY jE eW eY dU fY gJ jG nU) : Met l yX0_shakeTree (gw yX0_shakeTree aCl 5 (some .int)) rm_X0_shakeTree (va_Pc [.ref xB] (gPre (dC, dI) (tyl cI cC cZ cB cJ) (aGv cI cC cZ cB cJ xB vI wY xO tJ jJ mY pG pD pE eO dN bD bJ aI uU gF qF mX oE dY jE eW eY dU fY gJ jG nU) sz)) (q_X0_shakeTree dC dI cI cC cZ cB cJ (va_A (aGv cI cC cZ cB cJ xB vI wY xO tJ jJ mY pG pD pE eO dN bD bJ aI uU gF qF mX oE dY jE eW eY dU fY gJ jG nU) sz) xB vI wY xO tJ jJ mY pG pD pE eO dN bD bJ aI uU gF qF mX oE dY jE eW fY gJ jG post) 0 0 (va_A (aGv cI cC cZ cB cJ xB vI wY xO tJ jJ mY pG pD pE eO dN bD bJ aI uU gF qF mX oE dY jE eW eY dU fY gJ jG nU) sz) := by
  refine aBJ (own := RX0) (dC, dI) (tyl cI cC cZ cB cJ) (aGv cI cC cZ cB cJ xB vI wY xO tJ jJ mY pG pD pE eO dN bD bJ aI uU gF qF mX oE dY jE eW eY dU fY gJ jG nU) sz [.ref xB] (fun A => q_X0_shakeTree dC dI cI cC cZ cB cJ A xB vI wY xO tJ jJ mY pG pD pE eO dN bD bJ aI uU gF qF mX oE dY jE eW fY gJ jG post) pn_RX0 rfl (lbz rfl) ?_
  intro p e s m args below meth c A H locs ls C0 hP hD hS hl
  have hl : lv_has ls 5 [(0, .ref xB)] := hl
  obtain ⟨hx, hb, hr, hml, hown, hts, hlocks, hA, hK, hN, tL, tM, hZL, hTL, hZM, hTM, hZX⟩ := id C0
  have hp := hw
  unfold wp_X0_shakeTree at hp
  refine lv_aload_n hx hb aNd.1 rfl (lv_at hl 0 rfl) ?_
  refine va_get (D := (dC, dI)) (ci := 0) (v := .ref wY) (C := RX0) (T := TX0) (N := 3) hx hb hts i_X0 hown hK hP 0 rfl rfl 1 (lbz rfl) (hts _ q_161) (fun _ h9 => h9) rfl aNd.2.1 ?_
  refine va_get (D := (dC, dI)) (ci := 2) (v := .int fY) (C := RX2) (T := TX2) (N := 8) hx hb hts i_X2 hown hK hP 8 rfl rfl 4 (lbz rfl) (hts _ q_228) (fun _ h9 => h9) rfl aNd.2.2.1 ?_
  refine lv_iconst (v := (-1)) hx hb aNd.2.2.2.1 aEJ ?_
  refine lv_icmp_ne (tgt := 14) hx hb aNd.2.2.2.2.1 (by decide) (fun hc => ?_) (fun hc => ?_)
  · have hp := hp.1 hc
    refine lv_aload_n hx hb aNd.2.2.2.2.2.2.2.1 rfl (lv_at hl 0 rfl) ?_
    have hm := mgk (wc := (aOf cI cC cZ cB cJ xB vI wY xO tJ jJ mY pG pD pE eO dN bD bJ aI jE eW eY dU fY gJ jG nU)) hP mk_73 9 rfl rfl rfl
    refine yW hP hD hS hA (yS mk_73) (aAi mk_73) hm.1 hm.2 (aAk _) (zW _) (zF (As := []) (rest := []) C0 hP hD hS (yS mk_73) hm.1 (aAl _) 0 0 rfl rfl (c_X0_hanging l dC dI cI cC cZ cB cJ xB vI wY xO tJ jJ mY pG pD pE eO H.size dN bD bJ aI jE eW eY dU fY gJ jG nU _ hp) q_186 q_309 q_188 q_189 q_187 h_X0_hanging rfl rfl ⟨lbz rfl, lbz rfl⟩ rfl rfl hl.1 rfl (lv_room (lbz rfl)) aNd.2.2.2.2.2.2.2.2.1 ⟨Nat.zero_le _, Nat.zero_le _⟩) (fun r_1 u H locs hp hP hD hS => ?_)
    have hPD := PDm (ws' := (aGv cI cC cZ cB cJ xB vI wY xO tJ jJ mY pG pD pE eO dN bD bJ aI uU gF qF mX oE dY jE eW eY dU fY gJ jG nU)) hP hD 9 rfl rfl rfl
    have hP := hPD.1
    have hD := hPD.2
    refine lv_istore_n (lv' := [(1, .int r_1), (0, .ref xB)]) hx hb aNd.2.2.2.2.2.2.2.2.2.1 rfl hl (by decide) rfl (fun ls hl => ?_)
    refine lv_aload_n hx hb aNd.2.2.2.2.2.2.2.2.2.2.1 rfl (lv_at hl 1 rfl) ?_
    have hm := mgk (wc := (aUW cI cC cZ cB cJ xB vI wY xO tJ jJ mY pG pD pE eO dN bD bJ aI uU gF qF mX oE dY jE eW eY dU fY gJ jG nU)) hP mk_9 9 rfl rfl rfl
    refine yW hP hD hS hA (yS mk_9) (aAi mk_9) hm.1 hm.2 (aAk _) (zW _) (zF (As := []) (rest := []) C0 hP hD hS (yS mk_9) hm.1 (aAl _) 0 0 rfl rfl (c_X0_readyHere l dC dI cI cC cZ cB cJ xB vI wY xO tJ jJ mY pG pD pE eO H.size dN bD bJ aI uU gF qF mX oE dY jE eW eY dU fY gJ jG nU _ hp) q_347 q_350 q_348 q_349 q_187 h_X0_readyHere rfl rfl ⟨lbz rfl, lbz rfl⟩ rfl rfl hl.1 rfl (lv_room (lbz rfl)) aNd.2.2.2.2.2.2.2.2.2.2.2.1 ⟨Nat.zero_le _, Nat.zero_le _⟩) (fun r_2 u H locs hp hP hD hS => ?_)
    have hPD := PDm (ws' := (aGv cI cC cZ cB cJ xB vI wY xO tJ jJ mY pG pD pE eO dN bD bJ aI uU gF qF mX oE dY jE eW eY dU fY gJ jG nU)) hP hD 9 rfl rfl rfl
    have hP := hPD.1
    have hD := hPD.2
    refine lv_istore_n (lv' := [(2, .int r_2), (1, .int r_1), (0, .ref xB)]) hx hb aNd.2.2.2.2.2.2.2.2.2.2.2.2.1 rfl hl (by decide) rfl (fun ls hl => ?_)
    refine lv_iload_n hx hb aNd.2.2.2.2.2.2.2.2.2.2.2.2.2.1 rfl (lv_at hl 0 rfl) ?_
    refine lv_istore_n (lv' := [(3, .int r_2), (2, .int r_2), (1, .int r_1), (0, .ref xB)]) hx hb aNd.2.2.2.2.2.2.2.2.2.2.2.2.2.2.1 rfl hl (by decide) rfl (fun ls hl => ?_)
    refine lv_iconst (v := 0) hx hb aNd.2.2.2.2.2.2.2.2.2.2.2.2.2.2.2 aCi ?_
    refine lv_istore (lv' := [(4, .int 0), (3, .int r_2), (2, .int r_2), (1, .int r_1), (0, .ref xB)]) hx hb aL7.1 hl (by decide) rfl (fun ls hl => ?_)
    obtain ⟨n9, hp⟩ := hp
    exact kb_X0_shakeTree_29 C0 n9 r_1 r_2 r_2 0 eY dU nU H locs ls hp hP hD hS (lv_sub hl [4, 3, 2, 1, 0] rfl)
  · have hp := hp.2 hc
    refine lv_bipush (v := (-2)) hx hb aNd.2.2.2.2.2.1 bp_m2 ?_
    exact W.iret (v := (-2)) hx hb hr (fun t ht hW => ⟨⟨(-2), (eY, dU, nU), rfl, hp, by rw [ht]; exact hP, va_K.moved hW.alike hK, hD⟩, hS.F ht⟩) hS.2.2 aNd.2.2.2.2.2.2.1
abbrev wd_X9_shake (cI cC cZ cB cJ : ClassId) (a_x xI xH xB vI wY xX yA xY uD xO tJ jJ mY pG pD pE eO wF uT wD : Nat) (dN bD bJ aI : Int32) (uU gF qF mX oE dY : Nat -> Int32) (jE eW eY dU fY gJ jG nU pR uM : Int32) (tD : Nat -> Int32) : va_W := [(a_x, .inr (9, [.ref xI, .ref xH, .ref xB, .ref vI, .ref wY, .ref xX, .ref yA, .ref xY, .ref uD])), (xB, .inr (0, [.ref vI, .ref wY, .ref xO])), (vI, .inr (3, [.ref tJ, .ref jJ, .ref mY, .ref pG, .ref pD, .ref pE, .ref eO, .int dN, .int bD, .int bJ, .int aI])), (tJ, .inl (cI, 16, .inl uU)), (jJ, .inl (cI, 16, .inl gF)), (pG, .inl (cI, 16, .inl qF)), (pD, .inl (cI, 8, .inl mX)), (pE, .inl (cI, 8, .inl oE)), (eO, .inl (cI, 5, .inl dY)), (wY, .inr (2, [.int jE, .int eW, .int eY, .int dU, .int fY, .int gJ, .int jG, .int nU])), (xX, .inr (4, [.ref wF, .ref uT, .ref wD, .int pR, .int uM])), (wF, .inl (cI, 104, .inl tD))]
abbrev q_X9_shake (dC : Nat -> ClassId) (dI : Nat -> Nat -> Nat) (cI cC cZ cB cJ : ClassId) (A : Nat -> Prop) (a_x xI xH xB vI wY xX yA xY uD xO tJ jJ mY pG pD pE eO wF uT wD : Nat) (dN bD bJ aI : Int32) (uU gF qF mX oE dY : Nat -> Int32) (jE eW fY gJ jG : Int32) (post : Int32 -> Int32 -> Int32 -> Int32 -> Int32 -> Int32 -> (Nat -> Int32) -> Prop) : Array Value -> State -> Outcome -> State -> Prop := va_Qi (fun (r : Int32) (u : Int32 × Int32 × Int32 × Int32 × Int32 × (Nat -> Int32)) => post r u.1 u.2.1 u.2.2.1 u.2.2.2.1 u.2.2.2.2.1 u.2.2.2.2.2) (fun u t => gB (dC, dI) (tyl cI cC cZ cB cJ) A (wd_X9_shake cI cC cZ cB cJ a_x xI xH xB vI wY xX yA xY uD xO tJ jJ mY pG pD pE eO wF uT wD dN bD bJ aI uU gF qF mX oE dY jE eW u.1 u.2.1 fY gJ jG u.2.2.1 u.2.2.2.1 u.2.2.2.2.1 u.2.2.2.2.2) t) A
abbrev rm_X9_shake : Room := { frames := 5, cells := 0, slots := 0, locals := 116 }
def wp_X9_shake (post : Int32 -> Int32 -> Int32 -> Int32 -> Int32 -> Int32 -> (Nat -> Int32) -> Prop) (dN : Int32) (uU gF qF mX oE dY : Nat -> Int32) (jE eW eY dU fY gJ jG nU pR uM : Int32) (tD : Nat -> Int32) : Prop := wp_X4_note (fun aGG => wp_X0_shakeTree (fun r_2 no_ground_3 aW8 aIm => aUb (fun r_6 pa_undoable_7 pa_free_8 => post r_6 no_ground_3 aW8 aIm pa_undoable_7 pa_free_8 aGG) r_2 pR uM) dN uU gF qF mX oE dY jE eW eY dU fY gJ jG nU) jE eW eY dU fY gJ jG nU uM tD
set_option maxHeartbeats 4000000 in
set_option maxRecDepth 100000 in
theorem c_X9_shake (l : Launch) (dC : Nat -> ClassId) (dI : Nat -> Nat -> Nat) (cI cC cZ cB cJ : ClassId) (a_x xI xH xB vI wY xX yA xY uD xO tJ jJ mY pG pD pE eO wF uT wD sz : Nat) (dN bD bJ aI : Int32) (uU gF qF mX oE dY : Nat -> Int32) (jE eW eY dU fY gJ jG nU pR uM : Int32) (tD : Nat -> Int32) (post : Int32 -> Int32 -> Int32 -> Int32 -> Int32 -> Int32 -> (Nat -> Int32) -> Prop) (hw : wp_X9_shake post dN uU gF qF mX oE dY jE eW eY dU fY gJ jG nU pR uM tD) : Met l yX9_shake (gw yX9_shake cX9_shake 1 (some .int)) rm_X9_shake (va_Pc [.ref a_x] (gPre (dC, dI) (tyl cI cC cZ cB cJ) (wd_X9_shake cI cC cZ cB cJ a_x xI xH xB vI wY xX yA xY uD xO tJ jJ mY pG pD pE eO wF uT wD dN bD bJ aI uU gF qF mX oE dY jE eW eY dU fY gJ jG nU pR uM tD) sz)) (q_X9_shake dC dI cI cC cZ cB cJ (va_A (wd_X9_shake cI cC cZ cB cJ a_x xI xH xB vI wY xX yA xY uD xO tJ jJ mY pG pD pE eO wF uT wD dN bD bJ aI uU gF qF mX oE dY jE eW eY dU fY gJ jG nU pR uM tD) sz) a_x xI xH xB vI wY xX yA xY uD xO tJ jJ mY pG pD pE eO wF uT wD dN bD bJ aI uU gF qF mX oE dY jE eW fY gJ jG post) 0 0 (va_A (wd_X9_shake cI cC cZ cB cJ a_x xI xH xB vI wY xX yA xY uD xO tJ jJ mY pG pD pE eO wF uT wD dN bD bJ aI uU gF qF mX oE dY jE eW eY dU fY gJ jG nU pR uM tD) sz) := by
  refine aBJ (own := RX9) (dC, dI) (tyl cI cC cZ cB cJ) (wd_X9_shake cI cC cZ cB cJ a_x xI xH xB vI wY xX yA xY uD xO tJ jJ mY pG pD pE eO wF uT wD dN bD bJ aI uU gF qF mX oE dY jE eW eY dU fY gJ jG nU pR uM tD) sz [.ref a_x] (fun A => q_X9_shake dC dI cI cC cZ cB cJ A a_x xI xH xB vI wY xX yA xY uD xO tJ jJ mY pG pD pE eO wF uT wD dN bD bJ aI uU gF qF mX oE dY jE eW fY gJ jG post) pn_RX9 rfl (lbz rfl) ?_
  intro p e s m args below meth c A H locs ls C0 hP hD hS hl
  have hl : lv_has ls 1 [(0, .ref a_x)] := hl
  obtain ⟨hx, hb, hr, hml, hown, hts, hlocks, hA, hK, hN, tL, tM, hZL, hTL, hZM, hTM, hZX⟩ := id C0
  have hp := hw
  unfold wp_X9_shake at hp
  refine lv_aload_n hx hb eX9_shake_0.1 rfl (lv_at hl 0 rfl) ?_
  refine va_get (D := (dC, dI)) (ci := 9) (v := .ref xX) (C := RX9) (T := TX9) (N := 9) hx hb hts aC3 hown hK hP 0 rfl rfl 5 (lbz rfl) (hts _ q_91) (fun _ h9 => h9) rfl eX9_shake_0.2.1 ?_
  refine lv_aload_n hx hb eX9_shake_0.2.2.1 rfl (lv_at hl 0 rfl) ?_
  refine va_get (D := (dC, dI)) (ci := 9) (v := .ref wY) (C := RX9) (T := TX9) (N := 9) hx hb hts aC3 hown hK hP 0 rfl rfl 4 (lbz rfl) (hts _ q_179) (fun _ h9 => h9) rfl eX9_shake_0.2.2.2.1 ?_
  have hm := mgk (wc := (wd_X4_note cI cC cZ cB cJ wY xX wF uT wD jE eW eY dU fY gJ jG nU pR uM tD)) hP mk_78 12 rfl rfl rfl
  refine aBn hP hD hS hA (yS mk_78) (aAi mk_78) hm.1 hm.2 (aAk _) (zW _) (zF (As := [.ref wY]) (rest := []) C0 hP hD hS (yS mk_78) hm.1 (aAl _) 10 4 rfl rfl (c_X4_note l dC dI cI cC cZ cB cJ wY xX wF uT wD H.size jE eW eY dU fY gJ jG nU pR uM tD _ hp) q_247 q_250 q_248 q_249 q_93 h_X4_note rfl rfl ⟨lbz rfl, lbz rfl⟩ rfl rfl hl.1 rfl (lv_room (lbz rfl)) eX9_shake_0.2.2.2.2.1 ⟨Nat.zero_le _, Nat.zero_le _⟩) (fun u H locs hp hP hD hS => ?_)
  obtain ⟨aGG, rfl⟩ : ∃ z, z = u := ⟨_, rfl⟩
  have hPD := PDm (ws' := (wd_X9_shake cI cC cZ cB cJ a_x xI xH xB vI wY xX yA xY uD xO tJ jJ mY pG pD pE eO wF uT wD dN bD bJ aI uU gF qF mX oE dY jE eW eY dU fY gJ jG nU pR uM aGG)) hP hD 12 rfl rfl rfl
  have hP := hPD.1
  have hD := hPD.2
  refine lv_aload_n hx hb eX9_shake_0.2.2.2.2.2.1 rfl (lv_at hl 0 rfl) ?_
  refine lv_aload_n hx hb eX9_shake_0.2.2.2.2.2.2.1 rfl (lv_at hl 0 rfl) ?_
  refine va_get (D := (dC, dI)) (ci := 9) (v := .ref xB) (C := RX9) (T := TX9) (N := 9) hx hb hts aC3 hown hK hP 0 rfl rfl 2 (lbz rfl) (hts _ q_146) (fun _ h9 => h9) rfl eX9_shake_0.2.2.2.2.2.2.2.1 ?_
  have hm := mgk (wc := (aGv cI cC cZ cB cJ xB vI wY xO tJ jJ mY pG pD pE eO dN bD bJ aI uU gF qF mX oE dY jE eW eY dU fY gJ jG nU)) hP mk_13 12 rfl rfl rfl
  refine yW hP hD hS hA (yS mk_13) (aAi mk_13) hm.1 hm.2 (aAk _) (zW _) (zF (As := []) (rest := [.ref a_x]) C0 hP hD hS (yS mk_13) hm.1 (aAl _) 1 0 rfl rfl (c_X0_shakeTree l dC dI cI cC cZ cB cJ xB vI wY xO tJ jJ mY pG pD pE eO H.size dN bD bJ aI uU gF qF mX oE dY jE eW eY dU fY gJ jG nU _ hp) q_352 q_355 q_353 q_354 q_187 h_X0_shakeTree rfl rfl ⟨lbz rfl, lbz rfl⟩ rfl rfl hl.1 rfl (lv_room (lbz rfl)) eX9_shake_0.2.2.2.2.2.2.2.2.1 ⟨Nat.zero_le _, Nat.zero_le _⟩) (fun r_2 u H locs hp hP hD hS => ?_)
  obtain ⟨no_ground_3, aW8, aIm⟩ := u
  have hPD := PDm (ws' := (wd_X9_shake cI cC cZ cB cJ a_x xI xH xB vI wY xX yA xY uD xO tJ jJ mY pG pD pE eO wF uT wD dN bD bJ aI uU gF qF mX oE dY jE eW no_ground_3 aW8 fY gJ jG aIm pR uM aGG)) hP hD 12 rfl rfl rfl
  have hP := hPD.1
  have hD := hPD.2
  have hm := mgk (wc := (aUY cI cC cZ cB cJ a_x xI xH xB vI wY xX yA xY uD wF uT wD pR uM)) hP mk_79 12 rfl rfl rfl
  refine yW hP hD hS hA (yS mk_79) (aAi mk_79) hm.1 hm.2 (aAk _) (zW _) (zF (As := [.int r_2]) (rest := []) C0 hP hD hS (yS mk_79) hm.1 (aAl _) 0 9 rfl rfl (c_X9_holdIfDone l dC dI cI cC cZ cB cJ a_x xI xH xB vI wY xX yA xY uD wF uT wD H.size r_2 pR uM _ hp) q_255 q_259 q_257 q_258 aIl h_X9_holdIfDone rfl rfl ⟨lbz rfl, lbz rfl⟩ rfl rfl hl.1 rfl (lv_room (lbz rfl)) eX9_shake_0.2.2.2.2.2.2.2.2.2.1 ⟨Nat.zero_le _, Nat.zero_le _⟩) (fun r_6 u H locs hp hP hD hS => ?_)
  obtain ⟨pa_undoable_7, pa_free_8⟩ := u
  have hPD := PDm (ws' := (wd_X9_shake cI cC cZ cB cJ a_x xI xH xB vI wY xX yA xY uD xO tJ jJ mY pG pD pE eO wF uT wD dN bD bJ aI uU gF qF mX oE dY jE eW no_ground_3 aW8 fY gJ jG aIm pa_undoable_7 pa_free_8 aGG)) hP hD 12 rfl rfl rfl
  have hP := hPD.1
  have hD := hPD.2
  exact W.iret (v := r_6) hx hb hr (fun t ht hW => ⟨⟨r_6, (no_ground_3, aW8, aIm, pa_undoable_7, pa_free_8, aGG), rfl, hp, by rw [ht]; exact hP, va_K.moved hW.alike hK, hD⟩, hS.F ht⟩) hS.2.2 eX9_shake_0.2.2.2.2.2.2.2.2.2.2
abbrev aRo (cI cC cZ cB cJ : ClassId) (xB vI wY xO : Nat) (jE eW eY dU fY gJ jG nU : Int32) : va_W := [(xB, .inr (0, [.ref vI, .ref wY, .ref xO])), (wY, .inr (2, [.int jE, .int eW, .int eY, .int dU, .int fY, .int gJ, .int jG, .int nU]))]
abbrev q_X0_sleepOver (dC : Nat -> ClassId) (dI : Nat -> Nat -> Nat) (cI cC cZ cB cJ : ClassId) (A : Nat -> Prop) (xB vI wY xO : Nat) (eY dU gJ : Int32) (post : Int32 -> Int32 -> Int32 -> Int32 -> Int32 -> Int32 -> Prop) : Array Value -> State -> Outcome -> State -> Prop := va_Qi (fun (r : Int32) (u : Int32 × Int32 × Int32 × Int32 × Int32) => post r u.1 u.2.1 u.2.2.1 u.2.2.2.1 u.2.2.2.2) (fun u t => gB (dC, dI) (tyl cI cC cZ cB cJ) A (aRo cI cC cZ cB cJ xB vI wY xO u.1 u.2.1 eY dU u.2.2.1 gJ u.2.2.2.1 u.2.2.2.2) t) A
abbrev rm_X0_sleepOver : Room := { frames := 1, cells := 0, slots := 0, locals := 20 }
def wp_X0_sleepOver (post : Int32 -> Int32 -> Int32 -> Int32 -> Int32 -> Int32 -> Prop) (jE eW fY jG nU : Int32) : Prop := (jG < 9 -> ∀ v_1 : Int32, v_1 = jG + 1 -> wp_X2_emptyApron (fun aNR aLF => post v_1 aNR aLF (-1) v_1 0) jE eW) /\ (¬ jG < 9 -> post (-1) jE eW fY jG nU)
set_option maxHeartbeats 4000000 in
set_option maxRecDepth 100000 in
theorem c_X0_sleepOver (l : Launch) (dC : Nat -> ClassId) (dI : Nat -> Nat -> Nat) (cI cC cZ cB cJ : ClassId) (xB vI wY xO sz : Nat) (jE eW eY dU fY gJ jG nU : Int32) (post : Int32 -> Int32 -> Int32 -> Int32 -> Int32 -> Int32 -> Prop) (hw : wp_X0_sleepOver post jE eW fY jG nU) : Met l yX0_sleepOver (gw yX0_sleepOver aGn 1 (some .int)) rm_X0_sleepOver (va_Pc [.ref xB] (gPre (dC, dI) (tyl cI cC cZ cB cJ) (aRo cI cC cZ cB cJ xB vI wY xO jE eW eY dU fY gJ jG nU) sz)) (q_X0_sleepOver dC dI cI cC cZ cB cJ (va_A (aRo cI cC cZ cB cJ xB vI wY xO jE eW eY dU fY gJ jG nU) sz) xB vI wY xO eY dU gJ post) 0 0 (va_A (aRo cI cC cZ cB cJ xB vI wY xO jE eW eY dU fY gJ jG nU) sz) := by
  refine aBJ (own := RX0) (dC, dI) (tyl cI cC cZ cB cJ) (aRo cI cC cZ cB cJ xB vI wY xO jE eW eY dU fY gJ jG nU) sz [.ref xB] (fun A => q_X0_sleepOver dC dI cI cC cZ cB cJ A xB vI wY xO eY dU gJ post) pn_RX0 rfl (lbz rfl) ?_
  intro p e s m args below meth c A H locs ls C0 hP hD hS hl
  have hl : lv_has ls 1 [(0, .ref xB)] := hl
  obtain ⟨hx, hb, hr, hml, hown, hts, hlocks, hA, hK, hN, tL, tM, hZL, hTL, hZM, hTM, hZX⟩ := id C0
  have hp := hw
  unfold wp_X0_sleepOver at hp
  refine lv_aload_n hx hb aNe.1 rfl (lv_at hl 0 rfl) ?_
  refine va_get (D := (dC, dI)) (ci := 0) (v := .ref wY) (C := RX0) (T := TX0) (N := 3) hx hb hts i_X0 hown hK hP 0 rfl rfl 1 (lbz rfl) (hts _ q_161) (fun _ h9 => h9) rfl aNe.2.1 ?_
  refine va_get (D := (dC, dI)) (ci := 2) (v := .int jG) (C := RX2) (T := TX2) (N := 8) hx hb hts i_X2 hown hK hP 1 rfl rfl 6 (lbz rfl) (hts _ q_311) (fun _ h9 => h9) rfl aNe.2.2.1 ?_
  refine lv_bipush (v := 9) hx hb aNe.2.2.2.1 bp_9 ?_
  refine lv_icmp_lt (tgt := 14) hx hb aNe.2.2.2.2.1 (by decide) (fun hc => ?_) (fun hc => ?_)
  · have hp := hp.1 hc
    refine lv_aload_n hx hb aNe.2.2.2.2.2.2.2.1 rfl (lv_at hl 0 rfl) ?_
    refine va_get (D := (dC, dI)) (ci := 0) (v := .ref wY) (C := RX0) (T := TX0) (N := 3) hx hb hts i_X0 hown hK hP 0 rfl rfl 1 (lbz rfl) (hts _ q_161) (fun _ h9 => h9) rfl aNe.2.2.2.2.2.2.2.2.1 ?_
    refine lv_dup hx hb aNe.2.2.2.2.2.2.2.2.2.1 rfl ?_
    refine va_get (D := (dC, dI)) (ci := 2) (v := .int jG) (C := RX2) (T := TX2) (N := 8) hx hb hts i_X2 hown hK hP 1 rfl rfl 6 (lbz rfl) (hts _ q_311) (fun _ h9 => h9) rfl aNe.2.2.2.2.2.2.2.2.2.2.1 ?_
    refine lv_iconst (v := 1) hx hb aNe.2.2.2.2.2.2.2.2.2.2.2.1 aDx ?_
    refine lv_iadd hx hb aNe.2.2.2.2.2.2.2.2.2.2.2.2.1 ?_
    refine lv_topi (fun v_1 aFJ => ?_)
    have hp := hp v_1 aFJ
    refine va_put (D := (dC, dI)) (ci := 2) (v := .int v_1) (ty := .int) (C := RX2) (T := TX2) (N := 8) hx hb hts i_X2 tyX2 aIa nmX2 hown hK hP hD hS 1 rfl rfl 6 (lbz rfl) (hts _ q_311) (fun _ h9 => h9) rfl (aIa 6 (lbz rfl)) rfl rfl (lbz rfl) aNe.2.2.2.2.2.2.2.2.2.2.2.2.2.1 (fun H locs hP hD hS => ?_)
    have hPD := PDw (ws' := (aRo cI cC cZ cB cJ xB vI wY xO jE eW eY dU fY gJ v_1 nU)) hP hD rfl
    have hP := hPD.1
    have hD := hPD.2
    refine lv_aload_n hx hb aNe.2.2.2.2.2.2.2.2.2.2.2.2.2.2.1 rfl (lv_at hl 0 rfl) ?_
    refine va_get (D := (dC, dI)) (ci := 0) (v := .ref wY) (C := RX0) (T := TX0) (N := 3) hx hb hts i_X0 hown hK hP 0 rfl rfl 1 (lbz rfl) (hts _ q_161) (fun _ h9 => h9) rfl aNe.2.2.2.2.2.2.2.2.2.2.2.2.2.2.2 ?_
    refine lv_iconst (v := (-1)) hx hb aRZ.1 aEJ ?_
    refine va_put (D := (dC, dI)) (ci := 2) (v := .int (-1)) (ty := .int) (C := RX2) (T := TX2) (N := 8) hx hb hts i_X2 tyX2 aIa nmX2 hown hK hP hD hS 1 rfl rfl 4 (lbz rfl) (hts _ q_228) (fun _ h9 => h9) rfl (aIa 4 (lbz rfl)) rfl rfl (lbz rfl) aRZ.2.1 (fun H locs hP hD hS => ?_)
    have hPD := PDw (ws' := (aRo cI cC cZ cB cJ xB vI wY xO jE eW eY dU (-1) gJ v_1 nU)) hP hD rfl
    have hP := hPD.1
    have hD := hPD.2
    refine lv_aload_n hx hb aRZ.2.2.1 rfl (lv_at hl 0 rfl) ?_
    refine va_get (D := (dC, dI)) (ci := 0) (v := .ref wY) (C := RX0) (T := TX0) (N := 3) hx hb hts i_X0 hown hK hP 0 rfl rfl 1 (lbz rfl) (hts _ q_161) (fun _ h9 => h9) rfl aRZ.2.2.2.1 ?_
    refine aBn (wc := (aUX cI cC cZ cB cJ wY jE eW eY dU (-1) gJ v_1 nU)) hP hD hS hA [1] [0] rfl rfl rfl rfl (zF (As := []) (rest := []) C0 hP hD hS [1] rfl rfl 1 2 rfl rfl (c_X2_emptyApron l dC dI cI cC cZ cB cJ wY H.size jE eW eY dU (-1) gJ v_1 nU _ hp) q_233 q_236 q_234 q_235 q_181 h_X2_emptyApron rfl rfl ⟨lbz rfl, lbz rfl⟩ rfl rfl hl.1 rfl (lv_room (lbz rfl)) aRZ.2.2.2.2.1 ⟨Nat.zero_le _, Nat.zero_le _⟩) (fun u H locs hp hP hD hS => ?_)
    obtain ⟨aNR, aLF⟩ := u
    have hPD := PDs (ws' := (aRo cI cC cZ cB cJ xB vI wY xO aNR aLF eY dU (-1) gJ v_1 nU)) hP hD [0, 1] (by decide) rfl
    have hP := hPD.1
    have hD := hPD.2
    refine lv_aload_n hx hb aRZ.2.2.2.2.2.1 rfl (lv_at hl 0 rfl) ?_
    refine va_get (D := (dC, dI)) (ci := 0) (v := .ref wY) (C := RX0) (T := TX0) (N := 3) hx hb hts i_X0 hown hK hP 0 rfl rfl 1 (lbz rfl) (hts _ q_161) (fun _ h9 => h9) rfl aRZ.2.2.2.2.2.2.1 ?_
    refine lv_iconst (v := 0) hx hb aRZ.2.2.2.2.2.2.2.1 aCi ?_
    refine va_put (D := (dC, dI)) (ci := 2) (v := .int 0) (ty := .int) (C := RX2) (T := TX2) (N := 8) hx hb hts i_X2 tyX2 aIa nmX2 hown hK hP hD hS 1 rfl rfl 7 (lbz rfl) (hts _ q_356) (fun _ h9 => h9) rfl (aIa 7 (lbz rfl)) rfl rfl (lbz rfl) aRZ.2.2.2.2.2.2.2.2.1 (fun H locs hP hD hS => ?_)
    have hPD := PDw (ws' := (aRo cI cC cZ cB cJ xB vI wY xO aNR aLF eY dU (-1) gJ v_1 0)) hP hD rfl
    have hP := hPD.1
    have hD := hPD.2
    refine lv_aload_n hx hb aRZ.2.2.2.2.2.2.2.2.2.1 rfl (lv_at hl 0 rfl) ?_
    refine va_get (D := (dC, dI)) (ci := 0) (v := .ref wY) (C := RX0) (T := TX0) (N := 3) hx hb hts i_X0 hown hK hP 0 rfl rfl 1 (lbz rfl) (hts _ q_161) (fun _ h9 => h9) rfl aRZ.2.2.2.2.2.2.2.2.2.2.1 ?_
    refine va_get (D := (dC, dI)) (ci := 2) (v := .int v_1) (C := RX2) (T := TX2) (N := 8) hx hb hts i_X2 hown hK hP 1 rfl rfl 6 (lbz rfl) (hts _ q_311) (fun _ h9 => h9) rfl aRZ.2.2.2.2.2.2.2.2.2.2.2.1 ?_
    exact W.iret (v := v_1) hx hb hr (fun t ht hW => ⟨⟨v_1, (aNR, aLF, (-1), v_1, 0), rfl, hp, by rw [ht]; exact hP, va_K.moved hW.alike hK, hD⟩, hS.F ht⟩) hS.2.2 aRZ.2.2.2.2.2.2.2.2.2.2.2.2
  · have hp := hp.2 hc
    refine lv_iconst (v := (-1)) hx hb aNe.2.2.2.2.2.1 aEJ ?_
    exact W.iret (v := (-1)) hx hb hr (fun t ht hW => ⟨⟨(-1), (jE, eW, fY, jG, nU), rfl, hp, by rw [ht]; exact hP, va_K.moved hW.alike hK, hD⟩, hS.F ht⟩) hS.2.2 aNe.2.2.2.2.2.2.1
