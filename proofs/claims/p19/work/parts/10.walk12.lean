noncomputable abbrev wd_X5_smallestCover (cI cC cZ cB cJ : ClassId) (xD wY wJ uE qU uJ uL uI tX jE mX pD oO oQ eG : Nat) (oX rJ pN rP : Int32) (rX : Nat → Int32) (bZ bD bI aI : Int32) : va_W := [(xD, .inr (5, [.ref wY, .ref wJ, .ref uE, .ref qU, .ref uJ, .ref uL, .ref uI, .int oX, .int rJ, .int pN, .int rP])), (uE, .inl (cI, 8, .inl rX)), (wJ, .inr (3, [.ref tX, .ref jE, .ref mX, .ref pD, .ref oO, .ref oQ, .ref eG, .int bZ, .int bD, .int bI, .int aI]))]
noncomputable abbrev q_X5_smallestCover (dC : Nat → ClassId) (dI : Nat → Nat → Nat) (cI cC cZ cB cJ : ClassId) (A : Nat → Prop) (xD wY wJ uE qU uJ uL uI tX jE mX pD oO oQ eG : Nat) (oX rJ pN rP : Int32) (rX : Nat → Int32) (bZ bD bI aI : Int32) (post : Int32 → Prop) : Array Value → State → Outcome → State → Prop := va_Qi (fun (r : Int32) (u : Unit) => post r) (fun u t => gB (dC, dI) (tyl cI cC cZ cB cJ) A (wd_X5_smallestCover cI cC cZ cB cJ xD wY wJ uE qU uJ uL uI tX jE mX pD oO oQ eG oX rJ pN rP rX bZ bD bI aI) t) A
noncomputable abbrev rm_X5_smallestCover : Room := { frames := 2, cells := 0, slots := 0, locals := 43 }
section S_X5_smallestCover
variable {p : Program} {l : Launch} {e : Env} {s : State} {m : MethodId} {args : Array Value} {below : List Frame} {meth : Method} {c : Code} {dC : Nat → ClassId} {dI : Nat → Nat → Nat} {cI cC cZ cB cJ : ClassId} {A : Nat → Prop} {xD wY wJ uE qU uJ uL uI tX jE mX pD oO oQ eG : Nat} {oX rJ pN rP : Int32} {rX : Nat → Int32} {bZ bD bI aI : Int32} {post : Int32 → Prop}
noncomputable def ws_X5_smallestCover_45 (post : Int32 → Prop) (K5 : Int32 → Int32 → Int32 → Int32 → Prop) (rX : Nat → Int32) (bD x1 x2 x3 x4 : Int32) : Prop := ∀ v_1 : Int32, v_1 = x4 + 1 → K5 x1 x2 x3 v_1
set_option maxHeartbeats 4000000 in
set_option maxRecDepth 100000 in
theorem ks_X5_smallestCover_45 (C0 : gc cX5_smallestCover (some .int) 5 RX5 (dC, dI) (tyl cI cC cZ cB cJ) A p s m args meth c) {K5 : Int32 → Int32 → Int32 → Int32 → Prop} (hK5 : ∀ (x1 : Int32) (x2 : Int32) (x3 : Int32) (x4 : Int32) (H : Heap) (locs : List Loc) (ls : Array Slot), K5 x1 x2 x3 x4 → va_P (dC, dI) classes (wd_X5_smallestCover cI cC cZ cB cJ xD wY wJ uE qU uJ uL uI tX jE mX pD oO oQ eG oX rJ pN rP rX bZ bD bI aI) H → va_D A (wd_X5_smallestCover cI cC cZ cB cJ xD wY wJ uE qU uJ uL uI tX jE mX pD oO oQ eG oX rJ pN rP rX bZ bD bI aI) → va_S A s.heap H locs → lv_has ls 5 [(0, .ref xD), (1, .int x1), (2, .int x2), (3, .int x3), (4, .int x4)] → W p l e rm_X5_smallestCover s m args below meth c H locs 0 0 (MQ below (q_X5_smallestCover dC dI cI cC cZ cB cJ A xD wY wJ uE qU uJ uL uI tX jE mX pD oO oQ eG oX rJ pN rP rX bZ bD bI aI post) args s 0 0 A) (F0 m 5 ls [])) : ∀ (x1 x2 x3 x4 : Int32) (H : Heap) (locs : List Loc) (ls : Array Slot), (ws_X5_smallestCover_45 post K5 rX bD) x1 x2 x3 x4 → va_P (dC, dI) classes (wd_X5_smallestCover cI cC cZ cB cJ xD wY wJ uE qU uJ uL uI tX jE mX pD oO oQ eG oX rJ pN rP rX bZ bD bI aI) H → va_D A (wd_X5_smallestCover cI cC cZ cB cJ xD wY wJ uE qU uJ uL uI tX jE mX pD oO oQ eG oX rJ pN rP rX bZ bD bI aI) → va_S A s.heap H locs → lv_has ls 5 [(0, .ref xD), (1, .int x1), (2, .int x2), (3, .int x3), (4, .int x4)] → W p l e rm_X5_smallestCover s m args below meth c H locs 0 0 (MQ below (q_X5_smallestCover dC dI cI cC cZ cB cJ A xD wY wJ uE qU uJ uL uI tX jE mX pD oO oQ eG oX rJ pN rP rX bZ bD bI aI post) args s 0 0 A) (F0 m 45 ls []) := by
  obtain ⟨hx, hb, hr, hml, hown, hts, hlocks, hA, hK, hN, tL, tM, hZL, hTL, hZM, hTM, hZX⟩ := id C0
  intro x1 x2 x3 x4 H locs ls hp hP hD hS hl
  unfold ws_X5_smallestCover_45 at hp
  obtain ⟨v_1, ev_1⟩ : ∃ y : Int32, y = x4 + 1 := ⟨_, rfl⟩
  refine lv_iinc (v := v_1) (lv' := [(4, .int v_1), (0, .ref xD), (1, .int x1), (2, .int x2), (3, .int x3)]) hx hb eX5_smallestCover_24.2.2.2.2.2.2.2.2.2.2.2.1 hl (k := 4) rfl (by rw [ev_1]; rfl) (by decide) rfl (fun ls hl => ?_)
  have hp := hp v_1 ev_1
  refine lv_goto (tgt := 5) hx hb eX5_smallestCover_24.2.2.2.2.2.2.2.2.2.2.2.2.1 (by decide) ?_
  exact hK5 x1 x2 x3 v_1 H locs ls hp hP hD hS (lv_sub hl [1, 2, 3, 4, 0] rfl)
noncomputable def ws_X5_smallestCover_5 (post : Int32 → Prop) (next : Int32 → Int32 → Int32 → Int32 → Prop) (rX : Nat → Int32) (bD x1 x2 x3 x4 : Int32) : Prop := (x2 ≤ x4 → post x3) ∧ (¬ x2 ≤ x4 → (¬ (x4 &&& (x2 ^^^ (-1))) = 0 → ws_X5_smallestCover_45 post next rX bD x1 x2 x3 x4) ∧ ((x4 &&& (x2 ^^^ (-1))) = 0 → wp_X5_reachedBy (fun r_2 => (¬ (x1 &&& (r_2 ^^^ (-1))) = 0 → ws_X5_smallestCover_45 post next rX bD x1 x2 x3 x4) ∧ ((x1 &&& (r_2 ^^^ (-1))) = 0 → wp_X5_isEarlier (fun r_3 => (r_3 = 0 → ws_X5_smallestCover_45 post next rX bD x1 x2 x3 x4) ∧ (¬ r_3 = 0 → ws_X5_smallestCover_45 post next rX bD x1 x2 x4 x4)) x4 x3)) x4 rX bD))
noncomputable def wb_X5_smallestCover_5 (post : Int32 → Prop) (rX : Nat → Int32) (bD : Int32) : Nat → Int32 → Int32 → Int32 → Int32 → Prop := fun n => Nat.rec (motive := fun _ => Int32 → Int32 → Int32 → Int32 → Prop) (fun _ _ _ _ => False) (fun _ ih => ws_X5_smallestCover_5 post ih rX bD) n
set_option maxHeartbeats 4000000 in
set_option maxRecDepth 100000 in
theorem ks_X5_smallestCover_5 (C0 : gc cX5_smallestCover (some .int) 5 RX5 (dC, dI) (tyl cI cC cZ cB cJ) A p s m args meth c) {next : Int32 → Int32 → Int32 → Int32 → Prop} (hKn : ∀ (x1 : Int32) (x2 : Int32) (x3 : Int32) (x4 : Int32) (H : Heap) (locs : List Loc) (ls : Array Slot), next x1 x2 x3 x4 → va_P (dC, dI) classes (wd_X5_smallestCover cI cC cZ cB cJ xD wY wJ uE qU uJ uL uI tX jE mX pD oO oQ eG oX rJ pN rP rX bZ bD bI aI) H → va_D A (wd_X5_smallestCover cI cC cZ cB cJ xD wY wJ uE qU uJ uL uI tX jE mX pD oO oQ eG oX rJ pN rP rX bZ bD bI aI) → va_S A s.heap H locs → lv_has ls 5 [(0, .ref xD), (1, .int x1), (2, .int x2), (3, .int x3), (4, .int x4)] → W p l e rm_X5_smallestCover s m args below meth c H locs 0 0 (MQ below (q_X5_smallestCover dC dI cI cC cZ cB cJ A xD wY wJ uE qU uJ uL uI tX jE mX pD oO oQ eG oX rJ pN rP rX bZ bD bI aI post) args s 0 0 A) (F0 m 5 ls [])) : ∀ (x1 x2 x3 x4 : Int32) (H : Heap) (locs : List Loc) (ls : Array Slot), (ws_X5_smallestCover_5 post next rX bD) x1 x2 x3 x4 → va_P (dC, dI) classes (wd_X5_smallestCover cI cC cZ cB cJ xD wY wJ uE qU uJ uL uI tX jE mX pD oO oQ eG oX rJ pN rP rX bZ bD bI aI) H → va_D A (wd_X5_smallestCover cI cC cZ cB cJ xD wY wJ uE qU uJ uL uI tX jE mX pD oO oQ eG oX rJ pN rP rX bZ bD bI aI) → va_S A s.heap H locs → lv_has ls 5 [(0, .ref xD), (1, .int x1), (2, .int x2), (3, .int x3), (4, .int x4)] → W p l e rm_X5_smallestCover s m args below meth c H locs 0 0 (MQ below (q_X5_smallestCover dC dI cI cC cZ cB cJ A xD wY wJ uE qU uJ uL uI tX jE mX pD oO oQ eG oX rJ pN rP rX bZ bD bI aI post) args s 0 0 A) (F0 m 5 ls []) := by
  obtain ⟨hx, hb, hr, hml, hown, hts, hlocks, hA, hK, hN, tL, tM, hZL, hTL, hZM, hTM, hZX⟩ := id C0
  intro x1 x2 x3 x4 H locs ls hp hP hD hS hl
  unfold ws_X5_smallestCover_5 at hp
  refine lv_iload hx hb eX5_smallestCover_0.2.2.2.2.1 (lv_at hl 4 rfl) ?_
  refine lv_iload_n hx hb eX5_smallestCover_0.2.2.2.2.2.1 rfl (lv_at hl 2 rfl) ?_
  refine lv_icmp_ge (tgt := 51) hx hb eX5_smallestCover_0.2.2.2.2.2.2.1 (by decide) (fun hc => ?_) (fun hc => ?_)
  · have hp := hp.1 hc
    refine lv_iload_n hx hb eX5_smallestCover_24.2.2.2.2.2.2.2.2.2.2.2.2.2.1 rfl (lv_at hl 3 rfl) ?_
    exact W.iret (v := x3) hx hb hr (fun t ht hW => ⟨⟨x3, (), rfl, hp, by rw [ht]; exact hP, va_K.moved hW.alike hK, hD⟩, hS.F ht⟩) hS.2.2 eX5_smallestCover_24.2.2.2.2.2.2.2.2.2.2.2.2.2.2
  · have hp := hp.2 hc
    refine lv_iload hx hb eX5_smallestCover_0.2.2.2.2.2.2.2.1 (lv_at hl 4 rfl) ?_
    refine lv_iload_n hx hb eX5_smallestCover_0.2.2.2.2.2.2.2.2.1 rfl (lv_at hl 2 rfl) ?_
    refine lv_iconst (v := (-1)) hx hb eX5_smallestCover_0.2.2.2.2.2.2.2.2.2.1 ic_m1 ?_
    refine lv_ixor hx hb eX5_smallestCover_0.2.2.2.2.2.2.2.2.2.2.1 ?_
    refine lv_iand hx hb eX5_smallestCover_0.2.2.2.2.2.2.2.2.2.2.2.1 ?_
    refine lv_if_ne (tgt := 45) hx hb eX5_smallestCover_0.2.2.2.2.2.2.2.2.2.2.2.2.1 (by decide) (fun hc => ?_) (fun hc => ?_)
    · have hp := hp.1 hc
      exact ks_X5_smallestCover_45 C0 hKn x1 x2 x3 x4 H locs ls hp hP hD hS (lv_sub hl [0, 1, 2, 3, 4] rfl)
    · have hp := hp.2 hc
      refine lv_iload_n hx hb eX5_smallestCover_0.2.2.2.2.2.2.2.2.2.2.2.2.2.1 rfl (lv_at hl 1 rfl) ?_
      refine lv_aload_n hx hb eX5_smallestCover_0.2.2.2.2.2.2.2.2.2.2.2.2.2.2.1 rfl (lv_at hl 0 rfl) ?_
      refine lv_iload hx hb eX5_smallestCover_0.2.2.2.2.2.2.2.2.2.2.2.2.2.2.2 (lv_at hl 4 rfl) ?_
      have hm := mgk (wc := (wd_X5_reachedBy cI cC cZ cB cJ xD wY wJ uE qU uJ uL uI tX jE mX pD oO oQ eG oX rJ pN rP rX bZ bD bI aI)) hP aBD 3 rfl rfl rfl
      refine g_calli hP hD hS hA (mixT aBD) (mixF aBD) hm.1 hm.2 (nd_F _) (dis_g _) (g_runV (As := [.int x4]) (rest := [.int x1]) C0 hP hD hS (mixT aBD) hm.1 (nd_T _) 0 5 rfl rfl (c_X5_reachedBy l dC dI cI cC cZ cB cJ xD wY wJ uE qU uJ uL uI tX jE mX pD oO oQ eG H.size x4 oX rJ pN rP rX bZ bD bI aI _ hp) q_430 q_434 q_432 q_433 q_431 h_X5_reachedBy rfl rfl ⟨Nat.le_of_ble_eq_true rfl, Nat.le_of_ble_eq_true rfl⟩ rfl rfl hl.1 rfl (lv_room (Nat.le_of_ble_eq_true rfl)) eX5_smallestCover_24.1 ⟨Nat.zero_le _, Nat.zero_le _⟩) (fun r_2 u H locs hp hP hD hS => ?_)
      have hPD := PDm (ws' := (wd_X5_smallestCover cI cC cZ cB cJ xD wY wJ uE qU uJ uL uI tX jE mX pD oO oQ eG oX rJ pN rP rX bZ bD bI aI)) hP hD 3 rfl rfl rfl
      have hP := hPD.1
      have hD := hPD.2
      refine lv_iconst (v := (-1)) hx hb eX5_smallestCover_24.2.1 ic_m1 ?_
      refine lv_ixor hx hb eX5_smallestCover_24.2.2.1 ?_
      refine lv_iand hx hb eX5_smallestCover_24.2.2.2.1 ?_
      refine lv_if_ne (tgt := 45) hx hb eX5_smallestCover_24.2.2.2.2.1 (by decide) (fun hc => ?_) (fun hc => ?_)
      · have hp := hp.1 hc
        exact ks_X5_smallestCover_45 C0 hKn x1 x2 x3 x4 H locs ls hp hP hD hS (lv_sub hl [0, 1, 2, 3, 4] rfl)
      · have hp := hp.2 hc
        refine lv_iload hx hb eX5_smallestCover_24.2.2.2.2.2.1 (lv_at hl 4 rfl) ?_
        refine lv_iload_n hx hb eX5_smallestCover_24.2.2.2.2.2.2.1 rfl (lv_at hl 3 rfl) ?_
        have hm := mgk (wc := (wd_X5_isEarlier cI cC cZ cB cJ)) hP aGv 3 rfl rfl rfl
        refine g_calli hP hD hS hA (mixT aGv) (mixF aGv) hm.1 hm.2 (nd_F _) (dis_g _) (g_runS (As := [.int x4, .int x3]) (rest := []) C0 hP hD hS (mixT aGv) hm.1 (nd_T _) (c_X5_isEarlier l dC dI cI cC cZ cB cJ H.size x4 x3 _ hp) q_458 q_460 q_459 q_431 h_X5_isEarlier rfl rfl ⟨Nat.le_of_ble_eq_true rfl, Nat.le_of_ble_eq_true rfl⟩ rfl rfl hl.1 rfl (lv_room (Nat.le_of_ble_eq_true rfl)) eX5_smallestCover_24.2.2.2.2.2.2.2.1 ⟨Nat.zero_le _, Nat.zero_le _⟩) (fun r_3 u H locs hp hP hD hS => ?_)
        have hPD := PDm (ws' := (wd_X5_smallestCover cI cC cZ cB cJ xD wY wJ uE qU uJ uL uI tX jE mX pD oO oQ eG oX rJ pN rP rX bZ bD bI aI)) hP hD 3 rfl rfl rfl
        have hP := hPD.1
        have hD := hPD.2
        refine lv_if_eq (tgt := 45) hx hb eX5_smallestCover_24.2.2.2.2.2.2.2.2.1 (by decide) (fun hc => ?_) (fun hc => ?_)
        · have hp := hp.1 hc
          exact ks_X5_smallestCover_45 C0 hKn x1 x2 x3 x4 H locs ls hp hP hD hS (lv_sub hl [0, 1, 2, 3, 4] rfl)
        · have hp := hp.2 hc
          refine lv_iload hx hb eX5_smallestCover_24.2.2.2.2.2.2.2.2.2.1 (lv_at hl 4 rfl) ?_
          refine lv_istore_n (lv' := [(3, .int x4), (0, .ref xD), (1, .int x1), (2, .int x2), (4, .int x4)]) hx hb eX5_smallestCover_24.2.2.2.2.2.2.2.2.2.2.1 rfl hl (by decide) rfl (fun ls hl => ?_)
          exact ks_X5_smallestCover_45 C0 hKn x1 x2 x4 x4 H locs ls hp hP hD hS (lv_sub hl [1, 2, 3, 0, 4] rfl)
set_option maxHeartbeats 4000000 in
set_option maxRecDepth 100000 in
theorem kb_X5_smallestCover_5 (C0 : gc cX5_smallestCover (some .int) 5 RX5 (dC, dI) (tyl cI cC cZ cB cJ) A p s m args meth c) : ∀ (n : Nat), ∀ (x1 x2 x3 x4 : Int32) (H : Heap) (locs : List Loc) (ls : Array Slot), (wb_X5_smallestCover_5 post rX bD n) x1 x2 x3 x4 → va_P (dC, dI) classes (wd_X5_smallestCover cI cC cZ cB cJ xD wY wJ uE qU uJ uL uI tX jE mX pD oO oQ eG oX rJ pN rP rX bZ bD bI aI) H → va_D A (wd_X5_smallestCover cI cC cZ cB cJ xD wY wJ uE qU uJ uL uI tX jE mX pD oO oQ eG oX rJ pN rP rX bZ bD bI aI) → va_S A s.heap H locs → lv_has ls 5 [(0, .ref xD), (1, .int x1), (2, .int x2), (3, .int x3), (4, .int x4)] → W p l e rm_X5_smallestCover s m args below meth c H locs 0 0 (MQ below (q_X5_smallestCover dC dI cI cC cZ cB cJ A xD wY wJ uE qU uJ uL uI tX jE mX pD oO oQ eG oX rJ pN rP rX bZ bD bI aI post) args s 0 0 A) (F0 m 5 ls []) := by
  intro n
  induction n with
  | zero =>
    intro x1 x2 x3 x4 H locs ls hp
    exact False.elim hp
  | succ n ih =>
    intro x1 x2 x3 x4 H locs ls hp
    exact ks_X5_smallestCover_5 C0 ih x1 x2 x3 x4 H locs ls hp
end S_X5_smallestCover
noncomputable def wp_X5_smallestCover (post : Int32 → Prop) (p0 p1 : Int32) (rX : Nat → Int32) (bD : Int32) : Prop := ∃ n : Nat, wb_X5_smallestCover_5 post rX bD n p0 p1 p1 0
set_option maxHeartbeats 4000000 in
set_option maxRecDepth 100000 in
theorem c_X5_smallestCover (l : Launch) (dC : Nat → ClassId) (dI : Nat → Nat → Nat) (cI cC cZ cB cJ : ClassId) (xD wY wJ uE qU uJ uL uI tX jE mX pD oO oQ eG sz : Nat) (p0 p1 oX rJ pN rP : Int32) (rX : Nat → Int32) (bZ bD bI aI : Int32) (post : Int32 → Prop) (hw : wp_X5_smallestCover post p0 p1 rX bD) : Met l yX5_smallestCover (gw yX5_smallestCover cX5_smallestCover 5 (some .int)) rm_X5_smallestCover (va_Pc [.ref xD, .int p0, .int p1] (gPre (dC, dI) (tyl cI cC cZ cB cJ) (wd_X5_smallestCover cI cC cZ cB cJ xD wY wJ uE qU uJ uL uI tX jE mX pD oO oQ eG oX rJ pN rP rX bZ bD bI aI) sz)) (q_X5_smallestCover dC dI cI cC cZ cB cJ (va_A (wd_X5_smallestCover cI cC cZ cB cJ xD wY wJ uE qU uJ uL uI tX jE mX pD oO oQ eG oX rJ pN rP rX bZ bD bI aI) sz) xD wY wJ uE qU uJ uL uI tX jE mX pD oO oQ eG oX rJ pN rP rX bZ bD bI aI post) 0 0 (va_A (wd_X5_smallestCover cI cC cZ cB cJ xD wY wJ uE qU uJ uL uI tX jE mX pD oO oQ eG oX rJ pN rP rX bZ bD bI aI) sz) := by
  refine g_enter (own := RX5) (dC, dI) (tyl cI cC cZ cB cJ) (wd_X5_smallestCover cI cC cZ cB cJ xD wY wJ uE qU uJ uL uI tX jE mX pD oO oQ eG oX rJ pN rP rX bZ bD bI aI) sz [.ref xD, .int p0, .int p1] (fun A => q_X5_smallestCover dC dI cI cC cZ cB cJ A xD wY wJ uE qU uJ uL uI tX jE mX pD oO oQ eG oX rJ pN rP rX bZ bD bI aI post) pn_RX5 rfl (Nat.le_of_ble_eq_true rfl) ?_
  intro p e s m args below meth c A H locs ls C0 hP hD hS hl
  have hl : lv_has ls 5 [(0, .ref xD), (1, .int p0), (2, .int p1)] := hl
  obtain ⟨hx, hb, hr, hml, hown, hts, hlocks, hA, hK, hN, tL, tM, hZL, hTL, hZM, hTM, hZX⟩ := id C0
  have hp := hw
  unfold wp_X5_smallestCover at hp
  refine lv_iload_n hx hb eX5_smallestCover_0.1 rfl (lv_at hl 2 rfl) ?_
  refine lv_istore_n (lv' := [(3, .int p1), (0, .ref xD), (1, .int p0), (2, .int p1)]) hx hb eX5_smallestCover_0.2.1 rfl hl (by decide) rfl (fun ls hl => ?_)
  refine lv_iconst (v := 0) hx hb eX5_smallestCover_0.2.2.1 ic_0 ?_
  refine lv_istore (lv' := [(4, .int 0), (3, .int p1), (0, .ref xD), (1, .int p0), (2, .int p1)]) hx hb eX5_smallestCover_0.2.2.2.1 hl (by decide) rfl (fun ls hl => ?_)
  obtain ⟨n9, hp⟩ := hp
  exact kb_X5_smallestCover_5 C0 n9 p0 p1 p1 0 H locs ls hp hP hD hS (lv_sub hl [2, 3, 4, 1, 0] rfl)
noncomputable abbrev wd_X9_tellMembers (cI cC cZ cB cJ : ClassId) (a_x xG xD wY wJ wQ xI xK xJ tW qT : Nat) (qF : Int32) (jJ : Nat → Int32) : va_W := [(a_x, .inr (9, [.ref xG, .ref xD, .ref wY, .ref wJ, .ref wQ, .ref xI, .ref xK, .ref xJ, .ref tW])), (xK, .inr (6, [.ref qT, .int qF])), (qT, .inl (cI, 16, .inl jJ))]
noncomputable abbrev q_X9_tellMembers (dC : Nat → ClassId) (dI : Nat → Nat → Nat) (cI cC cZ cB cJ : ClassId) (A : Nat → Prop) (a_x xG xD wY wJ wQ xI xK xJ tW qT : Nat) (post : Int32 → Int32 → (Nat → Int32) → Prop) : Array Value → State → Outcome → State → Prop := va_Qi (fun (r : Int32) (u : Int32 × (Nat → Int32)) => post r u.1 u.2) (fun u t => gB (dC, dI) (tyl cI cC cZ cB cJ) A (wd_X9_tellMembers cI cC cZ cB cJ a_x xG xD wY wJ wQ xI xK xJ tW qT u.1 u.2) t) A
noncomputable abbrev rm_X9_tellMembers : Room := { frames := 1, cells := 0, slots := 0, locals := 21 }
section S_X9_tellMembers
variable {p : Program} {l : Launch} {e : Env} {s : State} {m : MethodId} {args : Array Value} {below : List Frame} {meth : Method} {c : Code} {dC : Nat → ClassId} {dI : Nat → Nat → Nat} {cI cC cZ cB cJ : ClassId} {A : Nat → Prop} {a_x xG xD wY wJ wQ xI xK xJ tW qT : Nat} {post : Int32 → Int32 → (Nat → Int32) → Prop}
noncomputable def ws_X9_tellMembers_31 (post : Int32 → Int32 → (Nat → Int32) → Prop) (K9 : Int32 → Int32 → Int32 → (Nat → Int32) → Prop) (x1 x2 qF : Int32) (jJ : Nat → Int32) : Prop := ∀ v_3 : Int32, v_3 = x2 + 1 → K9 x1 v_3 qF jJ
set_option maxHeartbeats 4000000 in
set_option maxRecDepth 100000 in
theorem ks_X9_tellMembers_31 (C0 : gc cX9_tellMembers (some .int) 3 RX9 (dC, dI) (tyl cI cC cZ cB cJ) A p s m args meth c) {K9 : Int32 → Int32 → Int32 → (Nat → Int32) → Prop} (hK9 : ∀ (x1 : Int32) (x2 : Int32) (qF : Int32) (jJ : Nat → Int32) (H : Heap) (locs : List Loc) (ls : Array Slot), K9 x1 x2 qF jJ → va_P (dC, dI) classes (wd_X9_tellMembers cI cC cZ cB cJ a_x xG xD wY wJ wQ xI xK xJ tW qT qF jJ) H → va_D A (wd_X9_tellMembers cI cC cZ cB cJ a_x xG xD wY wJ wQ xI xK xJ tW qT qF jJ) → va_S A s.heap H locs → lv_has ls 3 [(0, .ref a_x), (1, .int x1), (2, .int x2)] → W p l e rm_X9_tellMembers s m args below meth c H locs 0 0 (MQ below (q_X9_tellMembers dC dI cI cC cZ cB cJ A a_x xG xD wY wJ wQ xI xK xJ tW qT post) args s 0 0 A) (F0 m 9 ls [])) : ∀ (x1 x2 qF : Int32) (jJ : Nat → Int32) (H : Heap) (locs : List Loc) (ls : Array Slot), (ws_X9_tellMembers_31 post K9) x1 x2 qF jJ → va_P (dC, dI) classes (wd_X9_tellMembers cI cC cZ cB cJ a_x xG xD wY wJ wQ xI xK xJ tW qT qF jJ) H → va_D A (wd_X9_tellMembers cI cC cZ cB cJ a_x xG xD wY wJ wQ xI xK xJ tW qT qF jJ) → va_S A s.heap H locs → lv_has ls 3 [(0, .ref a_x), (1, .int x1), (2, .int x2)] → W p l e rm_X9_tellMembers s m args below meth c H locs 0 0 (MQ below (q_X9_tellMembers dC dI cI cC cZ cB cJ A a_x xG xD wY wJ wQ xI xK xJ tW qT post) args s 0 0 A) (F0 m 31 ls []) := by
  obtain ⟨hx, hb, hr, hml, hown, hts, hlocks, hA, hK, hN, tL, tM, hZL, hTL, hZM, hTM, hZX⟩ := id C0
  intro x1 x2 qF jJ H locs ls hp hP hD hS hl
  unfold ws_X9_tellMembers_31 at hp
  obtain ⟨v_3, ev_3⟩ : ∃ y : Int32, y = x2 + 1 := ⟨_, rfl⟩
  refine lv_iinc (v := v_3) (lv' := [(2, .int v_3), (0, .ref a_x), (1, .int x1)]) hx hb eX9_tellMembers_27.2.2.1 hl (k := 2) rfl (by rw [ev_3]; rfl) (by decide) rfl (fun ls hl => ?_)
  have hp := hp v_3 ev_3
  refine lv_goto (tgt := 9) hx hb eX9_tellMembers_27.2.2.2.1 (by decide) ?_
  exact hK9 x1 v_3 qF jJ H locs ls hp hP hD hS (lv_sub hl [1, 2, 0] rfl)
noncomputable def ws_X9_tellMembers_9 (post : Int32 → Int32 → (Nat → Int32) → Prop) (next : Int32 → Int32 → Int32 → (Nat → Int32) → Prop) (x1 x2 qF : Int32) (jJ : Nat → Int32) : Prop := (8 ≤ x2 → post qF qF jJ) ∧ (¬ 8 ≤ x2 → ∀ v_2 : Int32, v_2 = x1 >>> (x2 &&& 31) → ((v_2 &&& 1) = 0 → ws_X9_tellMembers_31 post next x1 x2 qF jJ) ∧ (¬ (v_2 &&& 1) = 0 → wp_X6_add (fun aLe aDm => ws_X9_tellMembers_31 post next x1 x2 aLe aDm) x2 qF jJ))
noncomputable def wb_X9_tellMembers_9 (post : Int32 → Int32 → (Nat → Int32) → Prop) : Nat → Int32 → Int32 → Int32 → (Nat → Int32) → Prop := fun n => Nat.rec (motive := fun _ => Int32 → Int32 → Int32 → (Nat → Int32) → Prop) (fun _ _ _ _ => False) (fun _ ih => ws_X9_tellMembers_9 post ih) n
set_option maxHeartbeats 4000000 in
set_option maxRecDepth 100000 in
theorem ks_X9_tellMembers_9 (C0 : gc cX9_tellMembers (some .int) 3 RX9 (dC, dI) (tyl cI cC cZ cB cJ) A p s m args meth c) {next : Int32 → Int32 → Int32 → (Nat → Int32) → Prop} (hKn : ∀ (x1 : Int32) (x2 : Int32) (qF : Int32) (jJ : Nat → Int32) (H : Heap) (locs : List Loc) (ls : Array Slot), next x1 x2 qF jJ → va_P (dC, dI) classes (wd_X9_tellMembers cI cC cZ cB cJ a_x xG xD wY wJ wQ xI xK xJ tW qT qF jJ) H → va_D A (wd_X9_tellMembers cI cC cZ cB cJ a_x xG xD wY wJ wQ xI xK xJ tW qT qF jJ) → va_S A s.heap H locs → lv_has ls 3 [(0, .ref a_x), (1, .int x1), (2, .int x2)] → W p l e rm_X9_tellMembers s m args below meth c H locs 0 0 (MQ below (q_X9_tellMembers dC dI cI cC cZ cB cJ A a_x xG xD wY wJ wQ xI xK xJ tW qT post) args s 0 0 A) (F0 m 9 ls [])) : ∀ (x1 x2 qF : Int32) (jJ : Nat → Int32) (H : Heap) (locs : List Loc) (ls : Array Slot), (ws_X9_tellMembers_9 post next) x1 x2 qF jJ → va_P (dC, dI) classes (wd_X9_tellMembers cI cC cZ cB cJ a_x xG xD wY wJ wQ xI xK xJ tW qT qF jJ) H → va_D A (wd_X9_tellMembers cI cC cZ cB cJ a_x xG xD wY wJ wQ xI xK xJ tW qT qF jJ) → va_S A s.heap H locs → lv_has ls 3 [(0, .ref a_x), (1, .int x1), (2, .int x2)] → W p l e rm_X9_tellMembers s m args below meth c H locs 0 0 (MQ below (q_X9_tellMembers dC dI cI cC cZ cB cJ A a_x xG xD wY wJ wQ xI xK xJ tW qT post) args s 0 0 A) (F0 m 9 ls []) := by
  obtain ⟨hx, hb, hr, hml, hown, hts, hlocks, hA, hK, hN, tL, tM, hZL, hTL, hZM, hTM, hZX⟩ := id C0
  intro x1 x2 qF jJ H locs ls hp hP hD hS hl
  unfold ws_X9_tellMembers_9 at hp
  refine lv_iload_n hx hb eX9_tellMembers_0.2.2.2.2.2.1 rfl (lv_at hl 2 rfl) ?_
  refine lv_bipush (v := 8) hx hb eX9_tellMembers_0.2.2.2.2.2.2.1 bp_8 ?_
  refine lv_icmp_ge (tgt := 37) hx hb eX9_tellMembers_0.2.2.2.2.2.2.2.1 (by decide) (fun hc => ?_) (fun hc => ?_)
  · have hp := hp.1 hc
    refine lv_aload_n hx hb eX9_tellMembers_27.2.2.2.2.1 rfl (lv_at hl 0 rfl) ?_
    refine va_get (D := (dC, dI)) (ci := 9) (v := .ref xK) (C := RX9) (T := TX9) (N := 9) hx hb hts i_X9 hown hK hP 0 rfl rfl 6 (Nat.le_of_ble_eq_true rfl) (hts _ q_363) (fun _ h9 => h9) rfl eX9_tellMembers_27.2.2.2.2.2.1 ?_
    refine va_get (D := (dC, dI)) (ci := 6) (v := .int qF) (C := RX6) (T := TX6) (N := 2) hx hb hts i_X6 hown hK hP 1 rfl rfl 1 (Nat.le_of_ble_eq_true rfl) (hts _ q_461) (fun _ h9 => h9) rfl eX9_tellMembers_27.2.2.2.2.2.2.1 ?_
    exact W.iret (v := qF) hx hb hr (fun t ht hW => ⟨⟨qF, (qF, jJ), rfl, hp, by rw [ht]; exact hP, va_K.moved hW.alike hK, hD⟩, hS.F ht⟩) hS.2.2 eX9_tellMembers_27.2.2.2.2.2.2.2
  · have hp := hp.2 hc
    refine lv_iload_n hx hb eX9_tellMembers_0.2.2.2.2.2.2.2.2.1 rfl (lv_at hl 1 rfl) ?_
    refine lv_iload_n hx hb eX9_tellMembers_0.2.2.2.2.2.2.2.2.2.1 rfl (lv_at hl 2 rfl) ?_
    refine lv_ishr hx hb eX9_tellMembers_0.2.2.2.2.2.2.2.2.2.2.1 ?_
    refine lv_topi (fun v_2 ev_2 => ?_)
    have hp := hp v_2 ev_2
    refine lv_iconst (v := 1) hx hb eX9_tellMembers_0.2.2.2.2.2.2.2.2.2.2.2.1 ic_1 ?_
    refine lv_iand hx hb eX9_tellMembers_0.2.2.2.2.2.2.2.2.2.2.2.2.1 ?_
    refine lv_if_eq (tgt := 31) hx hb eX9_tellMembers_0.2.2.2.2.2.2.2.2.2.2.2.2.2.1 (by decide) (fun hc => ?_) (fun hc => ?_)
    · have hp := hp.1 hc
      exact ks_X9_tellMembers_31 C0 hKn x1 x2 qF jJ H locs ls hp hP hD hS (lv_sub hl [0, 1, 2] rfl)
    · have hp := hp.2 hc
      refine lv_aload_n hx hb eX9_tellMembers_0.2.2.2.2.2.2.2.2.2.2.2.2.2.2.1 rfl (lv_at hl 0 rfl) ?_
      refine va_get (D := (dC, dI)) (ci := 9) (v := .ref xK) (C := RX9) (T := TX9) (N := 9) hx hb hts i_X9 hown hK hP 0 rfl rfl 6 (Nat.le_of_ble_eq_true rfl) (hts _ q_363) (fun _ h9 => h9) rfl eX9_tellMembers_0.2.2.2.2.2.2.2.2.2.2.2.2.2.2.2 ?_
      refine lv_iload_n hx hb eX9_tellMembers_27.1 rfl (lv_at hl 2 rfl) ?_
      have hm := mgk (wc := (wd_X6_add cI cC cZ cB cJ xK qT qF jJ)) hP mk_0 3 rfl rfl rfl
      refine g_callv hP hD hS hA (mixT mk_0) (mixF mk_0) hm.1 hm.2 (nd_F _) (dis_g _) (g_runV (As := [.int x2]) (rest := []) C0 hP hD hS (mixT mk_0) hm.1 (nd_T _) 1 6 rfl rfl (c_X6_add l dC dI cI cC cZ cB cJ xK qT H.size x2 qF jJ _ hp) q_369 q_372 q_370 q_371 q_365 h_X6_add rfl rfl ⟨Nat.le_of_ble_eq_true rfl, Nat.le_of_ble_eq_true rfl⟩ rfl rfl hl.1 rfl (lv_room (Nat.le_of_ble_eq_true rfl)) eX9_tellMembers_27.2.1 ⟨Nat.zero_le _, Nat.zero_le _⟩) (fun u H locs hp hP hD hS => ?_)
      obtain ⟨aLe, aDm⟩ := u
      have hPD := PDm (ws' := (wd_X9_tellMembers cI cC cZ cB cJ a_x xG xD wY wJ wQ xI xK xJ tW qT aLe aDm)) hP hD 3 rfl rfl rfl
      have hP := hPD.1
      have hD := hPD.2
      exact ks_X9_tellMembers_31 C0 hKn x1 x2 aLe aDm H locs ls hp hP hD hS (lv_sub hl [0, 1, 2] rfl)
set_option maxHeartbeats 4000000 in
set_option maxRecDepth 100000 in
theorem kb_X9_tellMembers_9 (C0 : gc cX9_tellMembers (some .int) 3 RX9 (dC, dI) (tyl cI cC cZ cB cJ) A p s m args meth c) : ∀ (n : Nat), ∀ (x1 x2 qF : Int32) (jJ : Nat → Int32) (H : Heap) (locs : List Loc) (ls : Array Slot), (wb_X9_tellMembers_9 post n) x1 x2 qF jJ → va_P (dC, dI) classes (wd_X9_tellMembers cI cC cZ cB cJ a_x xG xD wY wJ wQ xI xK xJ tW qT qF jJ) H → va_D A (wd_X9_tellMembers cI cC cZ cB cJ a_x xG xD wY wJ wQ xI xK xJ tW qT qF jJ) → va_S A s.heap H locs → lv_has ls 3 [(0, .ref a_x), (1, .int x1), (2, .int x2)] → W p l e rm_X9_tellMembers s m args below meth c H locs 0 0 (MQ below (q_X9_tellMembers dC dI cI cC cZ cB cJ A a_x xG xD wY wJ wQ xI xK xJ tW qT post) args s 0 0 A) (F0 m 9 ls []) := by
  intro n
  induction n with
  | zero =>
    intro x1 x2 qF jJ H locs ls hp
    exact False.elim hp
  | succ n ih =>
    intro x1 x2 qF jJ H locs ls hp
    exact ks_X9_tellMembers_9 C0 ih x1 x2 qF jJ H locs ls hp
end S_X9_tellMembers
noncomputable def wp_X9_tellMembers (post : Int32 → Int32 → (Nat → Int32) → Prop) (p0 qF : Int32) (jJ : Nat → Int32) : Prop := wp_X6_clear (fun aAa => ∃ n : Nat, wb_X9_tellMembers_9 post n p0 0 aAa jJ) qF
set_option maxHeartbeats 4000000 in
set_option maxRecDepth 100000 in
theorem c_X9_tellMembers (l : Launch) (dC : Nat → ClassId) (dI : Nat → Nat → Nat) (cI cC cZ cB cJ : ClassId) (a_x xG xD wY wJ wQ xI xK xJ tW qT sz : Nat) (p0 qF : Int32) (jJ : Nat → Int32) (post : Int32 → Int32 → (Nat → Int32) → Prop) (hw : wp_X9_tellMembers post p0 qF jJ) : Met l yX9_tellMembers (gw yX9_tellMembers cX9_tellMembers 3 (some .int)) rm_X9_tellMembers (va_Pc [.ref a_x, .int p0] (gPre (dC, dI) (tyl cI cC cZ cB cJ) (wd_X9_tellMembers cI cC cZ cB cJ a_x xG xD wY wJ wQ xI xK xJ tW qT qF jJ) sz)) (q_X9_tellMembers dC dI cI cC cZ cB cJ (va_A (wd_X9_tellMembers cI cC cZ cB cJ a_x xG xD wY wJ wQ xI xK xJ tW qT qF jJ) sz) a_x xG xD wY wJ wQ xI xK xJ tW qT post) 0 0 (va_A (wd_X9_tellMembers cI cC cZ cB cJ a_x xG xD wY wJ wQ xI xK xJ tW qT qF jJ) sz) := by
  refine g_enter (own := RX9) (dC, dI) (tyl cI cC cZ cB cJ) (wd_X9_tellMembers cI cC cZ cB cJ a_x xG xD wY wJ wQ xI xK xJ tW qT qF jJ) sz [.ref a_x, .int p0] (fun A => q_X9_tellMembers dC dI cI cC cZ cB cJ A a_x xG xD wY wJ wQ xI xK xJ tW qT post) pn_RX9 rfl (Nat.le_of_ble_eq_true rfl) ?_
  intro p e s m args below meth c A H locs ls C0 hP hD hS hl
  have hl : lv_has ls 3 [(0, .ref a_x), (1, .int p0)] := hl
  obtain ⟨hx, hb, hr, hml, hown, hts, hlocks, hA, hK, hN, tL, tM, hZL, hTL, hZM, hTM, hZX⟩ := id C0
  have hp := hw
  unfold wp_X9_tellMembers at hp
  refine lv_aload_n hx hb eX9_tellMembers_0.1 rfl (lv_at hl 0 rfl) ?_
  refine va_get (D := (dC, dI)) (ci := 9) (v := .ref xK) (C := RX9) (T := TX9) (N := 9) hx hb hts i_X9 hown hK hP 0 rfl rfl 6 (Nat.le_of_ble_eq_true rfl) (hts _ q_363) (fun _ h9 => h9) rfl eX9_tellMembers_0.2.1 ?_
  have hm := mgk (wc := (wd_X6_clear cI cC cZ cB cJ xK qT qF)) hP mk_31 3 rfl rfl rfl
  refine g_callv hP hD hS hA (mixT mk_31) (mixF mk_31) hm.1 hm.2 (nd_F _) (dis_g _) (g_runV (As := []) (rest := []) C0 hP hD hS (mixT mk_31) hm.1 (nd_T _) 1 6 rfl rfl (c_X6_clear l dC dI cI cC cZ cB cJ xK qT H.size qF _ hp) q_364 q_368 q_366 q_367 q_365 h_X6_clear rfl rfl ⟨Nat.le_of_ble_eq_true rfl, Nat.le_of_ble_eq_true rfl⟩ rfl rfl hl.1 rfl (lv_room (Nat.le_of_ble_eq_true rfl)) eX9_tellMembers_0.2.2.1 ⟨Nat.zero_le _, Nat.zero_le _⟩) (fun u H locs hp hP hD hS => ?_)
  obtain ⟨aAa, rfl⟩ : ∃ z, z = u := ⟨_, rfl⟩
  have hPD := PDm (ws' := (wd_X9_tellMembers cI cC cZ cB cJ a_x xG xD wY wJ wQ xI xK xJ tW qT aAa jJ)) hP hD 3 rfl rfl rfl
  have hP := hPD.1
  have hD := hPD.2
  refine lv_iconst (v := 0) hx hb eX9_tellMembers_0.2.2.2.1 ic_0 ?_
  refine lv_istore_n (lv' := [(2, .int 0), (0, .ref a_x), (1, .int p0)]) hx hb eX9_tellMembers_0.2.2.2.2.1 rfl hl (by decide) rfl (fun ls hl => ?_)
  obtain ⟨n9, hp⟩ := hp
  exact kb_X9_tellMembers_9 C0 n9 p0 0 aAa jJ H locs ls hp hP hD hS (lv_sub hl [1, 2, 0] rfl)
noncomputable abbrev wd_X9_fewest (cI cC cZ cB cJ : ClassId) (a_x xG xD wY wJ wQ xI xK xJ tW uE qU uJ uL uI xH tX jE mX pD oO oQ eG qT : Nat) (oX rJ pN rP : Int32) (rX : Nat → Int32) (bZ bD bI aI : Int32) (wD gF qA nJ nY dQ : Nat → Int32) (jC eO eW dO fJ fY jD nG qF : Int32) (jJ : Nat → Int32) : va_W := [(a_x, .inr (9, [.ref xG, .ref xD, .ref wY, .ref wJ, .ref wQ, .ref xI, .ref xK, .ref xJ, .ref tW])), (xD, .inr (5, [.ref wY, .ref wJ, .ref uE, .ref qU, .ref uJ, .ref uL, .ref uI, .int oX, .int rJ, .int pN, .int rP])), (uE, .inl (cI, 8, .inl rX)), (wY, .inr (0, [.ref wJ, .ref wQ, .ref xH])), (wJ, .inr (3, [.ref tX, .ref jE, .ref mX, .ref pD, .ref oO, .ref oQ, .ref eG, .int bZ, .int bD, .int bI, .int aI])), (tX, .inl (cI, 16, .inl wD)), (jE, .inl (cI, 16, .inl gF)), (pD, .inl (cI, 16, .inl qA)), (oO, .inl (cI, 8, .inl nJ)), (oQ, .inl (cI, 8, .inl nY)), (eG, .inl (cI, 5, .inl dQ)), (wQ, .inr (2, [.int jC, .int eO, .int eW, .int dO, .int fJ, .int fY, .int jD, .int nG])), (xK, .inr (6, [.ref qT, .int qF])), (qT, .inl (cI, 16, .inl jJ))]
noncomputable abbrev q_X9_fewest (dC : Nat → ClassId) (dI : Nat → Nat → Nat) (cI cC cZ cB cJ : ClassId) (A : Nat → Prop) (a_x xG xD wY wJ wQ xI xK xJ tW uE qU uJ uL uI xH tX jE mX pD oO oQ eG qT : Nat) (rJ pN rP bZ bD bI aI : Int32) (wD gF qA nJ nY dQ : Nat → Int32) (jC eO eW dO fJ fY jD nG : Int32) (post : Int32 → Int32 → (Nat → Int32) → Int32 → (Nat → Int32) → Prop) : Array Value → State → Outcome → State → Prop := va_Qi (fun (r : Int32) (u : Int32 × (Nat → Int32) × Int32 × (Nat → Int32)) => post r u.1 u.2.1 u.2.2.1 u.2.2.2) (fun u t => gB (dC, dI) (tyl cI cC cZ cB cJ) A (wd_X9_fewest cI cC cZ cB cJ a_x xG xD wY wJ wQ xI xK xJ tW uE qU uJ uL uI xH tX jE mX pD oO oQ eG qT u.1 rJ pN rP u.2.1 bZ bD bI aI wD gF qA nJ nY dQ jC eO eW dO fJ fY jD nG u.2.2.1 u.2.2.2) t) A
noncomputable abbrev rm_X9_fewest : Room := { frames := 5, cells := 0, slots := 0, locals := 115 }
noncomputable def wp_X9_fewest (post : Int32 → Int32 → (Nat → Int32) → Int32 → (Nat → Int32) → Prop) (oX : Int32) (rX : Nat → Int32) (bZ bD : Int32) (wD gF qA nJ nY dQ : Nat → Int32) (jC eO eW fY jD qF : Int32) (jJ : Nat → Int32) : Prop := wp_X5_look (fun xM xQ => wp_X3_allStandings (fun r_3 => wp_X5_smallestCover (fun r_4 => wp_X9_tellMembers (fun r_5 zW yO => post r_5 xM xQ zW yO) r_4 qF jJ) xM r_3 xQ bD) bD) oX rX bZ bD wD gF qA nJ nY dQ jC eO eW fY jD
set_option maxHeartbeats 4000000 in
set_option maxRecDepth 100000 in
theorem c_X9_fewest (l : Launch) (dC : Nat → ClassId) (dI : Nat → Nat → Nat) (cI cC cZ cB cJ : ClassId) (a_x xG xD wY wJ wQ xI xK xJ tW uE qU uJ uL uI xH tX jE mX pD oO oQ eG qT sz : Nat) (oX rJ pN rP : Int32) (rX : Nat → Int32) (bZ bD bI aI : Int32) (wD gF qA nJ nY dQ : Nat → Int32) (jC eO eW dO fJ fY jD nG qF : Int32) (jJ : Nat → Int32) (post : Int32 → Int32 → (Nat → Int32) → Int32 → (Nat → Int32) → Prop) (hw : wp_X9_fewest post oX rX bZ bD wD gF qA nJ nY dQ jC eO eW fY jD qF jJ) : Met l yX9_fewest (gw yX9_fewest cX9_fewest 1 (some .int)) rm_X9_fewest (va_Pc [.ref a_x] (gPre (dC, dI) (tyl cI cC cZ cB cJ) (wd_X9_fewest cI cC cZ cB cJ a_x xG xD wY wJ wQ xI xK xJ tW uE qU uJ uL uI xH tX jE mX pD oO oQ eG qT oX rJ pN rP rX bZ bD bI aI wD gF qA nJ nY dQ jC eO eW dO fJ fY jD nG qF jJ) sz)) (q_X9_fewest dC dI cI cC cZ cB cJ (va_A (wd_X9_fewest cI cC cZ cB cJ a_x xG xD wY wJ wQ xI xK xJ tW uE qU uJ uL uI xH tX jE mX pD oO oQ eG qT oX rJ pN rP rX bZ bD bI aI wD gF qA nJ nY dQ jC eO eW dO fJ fY jD nG qF jJ) sz) a_x xG xD wY wJ wQ xI xK xJ tW uE qU uJ uL uI xH tX jE mX pD oO oQ eG qT rJ pN rP bZ bD bI aI wD gF qA nJ nY dQ jC eO eW dO fJ fY jD nG post) 0 0 (va_A (wd_X9_fewest cI cC cZ cB cJ a_x xG xD wY wJ wQ xI xK xJ tW uE qU uJ uL uI xH tX jE mX pD oO oQ eG qT oX rJ pN rP rX bZ bD bI aI wD gF qA nJ nY dQ jC eO eW dO fJ fY jD nG qF jJ) sz) := by
  refine g_enter (own := RX9) (dC, dI) (tyl cI cC cZ cB cJ) (wd_X9_fewest cI cC cZ cB cJ a_x xG xD wY wJ wQ xI xK xJ tW uE qU uJ uL uI xH tX jE mX pD oO oQ eG qT oX rJ pN rP rX bZ bD bI aI wD gF qA nJ nY dQ jC eO eW dO fJ fY jD nG qF jJ) sz [.ref a_x] (fun A => q_X9_fewest dC dI cI cC cZ cB cJ A a_x xG xD wY wJ wQ xI xK xJ tW uE qU uJ uL uI xH tX jE mX pD oO oQ eG qT rJ pN rP bZ bD bI aI wD gF qA nJ nY dQ jC eO eW dO fJ fY jD nG post) pn_RX9 rfl (Nat.le_of_ble_eq_true rfl) ?_
  intro p e s m args below meth c A H locs ls C0 hP hD hS hl
  have hl : lv_has ls 1 [(0, .ref a_x)] := hl
  obtain ⟨hx, hb, hr, hml, hown, hts, hlocks, hA, hK, hN, tL, tM, hZL, hTL, hZM, hTM, hZX⟩ := id C0
  have hp := hw
  unfold wp_X9_fewest at hp
  refine lv_aload_n hx hb eX9_fewest_0.1 rfl (lv_at hl 0 rfl) ?_
  refine va_get (D := (dC, dI)) (ci := 9) (v := .ref xD) (C := RX9) (T := TX9) (N := 9) hx hb hts i_X9 hown hK hP 0 rfl rfl 1 (Nat.le_of_ble_eq_true rfl) (hts _ q_444) (fun _ h9 => h9) rfl eX9_fewest_0.2.1 ?_
  have hm := mgk (wc := (wd_X5_look cI cC cZ cB cJ xD wY wJ uE qU uJ uL uI wQ xH tX jE mX pD oO oQ eG oX rJ pN rP rX bZ bD bI aI wD gF qA nJ nY dQ jC eO eW dO fJ fY jD nG)) hP aA9 14 rfl rfl rfl
  refine g_callv hP hD hS hA (mixT aA9) (mixF aA9) hm.1 hm.2 (nd_F _) (dis_g _) (g_runV (As := []) (rest := []) C0 hP hD hS (mixT aA9) hm.1 (nd_T _) 1 5 rfl rfl (c_X5_look l dC dI cI cC cZ cB cJ xD wY wJ uE qU uJ uL uI wQ xH tX jE mX pD oO oQ eG H.size oX rJ pN rP rX bZ bD bI aI wD gF qA nJ nY dQ jC eO eW dO fJ fY jD nG _ hp) q_445 q_448 q_446 q_447 q_431 h_X5_look rfl rfl ⟨Nat.le_of_ble_eq_true rfl, Nat.le_of_ble_eq_true rfl⟩ rfl rfl hl.1 rfl (lv_room (Nat.le_of_ble_eq_true rfl)) eX9_fewest_0.2.2.1 ⟨Nat.zero_le _, Nat.zero_le _⟩) (fun u H locs hp hP hD hS => ?_)
  obtain ⟨xM, xQ⟩ := u
  have hPD := PDm (ws' := (wd_X9_fewest cI cC cZ cB cJ a_x xG xD wY wJ wQ xI xK xJ tW uE qU uJ uL uI xH tX jE mX pD oO oQ eG qT xM rJ pN rP xQ bZ bD bI aI wD gF qA nJ nY dQ jC eO eW dO fJ fY jD nG qF jJ)) hP hD 14 rfl rfl rfl
  have hP := hPD.1
  have hD := hPD.2
  refine lv_aload_n hx hb eX9_fewest_0.2.2.2.1 rfl (lv_at hl 0 rfl) ?_
  refine lv_aload_n hx hb eX9_fewest_0.2.2.2.2.1 rfl (lv_at hl 0 rfl) ?_
  refine va_get (D := (dC, dI)) (ci := 9) (v := .ref xD) (C := RX9) (T := TX9) (N := 9) hx hb hts i_X9 hown hK hP 0 rfl rfl 1 (Nat.le_of_ble_eq_true rfl) (hts _ q_444) (fun _ h9 => h9) rfl eX9_fewest_0.2.2.2.2.2.1 ?_
  refine lv_aload_n hx hb eX9_fewest_0.2.2.2.2.2.2.1 rfl (lv_at hl 0 rfl) ?_
  refine va_get (D := (dC, dI)) (ci := 9) (v := .ref xD) (C := RX9) (T := TX9) (N := 9) hx hb hts i_X9 hown hK hP 0 rfl rfl 1 (Nat.le_of_ble_eq_true rfl) (hts _ q_444) (fun _ h9 => h9) rfl eX9_fewest_0.2.2.2.2.2.2.2.1 ?_
  refine va_get (D := (dC, dI)) (ci := 5) (v := .int xM) (C := RX5) (T := TX5) (N := 11) hx hb hts i_X5 hown hK hP 1 rfl rfl 7 (Nat.le_of_ble_eq_true rfl) (hts _ q_462) (fun _ h9 => h9) rfl eX9_fewest_0.2.2.2.2.2.2.2.2.1 ?_
  refine lv_aload_n hx hb eX9_fewest_0.2.2.2.2.2.2.2.2.2.1 rfl (lv_at hl 0 rfl) ?_
  refine va_get (D := (dC, dI)) (ci := 9) (v := .ref wJ) (C := RX9) (T := TX9) (N := 9) hx hb hts i_X9 hown hK hP 0 rfl rfl 3 (Nat.le_of_ble_eq_true rfl) (hts _ q_74) (fun _ h9 => h9) rfl eX9_fewest_0.2.2.2.2.2.2.2.2.2.2.1 ?_
  have hm := mgk (wc := (wd_X3_allStandings cI cC cZ cB cJ wJ tX jE mX pD oO oQ eG bZ bD bI aI)) hP aAB 14 rfl rfl rfl
  refine g_calli hP hD hS hA (mixT aAB) (mixF aAB) hm.1 hm.2 (nd_F _) (dis_g _) (g_runV (As := []) (rest := [.int xM, .ref xD, .ref a_x]) C0 hP hD hS (mixT aAB) hm.1 (nd_T _) 4 3 rfl rfl (c_X3_allStandings l dC dI cI cC cZ cB cJ wJ tX jE mX pD oO oQ eG H.size bZ bD bI aI _ hp) q_426 q_463 q_427 q_428 q_48 h_X3_allStandings rfl rfl ⟨Nat.le_of_ble_eq_true rfl, Nat.le_of_ble_eq_true rfl⟩ rfl rfl hl.1 rfl (lv_room (Nat.le_of_ble_eq_true rfl)) eX9_fewest_0.2.2.2.2.2.2.2.2.2.2.2.1 ⟨Nat.zero_le _, Nat.zero_le _⟩) (fun r_3 u H locs hp hP hD hS => ?_)
  have hPD := PDm (ws' := (wd_X9_fewest cI cC cZ cB cJ a_x xG xD wY wJ wQ xI xK xJ tW uE qU uJ uL uI xH tX jE mX pD oO oQ eG qT xM rJ pN rP xQ bZ bD bI aI wD gF qA nJ nY dQ jC eO eW dO fJ fY jD nG qF jJ)) hP hD 14 rfl rfl rfl
  have hP := hPD.1
  have hD := hPD.2
  have hm := mgk (wc := (wd_X5_smallestCover cI cC cZ cB cJ xD wY wJ uE qU uJ uL uI tX jE mX pD oO oQ eG xM rJ pN rP xQ bZ bD bI aI)) hP aBq 14 rfl rfl rfl
  refine g_calli hP hD hS hA (mixT aBq) (mixF aBq) hm.1 hm.2 (nd_F _) (dis_g _) (g_runV (As := [.int xM, .int r_3]) (rest := [.ref a_x]) C0 hP hD hS (mixT aBq) hm.1 (nd_T _) 1 5 rfl rfl (c_X5_smallestCover l dC dI cI cC cZ cB cJ xD wY wJ uE qU uJ uL uI tX jE mX pD oO oQ eG H.size xM r_3 xM rJ pN rP xQ bZ bD bI aI _ hp) q_464 q_467 q_465 q_466 q_431 h_X5_smallestCover rfl rfl ⟨Nat.le_of_ble_eq_true rfl, Nat.le_of_ble_eq_true rfl⟩ rfl rfl hl.1 rfl (lv_room (Nat.le_of_ble_eq_true rfl)) eX9_fewest_0.2.2.2.2.2.2.2.2.2.2.2.2.1 ⟨Nat.zero_le _, Nat.zero_le _⟩) (fun r_4 u H locs hp hP hD hS => ?_)
  have hPD := PDm (ws' := (wd_X9_fewest cI cC cZ cB cJ a_x xG xD wY wJ wQ xI xK xJ tW uE qU uJ uL uI xH tX jE mX pD oO oQ eG qT xM rJ pN rP xQ bZ bD bI aI wD gF qA nJ nY dQ jC eO eW dO fJ fY jD nG qF jJ)) hP hD 14 rfl rfl rfl
  have hP := hPD.1
  have hD := hPD.2
  have hm := mgk (wc := (wd_X9_tellMembers cI cC cZ cB cJ a_x xG xD wY wJ wQ xI xK xJ tW qT qF jJ)) hP aBp 14 rfl rfl rfl
  refine g_calli hP hD hS hA (mixT aBp) (mixF aBp) hm.1 hm.2 (nd_F _) (dis_g _) (g_runV (As := [.int r_4]) (rest := []) C0 hP hD hS (mixT aBp) hm.1 (nd_T _) 0 9 rfl rfl (c_X9_tellMembers l dC dI cI cC cZ cB cJ a_x xG xD wY wJ wQ xI xK xJ tW qT H.size r_4 qF jJ _ hp) q_468 q_471 q_469 q_470 q_256 h_X9_tellMembers rfl rfl ⟨Nat.le_of_ble_eq_true rfl, Nat.le_of_ble_eq_true rfl⟩ rfl rfl hl.1 rfl (lv_room (Nat.le_of_ble_eq_true rfl)) eX9_fewest_0.2.2.2.2.2.2.2.2.2.2.2.2.2.1 ⟨Nat.zero_le _, Nat.zero_le _⟩) (fun r_5 u H locs hp hP hD hS => ?_)
  obtain ⟨zW, yO⟩ := u
  have hPD := PDm (ws' := (wd_X9_fewest cI cC cZ cB cJ a_x xG xD wY wJ wQ xI xK xJ tW uE qU uJ uL uI xH tX jE mX pD oO oQ eG qT xM rJ pN rP xQ bZ bD bI aI wD gF qA nJ nY dQ jC eO eW dO fJ fY jD nG zW yO)) hP hD 14 rfl rfl rfl
  have hP := hPD.1
  have hD := hPD.2
  exact W.iret (v := r_5) hx hb hr (fun t ht hW => ⟨⟨r_5, (xM, xQ, zW, yO), rfl, hp, by rw [ht]; exact hP, va_K.moved hW.alike hK, hD⟩, hS.F ht⟩) hS.2.2 eX9_fewest_0.2.2.2.2.2.2.2.2.2.2.2.2.2.2
noncomputable abbrev wd_X9_needed (cI cC cZ cB cJ : ClassId) (a_x xG xD wY wJ wQ xI xK xJ tW uE qU uJ uL uI xH tX jE mX pD oO oQ eG qT : Nat) (oX rJ pN rP : Int32) (rX : Nat → Int32) (bZ bD bI aI : Int32) (wD gF qA nJ nY dQ : Nat → Int32) (jC eO eW dO fJ fY jD nG qF : Int32) (jJ : Nat → Int32) : va_W := [(a_x, .inr (9, [.ref xG, .ref xD, .ref wY, .ref wJ, .ref wQ, .ref xI, .ref xK, .ref xJ, .ref tW])), (xD, .inr (5, [.ref wY, .ref wJ, .ref uE, .ref qU, .ref uJ, .ref uL, .ref uI, .int oX, .int rJ, .int pN, .int rP])), (uE, .inl (cI, 8, .inl rX)), (wY, .inr (0, [.ref wJ, .ref wQ, .ref xH])), (wJ, .inr (3, [.ref tX, .ref jE, .ref mX, .ref pD, .ref oO, .ref oQ, .ref eG, .int bZ, .int bD, .int bI, .int aI])), (tX, .inl (cI, 16, .inl wD)), (jE, .inl (cI, 16, .inl gF)), (pD, .inl (cI, 16, .inl qA)), (oO, .inl (cI, 8, .inl nJ)), (oQ, .inl (cI, 8, .inl nY)), (eG, .inl (cI, 5, .inl dQ)), (wQ, .inr (2, [.int jC, .int eO, .int eW, .int dO, .int fJ, .int fY, .int jD, .int nG])), (xK, .inr (6, [.ref qT, .int qF])), (qT, .inl (cI, 16, .inl jJ))]
noncomputable abbrev q_X9_needed (dC : Nat → ClassId) (dI : Nat → Nat → Nat) (cI cC cZ cB cJ : ClassId) (A : Nat → Prop) (a_x xG xD wY wJ wQ xI xK xJ tW uE qU uJ uL uI xH tX jE mX pD oO oQ eG qT : Nat) (rJ pN rP bZ bD bI aI : Int32) (wD gF qA nJ nY dQ : Nat → Int32) (jC eO eW dO fJ fY jD nG : Int32) (post : Int32 → Int32 → (Nat → Int32) → Int32 → (Nat → Int32) → Prop) : Array Value → State → Outcome → State → Prop := va_Qi (fun (r : Int32) (u : Int32 × (Nat → Int32) × Int32 × (Nat → Int32)) => post r u.1 u.2.1 u.2.2.1 u.2.2.2) (fun u t => gB (dC, dI) (tyl cI cC cZ cB cJ) A (wd_X9_needed cI cC cZ cB cJ a_x xG xD wY wJ wQ xI xK xJ tW uE qU uJ uL uI xH tX jE mX pD oO oQ eG qT u.1 rJ pN rP u.2.1 bZ bD bI aI wD gF qA nJ nY dQ jC eO eW dO fJ fY jD nG u.2.2.1 u.2.2.2) t) A
noncomputable abbrev rm_X9_needed : Room := { frames := 5, cells := 0, slots := 0, locals := 115 }
section S_X9_needed
variable {p : Program} {l : Launch} {e : Env} {s : State} {m : MethodId} {args : Array Value} {below : List Frame} {meth : Method} {c : Code} {dC : Nat → ClassId} {dI : Nat → Nat → Nat} {cI cC cZ cB cJ : ClassId} {A : Nat → Prop} {a_x xG xD wY wJ wQ xI xK xJ tW uE qU uJ uL uI xH tX jE mX pD oO oQ eG qT : Nat} {rJ pN rP bZ bD bI aI : Int32} {wD gF qA nJ nY dQ : Nat → Int32} {jC eO eW dO fJ fY jD nG : Int32} {post : Int32 → Int32 → (Nat → Int32) → Int32 → (Nat → Int32) → Prop}
noncomputable def ws_X9_needed_76 (post : Int32 → Int32 → (Nat → Int32) → Int32 → (Nat → Int32) → Prop) (K13 : Int32 → Int32 → Int32 → Int32 → (Nat → Int32) → Int32 → (Nat → Int32) → Prop) (bZ bD : Int32) (wD gF qA nJ nY dQ : Nat → Int32) (jC eO eW fY jD x1 x2 x3 oX : Int32) (rX : Nat → Int32) (qF : Int32) (jJ : Nat → Int32) : Prop := ∀ v_10 : Int32, v_10 = x3 + 1 → K13 x1 x2 v_10 oX rX qF jJ
set_option maxHeartbeats 4000000 in
set_option maxRecDepth 100000 in
theorem ks_X9_needed_76 (C0 : gc cX9_needed (some .int) 6 RX9 (dC, dI) (tyl cI cC cZ cB cJ) A p s m args meth c) {K13 : Int32 → Int32 → Int32 → Int32 → (Nat → Int32) → Int32 → (Nat → Int32) → Prop} (hK13 : ∀ (x1 : Int32) (x2 : Int32) (x3 : Int32) (oX : Int32) (rX : Nat → Int32) (qF : Int32) (jJ : Nat → Int32) (H : Heap) (locs : List Loc) (ls : Array Slot), K13 x1 x2 x3 oX rX qF jJ → va_P (dC, dI) classes (wd_X9_needed cI cC cZ cB cJ a_x xG xD wY wJ wQ xI xK xJ tW uE qU uJ uL uI xH tX jE mX pD oO oQ eG qT oX rJ pN rP rX bZ bD bI aI wD gF qA nJ nY dQ jC eO eW dO fJ fY jD nG qF jJ) H → va_D A (wd_X9_needed cI cC cZ cB cJ a_x xG xD wY wJ wQ xI xK xJ tW uE qU uJ uL uI xH tX jE mX pD oO oQ eG qT oX rJ pN rP rX bZ bD bI aI wD gF qA nJ nY dQ jC eO eW dO fJ fY jD nG qF jJ) → va_S A s.heap H locs → lv_has ls 6 [(0, .ref a_x), (1, .int x1), (2, .int x2), (3, .int x3)] → W p l e rm_X9_needed s m args below meth c H locs 0 0 (MQ below (q_X9_needed dC dI cI cC cZ cB cJ A a_x xG xD wY wJ wQ xI xK xJ tW uE qU uJ uL uI xH tX jE mX pD oO oQ eG qT rJ pN rP bZ bD bI aI wD gF qA nJ nY dQ jC eO eW dO fJ fY jD nG post) args s 0 0 A) (F0 m 13 ls [])) : ∀ (x1 x2 x3 oX : Int32) (rX : Nat → Int32) (qF : Int32) (jJ : Nat → Int32) (H : Heap) (locs : List Loc) (ls : Array Slot), (ws_X9_needed_76 post K13 bZ bD wD gF qA nJ nY dQ jC eO eW fY jD) x1 x2 x3 oX rX qF jJ → va_P (dC, dI) classes (wd_X9_needed cI cC cZ cB cJ a_x xG xD wY wJ wQ xI xK xJ tW uE qU uJ uL uI xH tX jE mX pD oO oQ eG qT oX rJ pN rP rX bZ bD bI aI wD gF qA nJ nY dQ jC eO eW dO fJ fY jD nG qF jJ) H → va_D A (wd_X9_needed cI cC cZ cB cJ a_x xG xD wY wJ wQ xI xK xJ tW uE qU uJ uL uI xH tX jE mX pD oO oQ eG qT oX rJ pN rP rX bZ bD bI aI wD gF qA nJ nY dQ jC eO eW dO fJ fY jD nG qF jJ) → va_S A s.heap H locs → lv_has ls 6 [(0, .ref a_x), (1, .int x1), (2, .int x2), (3, .int x3)] → W p l e rm_X9_needed s m args below meth c H locs 0 0 (MQ below (q_X9_needed dC dI cI cC cZ cB cJ A a_x xG xD wY wJ wQ xI xK xJ tW uE qU uJ uL uI xH tX jE mX pD oO oQ eG qT rJ pN rP bZ bD bI aI wD gF qA nJ nY dQ jC eO eW dO fJ fY jD nG post) args s 0 0 A) (F0 m 76 ls []) := by
  obtain ⟨hx, hb, hr, hml, hown, hts, hlocks, hA, hK, hN, tL, tM, hZL, hTL, hZM, hTM, hZX⟩ := id C0
  intro x1 x2 x3 oX rX qF jJ H locs ls hp hP hD hS hl
  unfold ws_X9_needed_76 at hp
  obtain ⟨v_10, ev_10⟩ : ∃ y : Int32, y = x3 + 1 := ⟨_, rfl⟩
  refine lv_iinc (v := v_10) (lv' := [(3, .int v_10), (0, .ref a_x), (1, .int x1), (2, .int x2)]) hx hb eX9_needed_56.2.2.2.2.2.2.2.2.2.2.2.2.2.2.2 hl (k := 3) rfl (by rw [ev_10]; rfl) (by decide) rfl (fun ls hl => ?_)
  have hp := hp v_10 ev_10
  refine lv_goto (tgt := 13) hx hb eX9_needed_79.1 (by decide) ?_
  exact hK13 x1 x2 v_10 oX rX qF jJ H locs ls hp hP hD hS (lv_sub hl [1, 2, 3, 0] rfl)
noncomputable def ws_X9_needed_13 (post : Int32 → Int32 → (Nat → Int32) → Int32 → (Nat → Int32) → Prop) (next : Int32 → Int32 → Int32 → Int32 → (Nat → Int32) → Int32 → (Nat → Int32) → Prop) (bZ bD : Int32) (wD gF qA nJ nY dQ : Nat → Int32) (jC eO eW fY jD x1 x2 x3 oX : Int32) (rX : Nat → Int32) (qF : Int32) (jJ : Nat → Int32) : Prop := (bD ≤ x3 → wp_X9_tell (fun aAq zE => post x1 oX rX aAq zE) x2 qF jJ) ∧ (¬ bD ≤ x3 → wp_X3_allStandings (fun r_5 => ∀ v_6 : Int32, v_6 = 1 <<< (x3 &&& 31) → ∀ v_7 : Int32, v_7 = r_5 &&& (v_6 ^^^ (-1)) → wp_X5_reachedBy (fun r_8 => ∀ v_9 : Int32, v_9 = oX &&& (r_8 ^^^ (-1)) → (v_9 = 0 → ws_X9_needed_76 post next bZ bD wD gF qA nJ nY dQ jC eO eW fY jD x1 x2 x3 oX rX qF jJ) ∧ (¬ v_9 = 0 → ∀ v_11 : Int32, v_11 = x1 ||| (1 <<< (x3 &&& 31)) → ∀ v_12 : Int32, v_12 = x2 ||| v_9 → ws_X9_needed_76 post next bZ bD wD gF qA nJ nY dQ jC eO eW fY jD v_11 v_12 x3 oX rX qF jJ)) v_7 rX bD) bD)
noncomputable def wb_X9_needed_13 (post : Int32 → Int32 → (Nat → Int32) → Int32 → (Nat → Int32) → Prop) (bZ bD : Int32) (wD gF qA nJ nY dQ : Nat → Int32) (jC eO eW fY jD : Int32) : Nat → Int32 → Int32 → Int32 → Int32 → (Nat → Int32) → Int32 → (Nat → Int32) → Prop := fun n => Nat.rec (motive := fun _ => Int32 → Int32 → Int32 → Int32 → (Nat → Int32) → Int32 → (Nat → Int32) → Prop) (fun _ _ _ _ _ _ _ => False) (fun _ ih => ws_X9_needed_13 post ih bZ bD wD gF qA nJ nY dQ jC eO eW fY jD) n
set_option maxHeartbeats 4000000 in
set_option maxRecDepth 100000 in
theorem ks_X9_needed_13 (C0 : gc cX9_needed (some .int) 6 RX9 (dC, dI) (tyl cI cC cZ cB cJ) A p s m args meth c) {next : Int32 → Int32 → Int32 → Int32 → (Nat → Int32) → Int32 → (Nat → Int32) → Prop} (hKn : ∀ (x1 : Int32) (x2 : Int32) (x3 : Int32) (oX : Int32) (rX : Nat → Int32) (qF : Int32) (jJ : Nat → Int32) (H : Heap) (locs : List Loc) (ls : Array Slot), next x1 x2 x3 oX rX qF jJ → va_P (dC, dI) classes (wd_X9_needed cI cC cZ cB cJ a_x xG xD wY wJ wQ xI xK xJ tW uE qU uJ uL uI xH tX jE mX pD oO oQ eG qT oX rJ pN rP rX bZ bD bI aI wD gF qA nJ nY dQ jC eO eW dO fJ fY jD nG qF jJ) H → va_D A (wd_X9_needed cI cC cZ cB cJ a_x xG xD wY wJ wQ xI xK xJ tW uE qU uJ uL uI xH tX jE mX pD oO oQ eG qT oX rJ pN rP rX bZ bD bI aI wD gF qA nJ nY dQ jC eO eW dO fJ fY jD nG qF jJ) → va_S A s.heap H locs → lv_has ls 6 [(0, .ref a_x), (1, .int x1), (2, .int x2), (3, .int x3)] → W p l e rm_X9_needed s m args below meth c H locs 0 0 (MQ below (q_X9_needed dC dI cI cC cZ cB cJ A a_x xG xD wY wJ wQ xI xK xJ tW uE qU uJ uL uI xH tX jE mX pD oO oQ eG qT rJ pN rP bZ bD bI aI wD gF qA nJ nY dQ jC eO eW dO fJ fY jD nG post) args s 0 0 A) (F0 m 13 ls [])) : ∀ (x1 x2 x3 oX : Int32) (rX : Nat → Int32) (qF : Int32) (jJ : Nat → Int32) (H : Heap) (locs : List Loc) (ls : Array Slot), (ws_X9_needed_13 post next bZ bD wD gF qA nJ nY dQ jC eO eW fY jD) x1 x2 x3 oX rX qF jJ → va_P (dC, dI) classes (wd_X9_needed cI cC cZ cB cJ a_x xG xD wY wJ wQ xI xK xJ tW uE qU uJ uL uI xH tX jE mX pD oO oQ eG qT oX rJ pN rP rX bZ bD bI aI wD gF qA nJ nY dQ jC eO eW dO fJ fY jD nG qF jJ) H → va_D A (wd_X9_needed cI cC cZ cB cJ a_x xG xD wY wJ wQ xI xK xJ tW uE qU uJ uL uI xH tX jE mX pD oO oQ eG qT oX rJ pN rP rX bZ bD bI aI wD gF qA nJ nY dQ jC eO eW dO fJ fY jD nG qF jJ) → va_S A s.heap H locs → lv_has ls 6 [(0, .ref a_x), (1, .int x1), (2, .int x2), (3, .int x3)] → W p l e rm_X9_needed s m args below meth c H locs 0 0 (MQ below (q_X9_needed dC dI cI cC cZ cB cJ A a_x xG xD wY wJ wQ xI xK xJ tW uE qU uJ uL uI xH tX jE mX pD oO oQ eG qT rJ pN rP bZ bD bI aI wD gF qA nJ nY dQ jC eO eW dO fJ fY jD nG post) args s 0 0 A) (F0 m 13 ls []) := by
  obtain ⟨hx, hb, hr, hml, hown, hts, hlocks, hA, hK, hN, tL, tM, hZL, hTL, hZM, hTM, hZX⟩ := id C0
  intro x1 x2 x3 oX rX qF jJ H locs ls hp hP hD hS hl
  unfold ws_X9_needed_13 at hp
  refine lv_iload_n hx hb eX9_needed_0.2.2.2.2.2.2.2.2.2.1 rfl (lv_at hl 3 rfl) ?_
  refine lv_aload_n hx hb eX9_needed_0.2.2.2.2.2.2.2.2.2.2.1 rfl (lv_at hl 0 rfl) ?_
  refine va_get (D := (dC, dI)) (ci := 9) (v := .ref wJ) (C := RX9) (T := TX9) (N := 9) hx hb hts i_X9 hown hK hP 0 rfl rfl 3 (Nat.le_of_ble_eq_true rfl) (hts _ q_74) (fun _ h9 => h9) rfl eX9_needed_0.2.2.2.2.2.2.2.2.2.2.2.1 ?_
  refine va_get (D := (dC, dI)) (ci := 3) (v := .int bD) (C := RX3) (T := TX3) (N := 11) hx hb hts i_X3 hown hK hP 4 rfl rfl 8 (Nat.le_of_ble_eq_true rfl) (hts _ q_415) (fun _ h9 => h9) rfl eX9_needed_0.2.2.2.2.2.2.2.2.2.2.2.2.1 ?_
  refine lv_icmp_ge (tgt := 82) hx hb eX9_needed_0.2.2.2.2.2.2.2.2.2.2.2.2.2.1 (by decide) (fun hc => ?_) (fun hc => ?_)
  · have hp := hp.1 hc
    refine lv_aload_n hx hb eX9_needed_79.2.1 rfl (lv_at hl 0 rfl) ?_
    refine lv_iload_n hx hb eX9_needed_79.2.2.1 rfl (lv_at hl 2 rfl) ?_
    have hm := mgk (wc := (wd_X9_tell cI cC cZ cB cJ a_x xG xD wY wJ wQ xI xK xJ tW qT qF jJ)) hP aBp 14 rfl rfl rfl
    refine g_callv hP hD hS hA (mixT aBp) (mixF aBp) hm.1 hm.2 (nd_F _) (dis_g _) (g_runV (As := [.int x2]) (rest := []) C0 hP hD hS (mixT aBp) hm.1 (nd_T _) 0 9 rfl rfl (c_X9_tell l dC dI cI cC cZ cB cJ a_x xG xD wY wJ wQ xI xK xJ tW qT H.size x2 qF jJ _ hp) q_373 q_376 q_374 q_375 q_256 h_X9_tell rfl rfl ⟨Nat.le_of_ble_eq_true rfl, Nat.le_of_ble_eq_true rfl⟩ rfl rfl hl.1 rfl (lv_room (Nat.le_of_ble_eq_true rfl)) eX9_needed_79.2.2.2.1 ⟨Nat.zero_le _, Nat.zero_le _⟩) (fun u H locs hp hP hD hS => ?_)
    obtain ⟨aAq, zE⟩ := u
    have hPD := PDm (ws' := (wd_X9_needed cI cC cZ cB cJ a_x xG xD wY wJ wQ xI xK xJ tW uE qU uJ uL uI xH tX jE mX pD oO oQ eG qT oX rJ pN rP rX bZ bD bI aI wD gF qA nJ nY dQ jC eO eW dO fJ fY jD nG aAq zE)) hP hD 14 rfl rfl rfl
    have hP := hPD.1
    have hD := hPD.2
    refine lv_iload_n hx hb eX9_needed_79.2.2.2.2.1 rfl (lv_at hl 1 rfl) ?_
    exact W.iret (v := x1) hx hb hr (fun t ht hW => ⟨⟨x1, (oX, rX, aAq, zE), rfl, hp, by rw [ht]; exact hP, va_K.moved hW.alike hK, hD⟩, hS.F ht⟩) hS.2.2 eX9_needed_79.2.2.2.2.2
  · have hp := hp.2 hc
    refine lv_aload_n hx hb eX9_needed_0.2.2.2.2.2.2.2.2.2.2.2.2.2.2.1 rfl (lv_at hl 0 rfl) ?_
    refine va_get (D := (dC, dI)) (ci := 9) (v := .ref wJ) (C := RX9) (T := TX9) (N := 9) hx hb hts i_X9 hown hK hP 0 rfl rfl 3 (Nat.le_of_ble_eq_true rfl) (hts _ q_74) (fun _ h9 => h9) rfl eX9_needed_0.2.2.2.2.2.2.2.2.2.2.2.2.2.2.2 ?_
    have hm := mgk (wc := (wd_X3_allStandings cI cC cZ cB cJ wJ tX jE mX pD oO oQ eG bZ bD bI aI)) hP aAB 14 rfl rfl rfl
    refine g_calli hP hD hS hA (mixT aAB) (mixF aAB) hm.1 hm.2 (nd_F _) (dis_g _) (g_runV (As := []) (rest := []) C0 hP hD hS (mixT aAB) hm.1 (nd_T _) 4 3 rfl rfl (c_X3_allStandings l dC dI cI cC cZ cB cJ wJ tX jE mX pD oO oQ eG H.size bZ bD bI aI _ hp) q_426 q_463 q_427 q_428 q_48 h_X3_allStandings rfl rfl ⟨Nat.le_of_ble_eq_true rfl, Nat.le_of_ble_eq_true rfl⟩ rfl rfl hl.1 rfl (lv_room (Nat.le_of_ble_eq_true rfl)) eX9_needed_28.1 ⟨Nat.zero_le _, Nat.zero_le _⟩) (fun r_5 u H locs hp hP hD hS => ?_)
    have hPD := PDm (ws' := (wd_X9_needed cI cC cZ cB cJ a_x xG xD wY wJ wQ xI xK xJ tW uE qU uJ uL uI xH tX jE mX pD oO oQ eG qT oX rJ pN rP rX bZ bD bI aI wD gF qA nJ nY dQ jC eO eW dO fJ fY jD nG qF jJ)) hP hD 14 rfl rfl rfl
    have hP := hPD.1
    have hD := hPD.2
    refine lv_iconst (v := 1) hx hb eX9_needed_28.2.1 ic_1 ?_
    refine lv_iload_n hx hb eX9_needed_28.2.2.1 rfl (lv_at hl 3 rfl) ?_
    refine lv_ishl hx hb eX9_needed_28.2.2.2.1 ?_
    refine lv_topi (fun v_6 ev_6 => ?_)
    have hp := hp v_6 ev_6
    refine lv_iconst (v := (-1)) hx hb eX9_needed_28.2.2.2.2.1 ic_m1 ?_
    refine lv_ixor hx hb eX9_needed_28.2.2.2.2.2.1 ?_
    refine lv_iand hx hb eX9_needed_28.2.2.2.2.2.2.1 ?_
    refine lv_topi (fun v_7 ev_7 => ?_)
    have hp := hp v_7 ev_7
    refine lv_istore (lv' := [(4, .int v_7), (0, .ref a_x), (1, .int x1), (2, .int x2), (3, .int x3)]) hx hb eX9_needed_28.2.2.2.2.2.2.2.1 hl (by decide) rfl (fun ls hl => ?_)
    refine lv_aload_n hx hb eX9_needed_28.2.2.2.2.2.2.2.2.1 rfl (lv_at hl 1 rfl) ?_
    refine va_get (D := (dC, dI)) (ci := 9) (v := .ref xD) (C := RX9) (T := TX9) (N := 9) hx hb hts i_X9 hown hK hP 0 rfl rfl 1 (Nat.le_of_ble_eq_true rfl) (hts _ q_444) (fun _ h9 => h9) rfl eX9_needed_28.2.2.2.2.2.2.2.2.2.1 ?_
    refine va_get (D := (dC, dI)) (ci := 5) (v := .int oX) (C := RX5) (T := TX5) (N := 11) hx hb hts i_X5 hown hK hP 1 rfl rfl 7 (Nat.le_of_ble_eq_true rfl) (hts _ q_462) (fun _ h9 => h9) rfl eX9_needed_28.2.2.2.2.2.2.2.2.2.2.1 ?_
    refine lv_aload_n hx hb eX9_needed_28.2.2.2.2.2.2.2.2.2.2.2.1 rfl (lv_at hl 1 rfl) ?_
    refine va_get (D := (dC, dI)) (ci := 9) (v := .ref xD) (C := RX9) (T := TX9) (N := 9) hx hb hts i_X9 hown hK hP 0 rfl rfl 1 (Nat.le_of_ble_eq_true rfl) (hts _ q_444) (fun _ h9 => h9) rfl eX9_needed_28.2.2.2.2.2.2.2.2.2.2.2.2.1 ?_
    refine lv_iload hx hb eX9_needed_28.2.2.2.2.2.2.2.2.2.2.2.2.2.1 (lv_at hl 0 rfl) ?_
    have hm := mgk (wc := (wd_X5_reachedBy cI cC cZ cB cJ xD wY wJ uE qU uJ uL uI tX jE mX pD oO oQ eG oX rJ pN rP rX bZ bD bI aI)) hP aBq 14 rfl rfl rfl
    refine g_calli hP hD hS hA (mixT aBq) (mixF aBq) hm.1 hm.2 (nd_F _) (dis_g _) (g_runV (As := [.int v_7]) (rest := [.int oX]) C0 hP hD hS (mixT aBq) hm.1 (nd_T _) 1 5 rfl rfl (c_X5_reachedBy l dC dI cI cC cZ cB cJ xD wY wJ uE qU uJ uL uI tX jE mX pD oO oQ eG H.size v_7 oX rJ pN rP rX bZ bD bI aI _ hp) q_430 q_472 q_432 q_433 q_431 h_X5_reachedBy rfl rfl ⟨Nat.le_of_ble_eq_true rfl, Nat.le_of_ble_eq_true rfl⟩ rfl rfl hl.1 rfl (lv_room (Nat.le_of_ble_eq_true rfl)) eX9_needed_28.2.2.2.2.2.2.2.2.2.2.2.2.2.2.1 ⟨Nat.zero_le _, Nat.zero_le _⟩) (fun r_8 u H locs hp hP hD hS => ?_)
    have hPD := PDm (ws' := (wd_X9_needed cI cC cZ cB cJ a_x xG xD wY wJ wQ xI xK xJ tW uE qU uJ uL uI xH tX jE mX pD oO oQ eG qT oX rJ pN rP rX bZ bD bI aI wD gF qA nJ nY dQ jC eO eW dO fJ fY jD nG qF jJ)) hP hD 14 rfl rfl rfl
    have hP := hPD.1
    have hD := hPD.2
    refine lv_iconst (v := (-1)) hx hb eX9_needed_28.2.2.2.2.2.2.2.2.2.2.2.2.2.2.2 ic_m1 ?_
    refine lv_ixor hx hb eX9_needed_56.1 ?_
    refine lv_iand hx hb eX9_needed_56.2.1 ?_
    refine lv_topi (fun v_9 ev_9 => ?_)
    have hp := hp v_9 ev_9
    refine lv_istore (lv' := [(5, .int v_9), (4, .int v_7), (0, .ref a_x), (1, .int x1), (2, .int x2), (3, .int x3)]) hx hb eX9_needed_56.2.2.1 hl (by decide) rfl (fun ls hl => ?_)
    refine lv_iload hx hb eX9_needed_56.2.2.2.1 (lv_at hl 0 rfl) ?_
    refine lv_if_eq (tgt := 76) hx hb eX9_needed_56.2.2.2.2.1 (by decide) (fun hc => ?_) (fun hc => ?_)
    · have hp := hp.1 hc
      exact ks_X9_needed_76 C0 hKn x1 x2 x3 oX rX qF jJ H locs ls hp hP hD hS (lv_sub hl [2, 3, 4, 5] rfl)
    · have hp := hp.2 hc
      refine lv_iload_n hx hb eX9_needed_56.2.2.2.2.2.1 rfl (lv_at hl 3 rfl) ?_
      refine lv_iconst (v := 1) hx hb eX9_needed_56.2.2.2.2.2.2.1 ic_1 ?_
      refine lv_iload_n hx hb eX9_needed_56.2.2.2.2.2.2.2.1 rfl (lv_at hl 5 rfl) ?_
      refine lv_ishl hx hb eX9_needed_56.2.2.2.2.2.2.2.2.1 ?_
      refine lv_ior hx hb eX9_needed_56.2.2.2.2.2.2.2.2.2.1 ?_
      refine lv_topi (fun v_11 ev_11 => ?_)
      have hp := hp v_11 ev_11
      refine lv_istore_n (lv' := [(1, .int v_11), (5, .int v_9), (4, .int v_7), (0, .ref a_x), (2, .int x2), (3, .int x3)]) hx hb eX9_needed_56.2.2.2.2.2.2.2.2.2.2.1 rfl hl (by decide) rfl (fun ls hl => ?_)
      refine lv_iload_n hx hb eX9_needed_56.2.2.2.2.2.2.2.2.2.2.2.1 rfl (lv_at hl 4 rfl) ?_
      refine lv_iload hx hb eX9_needed_56.2.2.2.2.2.2.2.2.2.2.2.2.1 (lv_at hl 1 rfl) ?_
      refine lv_ior hx hb eX9_needed_56.2.2.2.2.2.2.2.2.2.2.2.2.2.1 ?_
      refine lv_topi (fun v_12 ev_12 => ?_)
      have hp := hp v_12 ev_12
      refine lv_istore_n (lv' := [(2, .int v_12), (1, .int v_11), (5, .int v_9), (4, .int v_7), (0, .ref a_x), (3, .int x3)]) hx hb eX9_needed_56.2.2.2.2.2.2.2.2.2.2.2.2.2.2.1 rfl hl (by decide) rfl (fun ls hl => ?_)
      exact ks_X9_needed_76 C0 hKn v_11 v_12 x3 oX rX qF jJ H locs ls hp hP hD hS (lv_sub hl [4, 1, 0, 5] rfl)
set_option maxHeartbeats 4000000 in
set_option maxRecDepth 100000 in
theorem kb_X9_needed_13 (C0 : gc cX9_needed (some .int) 6 RX9 (dC, dI) (tyl cI cC cZ cB cJ) A p s m args meth c) : ∀ (n : Nat), ∀ (x1 x2 x3 oX : Int32) (rX : Nat → Int32) (qF : Int32) (jJ : Nat → Int32) (H : Heap) (locs : List Loc) (ls : Array Slot), (wb_X9_needed_13 post bZ bD wD gF qA nJ nY dQ jC eO eW fY jD n) x1 x2 x3 oX rX qF jJ → va_P (dC, dI) classes (wd_X9_needed cI cC cZ cB cJ a_x xG xD wY wJ wQ xI xK xJ tW uE qU uJ uL uI xH tX jE mX pD oO oQ eG qT oX rJ pN rP rX bZ bD bI aI wD gF qA nJ nY dQ jC eO eW dO fJ fY jD nG qF jJ) H → va_D A (wd_X9_needed cI cC cZ cB cJ a_x xG xD wY wJ wQ xI xK xJ tW uE qU uJ uL uI xH tX jE mX pD oO oQ eG qT oX rJ pN rP rX bZ bD bI aI wD gF qA nJ nY dQ jC eO eW dO fJ fY jD nG qF jJ) → va_S A s.heap H locs → lv_has ls 6 [(0, .ref a_x), (1, .int x1), (2, .int x2), (3, .int x3)] → W p l e rm_X9_needed s m args below meth c H locs 0 0 (MQ below (q_X9_needed dC dI cI cC cZ cB cJ A a_x xG xD wY wJ wQ xI xK xJ tW uE qU uJ uL uI xH tX jE mX pD oO oQ eG qT rJ pN rP bZ bD bI aI wD gF qA nJ nY dQ jC eO eW dO fJ fY jD nG post) args s 0 0 A) (F0 m 13 ls []) := by
  intro n
  induction n with
  | zero =>
    intro x1 x2 x3 oX rX qF jJ H locs ls hp
    exact False.elim hp
  | succ n ih =>
    intro x1 x2 x3 oX rX qF jJ H locs ls hp
    exact ks_X9_needed_13 C0 ih x1 x2 x3 oX rX qF jJ H locs ls hp
end S_X9_needed
noncomputable def wp_X9_needed (post : Int32 → Int32 → (Nat → Int32) → Int32 → (Nat → Int32) → Prop) (oX : Int32) (rX : Nat → Int32) (bZ bD : Int32) (wD gF qA nJ nY dQ : Nat → Int32) (jC eO eW fY jD qF : Int32) (jJ : Nat → Int32) : Prop := wp_X5_look (fun xM xQ => ∃ n : Nat, wb_X9_needed_13 post bZ bD wD gF qA nJ nY dQ jC eO eW fY jD n 0 0 0 xM xQ qF jJ) oX rX bZ bD wD gF qA nJ nY dQ jC eO eW fY jD
set_option maxHeartbeats 4000000 in
set_option maxRecDepth 100000 in
theorem c_X9_needed (l : Launch) (dC : Nat → ClassId) (dI : Nat → Nat → Nat) (cI cC cZ cB cJ : ClassId) (a_x xG xD wY wJ wQ xI xK xJ tW uE qU uJ uL uI xH tX jE mX pD oO oQ eG qT sz : Nat) (oX rJ pN rP : Int32) (rX : Nat → Int32) (bZ bD bI aI : Int32) (wD gF qA nJ nY dQ : Nat → Int32) (jC eO eW dO fJ fY jD nG qF : Int32) (jJ : Nat → Int32) (post : Int32 → Int32 → (Nat → Int32) → Int32 → (Nat → Int32) → Prop) (hw : wp_X9_needed post oX rX bZ bD wD gF qA nJ nY dQ jC eO eW fY jD qF jJ) : Met l yX9_needed (gw yX9_needed cX9_needed 6 (some .int)) rm_X9_needed (va_Pc [.ref a_x] (gPre (dC, dI) (tyl cI cC cZ cB cJ) (wd_X9_needed cI cC cZ cB cJ a_x xG xD wY wJ wQ xI xK xJ tW uE qU uJ uL uI xH tX jE mX pD oO oQ eG qT oX rJ pN rP rX bZ bD bI aI wD gF qA nJ nY dQ jC eO eW dO fJ fY jD nG qF jJ) sz)) (q_X9_needed dC dI cI cC cZ cB cJ (va_A (wd_X9_needed cI cC cZ cB cJ a_x xG xD wY wJ wQ xI xK xJ tW uE qU uJ uL uI xH tX jE mX pD oO oQ eG qT oX rJ pN rP rX bZ bD bI aI wD gF qA nJ nY dQ jC eO eW dO fJ fY jD nG qF jJ) sz) a_x xG xD wY wJ wQ xI xK xJ tW uE qU uJ uL uI xH tX jE mX pD oO oQ eG qT rJ pN rP bZ bD bI aI wD gF qA nJ nY dQ jC eO eW dO fJ fY jD nG post) 0 0 (va_A (wd_X9_needed cI cC cZ cB cJ a_x xG xD wY wJ wQ xI xK xJ tW uE qU uJ uL uI xH tX jE mX pD oO oQ eG qT oX rJ pN rP rX bZ bD bI aI wD gF qA nJ nY dQ jC eO eW dO fJ fY jD nG qF jJ) sz) := by
  refine g_enter (own := RX9) (dC, dI) (tyl cI cC cZ cB cJ) (wd_X9_needed cI cC cZ cB cJ a_x xG xD wY wJ wQ xI xK xJ tW uE qU uJ uL uI xH tX jE mX pD oO oQ eG qT oX rJ pN rP rX bZ bD bI aI wD gF qA nJ nY dQ jC eO eW dO fJ fY jD nG qF jJ) sz [.ref a_x] (fun A => q_X9_needed dC dI cI cC cZ cB cJ A a_x xG xD wY wJ wQ xI xK xJ tW uE qU uJ uL uI xH tX jE mX pD oO oQ eG qT rJ pN rP bZ bD bI aI wD gF qA nJ nY dQ jC eO eW dO fJ fY jD nG post) pn_RX9 rfl (Nat.le_of_ble_eq_true rfl) ?_
  intro p e s m args below meth c A H locs ls C0 hP hD hS hl
  have hl : lv_has ls 6 [(0, .ref a_x)] := hl
  obtain ⟨hx, hb, hr, hml, hown, hts, hlocks, hA, hK, hN, tL, tM, hZL, hTL, hZM, hTM, hZX⟩ := id C0
  have hp := hw
  unfold wp_X9_needed at hp
  refine lv_aload_n hx hb eX9_needed_0.1 rfl (lv_at hl 0 rfl) ?_
  refine va_get (D := (dC, dI)) (ci := 9) (v := .ref xD) (C := RX9) (T := TX9) (N := 9) hx hb hts i_X9 hown hK hP 0 rfl rfl 1 (Nat.le_of_ble_eq_true rfl) (hts _ q_444) (fun _ h9 => h9) rfl eX9_needed_0.2.1 ?_
  have hm := mgk (wc := (wd_X5_look cI cC cZ cB cJ xD wY wJ uE qU uJ uL uI wQ xH tX jE mX pD oO oQ eG oX rJ pN rP rX bZ bD bI aI wD gF qA nJ nY dQ jC eO eW dO fJ fY jD nG)) hP aA9 14 rfl rfl rfl
  refine g_callv hP hD hS hA (mixT aA9) (mixF aA9) hm.1 hm.2 (nd_F _) (dis_g _) (g_runV (As := []) (rest := []) C0 hP hD hS (mixT aA9) hm.1 (nd_T _) 1 5 rfl rfl (c_X5_look l dC dI cI cC cZ cB cJ xD wY wJ uE qU uJ uL uI wQ xH tX jE mX pD oO oQ eG H.size oX rJ pN rP rX bZ bD bI aI wD gF qA nJ nY dQ jC eO eW dO fJ fY jD nG _ hp) q_445 q_448 q_446 q_447 q_431 h_X5_look rfl rfl ⟨Nat.le_of_ble_eq_true rfl, Nat.le_of_ble_eq_true rfl⟩ rfl rfl hl.1 rfl (lv_room (Nat.le_of_ble_eq_true rfl)) eX9_needed_0.2.2.1 ⟨Nat.zero_le _, Nat.zero_le _⟩) (fun u H locs hp hP hD hS => ?_)
  obtain ⟨xM, xQ⟩ := u
  have hPD := PDm (ws' := (wd_X9_needed cI cC cZ cB cJ a_x xG xD wY wJ wQ xI xK xJ tW uE qU uJ uL uI xH tX jE mX pD oO oQ eG qT xM rJ pN rP xQ bZ bD bI aI wD gF qA nJ nY dQ jC eO eW dO fJ fY jD nG qF jJ)) hP hD 14 rfl rfl rfl
  have hP := hPD.1
  have hD := hPD.2
  refine lv_iconst (v := 0) hx hb eX9_needed_0.2.2.2.1 ic_0 ?_
  refine lv_istore_n (lv' := [(1, .int 0), (0, .ref a_x)]) hx hb eX9_needed_0.2.2.2.2.1 rfl hl (by decide) rfl (fun ls hl => ?_)
  refine lv_iconst (v := 0) hx hb eX9_needed_0.2.2.2.2.2.1 ic_0 ?_
  refine lv_istore_n (lv' := [(2, .int 0), (1, .int 0), (0, .ref a_x)]) hx hb eX9_needed_0.2.2.2.2.2.2.1 rfl hl (by decide) rfl (fun ls hl => ?_)
  refine lv_iconst (v := 0) hx hb eX9_needed_0.2.2.2.2.2.2.2.1 ic_0 ?_
  refine lv_istore_n (lv' := [(3, .int 0), (2, .int 0), (1, .int 0), (0, .ref a_x)]) hx hb eX9_needed_0.2.2.2.2.2.2.2.2.1 rfl hl (by decide) rfl (fun ls hl => ?_)
  obtain ⟨n9, hp⟩ := hp
  exact kb_X9_needed_13 C0 n9 0 0 0 xM xQ qF jJ H locs ls hp hP hD hS (lv_sub hl [3, 2, 1, 0] rfl)
noncomputable abbrev wd_X5_worthLeft (cI cC cZ cB cJ : ClassId) (xD wY wJ uE qU uJ uL uI wQ xH tX jE mX pD oO oQ eG : Nat) (oX rJ pN rP : Int32) (rX : Nat → Int32) (bZ bD bI aI : Int32) (pE : Nat → Int32) (jC eO eW dO fJ fY jD nG : Int32) : va_W := [(xD, .inr (5, [.ref wY, .ref wJ, .ref uE, .ref qU, .ref uJ, .ref uL, .ref uI, .int oX, .int rJ, .int pN, .int rP])), (uE, .inl (cI, 8, .inl rX)), (wY, .inr (0, [.ref wJ, .ref wQ, .ref xH])), (wJ, .inr (3, [.ref tX, .ref jE, .ref mX, .ref pD, .ref oO, .ref oQ, .ref eG, .int bZ, .int bD, .int bI, .int aI])), (mX, .inl (cI, 16, .inl pE)), (wQ, .inr (2, [.int jC, .int eO, .int eW, .int dO, .int fJ, .int fY, .int jD, .int nG]))]
noncomputable abbrev q_X5_worthLeft (dC : Nat → ClassId) (dI : Nat → Nat → Nat) (cI cC cZ cB cJ : ClassId) (A : Nat → Prop) (xD wY wJ uE qU uJ uL uI wQ xH tX jE mX pD oO oQ eG : Nat) (oX rJ pN rP : Int32) (rX : Nat → Int32) (bZ bD bI aI : Int32) (pE : Nat → Int32) (jC eO eW dO fJ fY jD nG : Int32) (post : Int32 → Prop) : Array Value → State → Outcome → State → Prop := va_Qi (fun (r : Int32) (u : Unit) => post r) (fun u t => gB (dC, dI) (tyl cI cC cZ cB cJ) A (wd_X5_worthLeft cI cC cZ cB cJ xD wY wJ uE qU uJ uL uI wQ xH tX jE mX pD oO oQ eG oX rJ pN rP rX bZ bD bI aI pE jC eO eW dO fJ fY jD nG) t) A
noncomputable abbrev rm_X5_worthLeft : Room := { frames := 2, cells := 0, slots := 0, locals := 45 }
noncomputable def wp_X5_worthLeft (post : Int32 → Prop) (p0 oX : Int32) (rX : Nat → Int32) (bZ bD : Int32) (pE : Nat → Int32) (dO : Int32) : Prop := wp_X5_reachedBy (fun r_1 => ∀ v_2 : Int32, v_2 = oX &&& (r_1 ^^^ (-1)) → wp_X0_worthOf (fun r_3 => post r_3) v_2 bZ pE dO) p0 rX bD
set_option maxHeartbeats 4000000 in
set_option maxRecDepth 100000 in
theorem c_X5_worthLeft (l : Launch) (dC : Nat → ClassId) (dI : Nat → Nat → Nat) (cI cC cZ cB cJ : ClassId) (xD wY wJ uE qU uJ uL uI wQ xH tX jE mX pD oO oQ eG sz : Nat) (p0 oX rJ pN rP : Int32) (rX : Nat → Int32) (bZ bD bI aI : Int32) (pE : Nat → Int32) (jC eO eW dO fJ fY jD nG : Int32) (post : Int32 → Prop) (hw : wp_X5_worthLeft post p0 oX rX bZ bD pE dO) : Met l yX5_worthLeft (gw yX5_worthLeft cX5_worthLeft 2 (some .int)) rm_X5_worthLeft (va_Pc [.ref xD, .int p0] (gPre (dC, dI) (tyl cI cC cZ cB cJ) (wd_X5_worthLeft cI cC cZ cB cJ xD wY wJ uE qU uJ uL uI wQ xH tX jE mX pD oO oQ eG oX rJ pN rP rX bZ bD bI aI pE jC eO eW dO fJ fY jD nG) sz)) (q_X5_worthLeft dC dI cI cC cZ cB cJ (va_A (wd_X5_worthLeft cI cC cZ cB cJ xD wY wJ uE qU uJ uL uI wQ xH tX jE mX pD oO oQ eG oX rJ pN rP rX bZ bD bI aI pE jC eO eW dO fJ fY jD nG) sz) xD wY wJ uE qU uJ uL uI wQ xH tX jE mX pD oO oQ eG oX rJ pN rP rX bZ bD bI aI pE jC eO eW dO fJ fY jD nG post) 0 0 (va_A (wd_X5_worthLeft cI cC cZ cB cJ xD wY wJ uE qU uJ uL uI wQ xH tX jE mX pD oO oQ eG oX rJ pN rP rX bZ bD bI aI pE jC eO eW dO fJ fY jD nG) sz) := by
  refine g_enter (own := RX5) (dC, dI) (tyl cI cC cZ cB cJ) (wd_X5_worthLeft cI cC cZ cB cJ xD wY wJ uE qU uJ uL uI wQ xH tX jE mX pD oO oQ eG oX rJ pN rP rX bZ bD bI aI pE jC eO eW dO fJ fY jD nG) sz [.ref xD, .int p0] (fun A => q_X5_worthLeft dC dI cI cC cZ cB cJ A xD wY wJ uE qU uJ uL uI wQ xH tX jE mX pD oO oQ eG oX rJ pN rP rX bZ bD bI aI pE jC eO eW dO fJ fY jD nG post) pn_RX5 rfl (Nat.le_of_ble_eq_true rfl) ?_
  intro p e s m args below meth c A H locs ls C0 hP hD hS hl
  have hl : lv_has ls 2 [(0, .ref xD), (1, .int p0)] := hl
  obtain ⟨hx, hb, hr, hml, hown, hts, hlocks, hA, hK, hN, tL, tM, hZL, hTL, hZM, hTM, hZX⟩ := id C0
  have hp := hw
  unfold wp_X5_worthLeft at hp
  refine lv_aload_n hx hb eX5_worthLeft_0.1 rfl (lv_at hl 0 rfl) ?_
  refine va_get (D := (dC, dI)) (ci := 5) (v := .ref wY) (C := RX5) (T := TX5) (N := 11) hx hb hts i_X5 hown hK hP 0 rfl rfl 0 (Nat.le_of_ble_eq_true rfl) (hts _ q_423) (fun _ h9 => h9) rfl eX5_worthLeft_0.2.1 ?_
  refine lv_aload_n hx hb eX5_worthLeft_0.2.2.1 rfl (lv_at hl 0 rfl) ?_
  refine va_get (D := (dC, dI)) (ci := 5) (v := .int oX) (C := RX5) (T := TX5) (N := 11) hx hb hts i_X5 hown hK hP 0 rfl rfl 7 (Nat.le_of_ble_eq_true rfl) (hts _ q_435) (fun _ h9 => h9) rfl eX5_worthLeft_0.2.2.2.1 ?_
  refine lv_aload_n hx hb eX5_worthLeft_0.2.2.2.2.1 rfl (lv_at hl 0 rfl) ?_
  refine lv_iload_n hx hb eX5_worthLeft_0.2.2.2.2.2.1 rfl (lv_at hl 1 rfl) ?_
  have hm := mgk (wc := (wd_X5_reachedBy cI cC cZ cB cJ xD wY wJ uE qU uJ uL uI tX jE mX pD oO oQ eG oX rJ pN rP rX bZ bD bI aI)) hP mk_124 6 rfl rfl rfl
  refine g_calli hP hD hS hA (mixT mk_124) (mixF mk_124) hm.1 hm.2 (nd_F _) (dis_g _) (g_runV (As := [.int p0]) (rest := [.int oX, .ref wY]) C0 hP hD hS (mixT mk_124) hm.1 (nd_T _) 0 5 rfl rfl (c_X5_reachedBy l dC dI cI cC cZ cB cJ xD wY wJ uE qU uJ uL uI tX jE mX pD oO oQ eG H.size p0 oX rJ pN rP rX bZ bD bI aI _ hp) q_430 q_434 q_432 q_433 q_431 h_X5_reachedBy rfl rfl ⟨Nat.le_of_ble_eq_true rfl, Nat.le_of_ble_eq_true rfl⟩ rfl rfl hl.1 rfl (lv_room (Nat.le_of_ble_eq_true rfl)) eX5_worthLeft_0.2.2.2.2.2.2.1 ⟨Nat.zero_le _, Nat.zero_le _⟩) (fun r_1 u H locs hp hP hD hS => ?_)
  have hPD := PDm (ws' := (wd_X5_worthLeft cI cC cZ cB cJ xD wY wJ uE qU uJ uL uI wQ xH tX jE mX pD oO oQ eG oX rJ pN rP rX bZ bD bI aI pE jC eO eW dO fJ fY jD nG)) hP hD 6 rfl rfl rfl
  have hP := hPD.1
  have hD := hPD.2
  refine lv_iconst (v := (-1)) hx hb eX5_worthLeft_0.2.2.2.2.2.2.2.1 ic_m1 ?_
  refine lv_ixor hx hb eX5_worthLeft_0.2.2.2.2.2.2.2.2.1 ?_
  refine lv_iand hx hb eX5_worthLeft_0.2.2.2.2.2.2.2.2.2.1 ?_
  refine lv_topi (fun v_2 ev_2 => ?_)
  have hp := hp v_2 ev_2
  have hm := mgk (wc := (wd_X0_worthOf cI cC cZ cB cJ wY wJ wQ xH tX jE mX pD oO oQ eG bZ bD bI aI pE jC eO eW dO fJ fY jD nG)) hP mk_125 6 rfl rfl rfl
  refine g_calli hP hD hS hA (mixT mk_125) (mixF mk_125) hm.1 hm.2 (nd_F _) (dis_g _) (g_runV (As := [.int v_2]) (rest := []) C0 hP hD hS (mixT mk_125) hm.1 (nd_T _) 2 0 rfl rfl (c_X0_worthOf l dC dI cI cC cZ cB cJ wY wJ wQ xH tX jE mX pD oO oQ eG H.size v_2 bZ bD bI aI pE jC eO eW dO fJ fY jD nG _ hp) q_297 q_473 q_298 q_299 q_187 h_X0_worthOf rfl rfl ⟨Nat.le_of_ble_eq_true rfl, Nat.le_of_ble_eq_true rfl⟩ rfl rfl hl.1 rfl (lv_room (Nat.le_of_ble_eq_true rfl)) eX5_worthLeft_0.2.2.2.2.2.2.2.2.2.2.1 ⟨Nat.zero_le _, Nat.zero_le _⟩) (fun r_3 u H locs hp hP hD hS => ?_)
  have hPD := PDm (ws' := (wd_X5_worthLeft cI cC cZ cB cJ xD wY wJ uE qU uJ uL uI wQ xH tX jE mX pD oO oQ eG oX rJ pN rP rX bZ bD bI aI pE jC eO eW dO fJ fY jD nG)) hP hD 6 rfl rfl rfl
  have hP := hPD.1
  have hD := hPD.2
  exact W.iret (v := r_3) hx hb hr (fun t ht hW => ⟨⟨r_3, (), rfl, hp, by rw [ht]; exact hP, va_K.moved hW.alike hK, hD⟩, hS.F ht⟩) hS.2.2 eX5_worthLeft_0.2.2.2.2.2.2.2.2.2.2.2
noncomputable abbrev wd_X9_isFewer (cI cC cZ cB cJ : ClassId) : va_W := []
noncomputable abbrev q_X9_isFewer (dC : Nat → ClassId) (dI : Nat → Nat → Nat) (cI cC cZ cB cJ : ClassId) (A : Nat → Prop) (post : Int32 → Prop) : Array Value → State → Outcome → State → Prop := va_Qi (fun (r : Int32) (u : Unit) => post r) (fun u t => gB (dC, dI) (tyl cI cC cZ cB cJ) A (wd_X9_isFewer cI cC cZ cB cJ) t) A
noncomputable abbrev rm_X9_isFewer : Room := { frames := 1, cells := 0, slots := 0, locals := 20 }
section S_X9_isFewer
variable {p : Program} {l : Launch} {e : Env} {s : State} {m : MethodId} {args : Array Value} {below : List Frame} {meth : Method} {c : Code} {dC : Nat → ClassId} {dI : Nat → Nat → Nat} {cI cC cZ cB cJ : ClassId} {A : Nat → Prop} {post : Int32 → Prop}
noncomputable def ws_X9_isFewer_23 (post : Int32 → Prop) : Prop := post 1
set_option maxHeartbeats 4000000 in
set_option maxRecDepth 100000 in
theorem ks_X9_isFewer_23 (C0 : gc cX9_isFewer (some .boolean) 3 RX9 (dC, dI) (tyl cI cC cZ cB cJ) A p s m args meth c) : ∀ (H : Heap) (locs : List Loc) (ls : Array Slot), (ws_X9_isFewer_23 post) → va_P (dC, dI) classes (wd_X9_isFewer cI cC cZ cB cJ) H → va_D A (wd_X9_isFewer cI cC cZ cB cJ) → va_S A s.heap H locs → lv_has ls 3 [] → W p l e rm_X9_isFewer s m args below meth c H locs 0 0 (MQ below (q_X9_isFewer dC dI cI cC cZ cB cJ A post) args s 0 0 A) (F0 m 23 ls []) := by
  obtain ⟨hx, hb, hr, hml, hown, hts, hlocks, hA, hK, hN, tL, tM, hZL, hTL, hZM, hTM, hZX⟩ := id C0
  intro H locs ls hp hP hD hS hl
  unfold ws_X9_isFewer_23 at hp
  refine lv_iconst (v := 1) hx hb eX9_isFewer_0.2.2.2.2.2.2.2.2.2.2.2.2.2.1 ic_1 ?_
  refine lv_goto (tgt := 28) hx hb eX9_isFewer_0.2.2.2.2.2.2.2.2.2.2.2.2.2.2.1 (by decide) ?_
  exact W.zret (v := 1) hx hb hr rfl (fun t ht hW => ⟨⟨1, (), rfl, hp, by rw [ht]; exact hP, va_K.moved hW.alike hK, hD⟩, hS.F ht⟩) hS.2.2 dX9_isFewer_28
end S_X9_isFewer
noncomputable def wp_X9_isFewer (post : Int32 → Prop) (p0 p1 : Int32) : Prop := wp_J6_bitCount_0f7a4 (fun r_1 => wp_J6_bitCount_0f7a4 (fun r_2 => ∀ v_3 : Int32, v_3 = r_1 - r_2 → (v_3 < 0 → ws_X9_isFewer_23 post) ∧ (¬ v_3 < 0 → (¬ v_3 = 0 → post 0) ∧ (v_3 = 0 → (p1 ≤ p0 → post 0) ∧ (¬ p1 ≤ p0 → ws_X9_isFewer_23 post)))) p1) p0
set_option maxHeartbeats 4000000 in
set_option maxRecDepth 100000 in
theorem c_X9_isFewer (l : Launch) (dC : Nat → ClassId) (dI : Nat → Nat → Nat) (cI cC cZ cB cJ : ClassId) (sz : Nat) (p0 p1 : Int32) (post : Int32 → Prop) (hw : wp_X9_isFewer post p0 p1) : Met l yX9_isFewer (gw yX9_isFewer cX9_isFewer 3 (some .boolean)) rm_X9_isFewer (va_Pc [.int p0, .int p1] (gPre (dC, dI) (tyl cI cC cZ cB cJ) (wd_X9_isFewer cI cC cZ cB cJ) sz)) (q_X9_isFewer dC dI cI cC cZ cB cJ (va_A (wd_X9_isFewer cI cC cZ cB cJ) sz) post) 0 0 (va_A (wd_X9_isFewer cI cC cZ cB cJ) sz) := by
  refine g_enter (own := RX9) (dC, dI) (tyl cI cC cZ cB cJ) (wd_X9_isFewer cI cC cZ cB cJ) sz [.int p0, .int p1] (fun A => q_X9_isFewer dC dI cI cC cZ cB cJ A post) pn_RX9 rfl (Nat.le_of_ble_eq_true rfl) ?_
  intro p e s m args below meth c A H locs ls C0 hP hD hS hl
  have hl : lv_has ls 3 [(0, .int p0), (1, .int p1)] := hl
  obtain ⟨hx, hb, hr, hml, hown, hts, hlocks, hA, hK, hN, tL, tM, hZL, hTL, hZM, hTM, hZX⟩ := id C0
  have hp := hw
  unfold wp_X9_isFewer at hp
  refine lv_iload_n hx hb eX9_isFewer_0.1 rfl (lv_at hl 0 rfl) ?_
  refine g_calli (wc := (wd_J6_bitCount_0f7a4 cI cC cZ cB cJ)) hP hD hS hA [] [] rfl rfl rfl rfl (g_runS (As := [.int p0]) (rest := []) C0 hP hD hS [] rfl rfl (c_J6_bitCount_0f7a4 l dC dI cI cC cZ cB cJ H.size p0 _ hp) q_320 q_474 q_322 q_321 h_J6_bitCount_0f7a4 rfl rfl ⟨Nat.le_of_ble_eq_true rfl, Nat.le_of_ble_eq_true rfl⟩ rfl rfl hl.1 rfl (lv_room (Nat.le_of_ble_eq_true rfl)) eX9_isFewer_0.2.1 ⟨Nat.zero_le _, Nat.zero_le _⟩) (fun r_1 u H locs hp hP hD hS => ?_)
  refine lv_iload_n hx hb eX9_isFewer_0.2.2.1 rfl (lv_at hl 1 rfl) ?_
  refine g_calli (wc := (wd_J6_bitCount_0f7a4 cI cC cZ cB cJ)) hP hD hS hA [] [] rfl rfl rfl rfl (g_runS (As := [.int p1]) (rest := [.int r_1]) C0 hP hD hS [] rfl rfl (c_J6_bitCount_0f7a4 l dC dI cI cC cZ cB cJ H.size p1 _ hp) q_320 q_474 q_322 q_321 h_J6_bitCount_0f7a4 rfl rfl ⟨Nat.le_of_ble_eq_true rfl, Nat.le_of_ble_eq_true rfl⟩ rfl rfl hl.1 rfl (lv_room (Nat.le_of_ble_eq_true rfl)) eX9_isFewer_0.2.2.2.1 ⟨Nat.zero_le _, Nat.zero_le _⟩) (fun r_2 u H locs hp hP hD hS => ?_)
  refine lv_isub hx hb eX9_isFewer_0.2.2.2.2.1 ?_
  refine lv_topi (fun v_3 ev_3 => ?_)
  have hp := hp v_3 ev_3
  refine lv_istore_n (lv' := [(2, .int v_3), (0, .int p0), (1, .int p1)]) hx hb eX9_isFewer_0.2.2.2.2.2.1 rfl hl (by decide) rfl (fun ls hl => ?_)
  refine lv_iload_n hx hb eX9_isFewer_0.2.2.2.2.2.2.1 rfl (lv_at hl 0 rfl) ?_
  refine lv_if_lt (tgt := 23) hx hb eX9_isFewer_0.2.2.2.2.2.2.2.1 (by decide) (fun hc => ?_) (fun hc => ?_)
  · have hp := hp.1 hc
    exact ks_X9_isFewer_23 C0 H locs ls hp hP hD hS (lv_sub hl [] rfl)
  · have hp := hp.2 hc
    refine lv_iload_n hx hb eX9_isFewer_0.2.2.2.2.2.2.2.2.1 rfl (lv_at hl 0 rfl) ?_
    refine lv_if_ne (tgt := 27) hx hb eX9_isFewer_0.2.2.2.2.2.2.2.2.2.1 (by decide) (fun hc => ?_) (fun hc => ?_)
    · have hp := hp.1 hc
      refine lv_iconst (v := 0) hx hb eX9_isFewer_0.2.2.2.2.2.2.2.2.2.2.2.2.2.2.2 ic_0 ?_
      exact W.zret (v := 0) hx hb hr rfl (fun t ht hW => ⟨⟨0, (), rfl, hp, by rw [ht]; exact hP, va_K.moved hW.alike hK, hD⟩, hS.F ht⟩) hS.2.2 dX9_isFewer_28
    · have hp := hp.2 hc
      refine lv_iload_n hx hb eX9_isFewer_0.2.2.2.2.2.2.2.2.2.2.1 rfl (lv_at hl 1 rfl) ?_
      refine lv_iload_n hx hb eX9_isFewer_0.2.2.2.2.2.2.2.2.2.2.2.1 rfl (lv_at hl 2 rfl) ?_
      refine lv_icmp_ge (tgt := 27) hx hb eX9_isFewer_0.2.2.2.2.2.2.2.2.2.2.2.2.1 (by decide) (fun hc => ?_) (fun hc => ?_)
      · have hp := hp.1 hc
        refine lv_iconst (v := 0) hx hb eX9_isFewer_0.2.2.2.2.2.2.2.2.2.2.2.2.2.2.2 ic_0 ?_
        exact W.zret (v := 0) hx hb hr rfl (fun t ht hW => ⟨⟨0, (), rfl, hp, by rw [ht]; exact hP, va_K.moved hW.alike hK, hD⟩, hS.F ht⟩) hS.2.2 dX9_isFewer_28
      · have hp := hp.2 hc
        exact ks_X9_isFewer_23 C0 H locs ls hp hP hD hS (lv_sub hl [] rfl)
noncomputable abbrev wd_X9_birds (cI cC cZ cB cJ : ClassId) (a_x xG xD wY wJ wQ xI xK xJ tW uE qU uJ uL uI xH tX jE mX pD oO oQ eG qT : Nat) (oX rJ pN rP : Int32) (rX : Nat → Int32) (bZ bD bI aI : Int32) (wD gF pE qA nJ nY dQ : Nat → Int32) (jC eO eW dO fJ fY jD nG qF : Int32) (jJ : Nat → Int32) : va_W := [(a_x, .inr (9, [.ref xG, .ref xD, .ref wY, .ref wJ, .ref wQ, .ref xI, .ref xK, .ref xJ, .ref tW])), (xD, .inr (5, [.ref wY, .ref wJ, .ref uE, .ref qU, .ref uJ, .ref uL, .ref uI, .int oX, .int rJ, .int pN, .int rP])), (uE, .inl (cI, 8, .inl rX)), (wY, .inr (0, [.ref wJ, .ref wQ, .ref xH])), (wJ, .inr (3, [.ref tX, .ref jE, .ref mX, .ref pD, .ref oO, .ref oQ, .ref eG, .int bZ, .int bD, .int bI, .int aI])), (tX, .inl (cI, 16, .inl wD)), (jE, .inl (cI, 16, .inl gF)), (mX, .inl (cI, 16, .inl pE)), (pD, .inl (cI, 16, .inl qA)), (oO, .inl (cI, 8, .inl nJ)), (oQ, .inl (cI, 8, .inl nY)), (eG, .inl (cI, 5, .inl dQ)), (wQ, .inr (2, [.int jC, .int eO, .int eW, .int dO, .int fJ, .int fY, .int jD, .int nG])), (xK, .inr (6, [.ref qT, .int qF])), (qT, .inl (cI, 16, .inl jJ))]
noncomputable abbrev q_X9_birds (dC : Nat → ClassId) (dI : Nat → Nat → Nat) (cI cC cZ cB cJ : ClassId) (A : Nat → Prop) (a_x xG xD wY wJ wQ xI xK xJ tW uE qU uJ uL uI xH tX jE mX pD oO oQ eG qT : Nat) (rJ pN rP bZ bD bI aI : Int32) (wD gF pE qA nJ nY dQ : Nat → Int32) (jC eO eW dO fJ fY jD nG : Int32) (post : Int32 → Int32 → (Nat → Int32) → Int32 → (Nat → Int32) → Prop) : Array Value → State → Outcome → State → Prop := va_Qi (fun (r : Int32) (u : Int32 × (Nat → Int32) × Int32 × (Nat → Int32)) => post r u.1 u.2.1 u.2.2.1 u.2.2.2) (fun u t => gB (dC, dI) (tyl cI cC cZ cB cJ) A (wd_X9_birds cI cC cZ cB cJ a_x xG xD wY wJ wQ xI xK xJ tW uE qU uJ uL uI xH tX jE mX pD oO oQ eG qT u.1 rJ pN rP u.2.1 bZ bD bI aI wD gF pE qA nJ nY dQ jC eO eW dO fJ fY jD nG u.2.2.1 u.2.2.2) t) A
noncomputable abbrev rm_X9_birds : Room := { frames := 5, cells := 0, slots := 0, locals := 115 }
section S_X9_birds
variable {p : Program} {l : Launch} {e : Env} {s : State} {m : MethodId} {args : Array Value} {below : List Frame} {meth : Method} {c : Code} {dC : Nat → ClassId} {dI : Nat → Nat → Nat} {cI cC cZ cB cJ : ClassId} {A : Nat → Prop} {a_x xG xD wY wJ wQ xI xK xJ tW uE qU uJ uL uI xH tX jE mX pD oO oQ eG qT : Nat} {rJ pN rP bZ bD bI aI : Int32} {wD gF pE qA nJ nY dQ : Nat → Int32} {jC eO eW dO fJ fY jD nG : Int32} {post : Int32 → Int32 → (Nat → Int32) → Int32 → (Nat → Int32) → Prop}
noncomputable def ws_X9_birds_92 (post : Int32 → Int32 → (Nat → Int32) → Int32 → (Nat → Int32) → Prop) (K33 : Int32 → Int32 → Int32 → Int32 → Int32 → (Nat → Int32) → Int32 → (Nat → Int32) → Prop) (bZ bD : Int32) (wD gF pE qA nJ nY dQ : Nat → Int32) (jC eO eW dO fY jD x1 x2 x3 x4 oX : Int32) (rX : Nat → Int32) (qF : Int32) (jJ : Nat → Int32) : Prop := ∀ v_10 : Int32, v_10 = x4 + 1 → K33 x1 x2 x3 v_10 oX rX qF jJ
set_option maxHeartbeats 4000000 in
set_option maxRecDepth 100000 in
theorem ks_X9_birds_92 (C0 : gc cX9_birds (some .int) 6 RX9 (dC, dI) (tyl cI cC cZ cB cJ) A p s m args meth c) {K33 : Int32 → Int32 → Int32 → Int32 → Int32 → (Nat → Int32) → Int32 → (Nat → Int32) → Prop} (hK33 : ∀ (x1 : Int32) (x2 : Int32) (x3 : Int32) (x4 : Int32) (oX : Int32) (rX : Nat → Int32) (qF : Int32) (jJ : Nat → Int32) (H : Heap) (locs : List Loc) (ls : Array Slot), K33 x1 x2 x3 x4 oX rX qF jJ → va_P (dC, dI) classes (wd_X9_birds cI cC cZ cB cJ a_x xG xD wY wJ wQ xI xK xJ tW uE qU uJ uL uI xH tX jE mX pD oO oQ eG qT oX rJ pN rP rX bZ bD bI aI wD gF pE qA nJ nY dQ jC eO eW dO fJ fY jD nG qF jJ) H → va_D A (wd_X9_birds cI cC cZ cB cJ a_x xG xD wY wJ wQ xI xK xJ tW uE qU uJ uL uI xH tX jE mX pD oO oQ eG qT oX rJ pN rP rX bZ bD bI aI wD gF pE qA nJ nY dQ jC eO eW dO fJ fY jD nG qF jJ) → va_S A s.heap H locs → lv_has ls 6 [(0, .ref a_x), (1, .int x1), (2, .int x2), (3, .int x3), (4, .int x4)] → W p l e rm_X9_birds s m args below meth c H locs 0 0 (MQ below (q_X9_birds dC dI cI cC cZ cB cJ A a_x xG xD wY wJ wQ xI xK xJ tW uE qU uJ uL uI xH tX jE mX pD oO oQ eG qT rJ pN rP bZ bD bI aI wD gF pE qA nJ nY dQ jC eO eW dO fJ fY jD nG post) args s 0 0 A) (F0 m 33 ls [])) : ∀ (x1 x2 x3 x4 oX : Int32) (rX : Nat → Int32) (qF : Int32) (jJ : Nat → Int32) (H : Heap) (locs : List Loc) (ls : Array Slot), (ws_X9_birds_92 post K33 bZ bD wD gF pE qA nJ nY dQ jC eO eW dO fY jD) x1 x2 x3 x4 oX rX qF jJ → va_P (dC, dI) classes (wd_X9_birds cI cC cZ cB cJ a_x xG xD wY wJ wQ xI xK xJ tW uE qU uJ uL uI xH tX jE mX pD oO oQ eG qT oX rJ pN rP rX bZ bD bI aI wD gF pE qA nJ nY dQ jC eO eW dO fJ fY jD nG qF jJ) H → va_D A (wd_X9_birds cI cC cZ cB cJ a_x xG xD wY wJ wQ xI xK xJ tW uE qU uJ uL uI xH tX jE mX pD oO oQ eG qT oX rJ pN rP rX bZ bD bI aI wD gF pE qA nJ nY dQ jC eO eW dO fJ fY jD nG qF jJ) → va_S A s.heap H locs → lv_has ls 6 [(0, .ref a_x), (1, .int x1), (2, .int x2), (3, .int x3), (4, .int x4)] → W p l e rm_X9_birds s m args below meth c H locs 0 0 (MQ below (q_X9_birds dC dI cI cC cZ cB cJ A a_x xG xD wY wJ wQ xI xK xJ tW uE qU uJ uL uI xH tX jE mX pD oO oQ eG qT rJ pN rP bZ bD bI aI wD gF pE qA nJ nY dQ jC eO eW dO fJ fY jD nG post) args s 0 0 A) (F0 m 92 ls []) := by
  obtain ⟨hx, hb, hr, hml, hown, hts, hlocks, hA, hK, hN, tL, tM, hZL, hTL, hZM, hTM, hZX⟩ := id C0
  intro x1 x2 x3 x4 oX rX qF jJ H locs ls hp hP hD hS hl
  unfold ws_X9_birds_92 at hp
  obtain ⟨v_10, ev_10⟩ : ∃ y : Int32, y = x4 + 1 := ⟨_, rfl⟩
  refine lv_iinc (v := v_10) (lv' := [(4, .int v_10), (0, .ref a_x), (1, .int x1), (2, .int x2), (3, .int x3)]) hx hb eX9_birds_83.2.2.2.2.2.1 hl (k := 4) rfl (by rw [ev_10]; rfl) (by decide) rfl (fun ls hl => ?_)
  have hp := hp v_10 ev_10
  refine lv_goto (tgt := 33) hx hb eX9_birds_83.2.2.2.2.2.2.1 (by decide) ?_
  exact hK33 x1 x2 x3 v_10 oX rX qF jJ H locs ls hp hP hD hS (lv_sub hl [1, 2, 3, 4, 0] rfl)
noncomputable def ws_X9_birds_86 (post : Int32 → Int32 → (Nat → Int32) → Int32 → (Nat → Int32) → Prop) (K33 : Int32 → Int32 → Int32 → Int32 → Int32 → (Nat → Int32) → Int32 → (Nat → Int32) → Prop) (bZ bD : Int32) (wD gF pE qA nJ nY dQ : Nat → Int32) (jC eO eW dO fY jD x1 x4 x5 oX : Int32) (rX : Nat → Int32) (qF : Int32) (jJ : Nat → Int32) : Prop := ws_X9_birds_92 post K33 bZ bD wD gF pE qA nJ nY dQ jC eO eW dO fY jD x1 x4 x5 x4 oX rX qF jJ
set_option maxHeartbeats 4000000 in
set_option maxRecDepth 100000 in
theorem ks_X9_birds_86 (C0 : gc cX9_birds (some .int) 6 RX9 (dC, dI) (tyl cI cC cZ cB cJ) A p s m args meth c) {K33 : Int32 → Int32 → Int32 → Int32 → Int32 → (Nat → Int32) → Int32 → (Nat → Int32) → Prop} (hK33 : ∀ (x1 : Int32) (x2 : Int32) (x3 : Int32) (x4 : Int32) (oX : Int32) (rX : Nat → Int32) (qF : Int32) (jJ : Nat → Int32) (H : Heap) (locs : List Loc) (ls : Array Slot), K33 x1 x2 x3 x4 oX rX qF jJ → va_P (dC, dI) classes (wd_X9_birds cI cC cZ cB cJ a_x xG xD wY wJ wQ xI xK xJ tW uE qU uJ uL uI xH tX jE mX pD oO oQ eG qT oX rJ pN rP rX bZ bD bI aI wD gF pE qA nJ nY dQ jC eO eW dO fJ fY jD nG qF jJ) H → va_D A (wd_X9_birds cI cC cZ cB cJ a_x xG xD wY wJ wQ xI xK xJ tW uE qU uJ uL uI xH tX jE mX pD oO oQ eG qT oX rJ pN rP rX bZ bD bI aI wD gF pE qA nJ nY dQ jC eO eW dO fJ fY jD nG qF jJ) → va_S A s.heap H locs → lv_has ls 6 [(0, .ref a_x), (1, .int x1), (2, .int x2), (3, .int x3), (4, .int x4)] → W p l e rm_X9_birds s m args below meth c H locs 0 0 (MQ below (q_X9_birds dC dI cI cC cZ cB cJ A a_x xG xD wY wJ wQ xI xK xJ tW uE qU uJ uL uI xH tX jE mX pD oO oQ eG qT rJ pN rP bZ bD bI aI wD gF pE qA nJ nY dQ jC eO eW dO fJ fY jD nG post) args s 0 0 A) (F0 m 33 ls [])) : ∀ (x1 x4 x5 oX : Int32) (rX : Nat → Int32) (qF : Int32) (jJ : Nat → Int32) (H : Heap) (locs : List Loc) (ls : Array Slot), (ws_X9_birds_86 post K33 bZ bD wD gF pE qA nJ nY dQ jC eO eW dO fY jD) x1 x4 x5 oX rX qF jJ → va_P (dC, dI) classes (wd_X9_birds cI cC cZ cB cJ a_x xG xD wY wJ wQ xI xK xJ tW uE qU uJ uL uI xH tX jE mX pD oO oQ eG qT oX rJ pN rP rX bZ bD bI aI wD gF pE qA nJ nY dQ jC eO eW dO fJ fY jD nG qF jJ) H → va_D A (wd_X9_birds cI cC cZ cB cJ a_x xG xD wY wJ wQ xI xK xJ tW uE qU uJ uL uI xH tX jE mX pD oO oQ eG qT oX rJ pN rP rX bZ bD bI aI wD gF pE qA nJ nY dQ jC eO eW dO fJ fY jD nG qF jJ) → va_S A s.heap H locs → lv_has ls 6 [(0, .ref a_x), (1, .int x1), (4, .int x4), (5, .int x5)] → W p l e rm_X9_birds s m args below meth c H locs 0 0 (MQ below (q_X9_birds dC dI cI cC cZ cB cJ A a_x xG xD wY wJ wQ xI xK xJ tW uE qU uJ uL uI xH tX jE mX pD oO oQ eG qT rJ pN rP bZ bD bI aI wD gF pE qA nJ nY dQ jC eO eW dO fJ fY jD nG post) args s 0 0 A) (F0 m 86 ls []) := by
  obtain ⟨hx, hb, hr, hml, hown, hts, hlocks, hA, hK, hN, tL, tM, hZL, hTL, hZM, hTM, hZX⟩ := id C0
  intro x1 x4 x5 oX rX qF jJ H locs ls hp hP hD hS hl
  unfold ws_X9_birds_86 at hp
  refine lv_iload hx hb eX9_birds_83.2.1 (lv_at hl 2 rfl) ?_
  refine lv_istore_n (lv' := [(2, .int x4), (0, .ref a_x), (1, .int x1), (4, .int x4), (5, .int x5)]) hx hb eX9_birds_83.2.2.1 rfl hl (by decide) rfl (fun ls hl => ?_)
  refine lv_iload hx hb eX9_birds_83.2.2.2.1 (lv_at hl 4 rfl) ?_
  refine lv_istore_n (lv' := [(3, .int x5), (2, .int x4), (0, .ref a_x), (1, .int x1), (4, .int x4), (5, .int x5)]) hx hb eX9_birds_83.2.2.2.2.1 rfl hl (by decide) rfl (fun ls hl => ?_)
  exact ks_X9_birds_92 C0 hK33 x1 x4 x5 x4 oX rX qF jJ H locs ls hp hP hD hS (lv_sub hl [2, 3, 1, 0, 4] rfl)
noncomputable def ws_X9_birds_33 (post : Int32 → Int32 → (Nat → Int32) → Int32 → (Nat → Int32) → Prop) (next : Int32 → Int32 → Int32 → Int32 → Int32 → (Nat → Int32) → Int32 → (Nat → Int32) → Prop) (bZ bD : Int32) (wD gF pE qA nJ nY dQ : Nat → Int32) (jC eO eW dO fY jD x1 x2 x3 x4 oX : Int32) (rX : Nat → Int32) (qF : Int32) (jJ : Nat → Int32) : Prop := wp_X3_allStandings (fun r_4 => (r_4 < x4 → wp_X5_reachedBy (fun r_5 => ∀ v_6 : Int32, v_6 = oX &&& (r_5 ^^^ (-1)) → wp_X9_tell_ (fun aBn aAp => post x3 oX rX aBn aAp) x2 v_6 qF jJ) x2 rX bD) ∧ (¬ r_4 < x4 → wp_J6_bitCount_0f7a4 (fun r_9 => (x1 < r_9 → ws_X9_birds_92 post next bZ bD wD gF pE qA nJ nY dQ jC eO eW dO fY jD x1 x2 x3 x4 oX rX qF jJ) ∧ (¬ x1 < r_9 → wp_X5_worthLeft (fun r_11 => (r_11 < x3 → ws_X9_birds_86 post next bZ bD wD gF pE qA nJ nY dQ jC eO eW dO fY jD x1 x4 r_11 oX rX qF jJ) ∧ (¬ r_11 < x3 → (¬ r_11 = x3 → ws_X9_birds_92 post next bZ bD wD gF pE qA nJ nY dQ jC eO eW dO fY jD x1 x2 x3 x4 oX rX qF jJ) ∧ (r_11 = x3 → wp_X9_isFewer (fun r_12 => (r_12 = 0 → ws_X9_birds_92 post next bZ bD wD gF pE qA nJ nY dQ jC eO eW dO fY jD x1 x2 x3 x4 oX rX qF jJ) ∧ (¬ r_12 = 0 → ws_X9_birds_86 post next bZ bD wD gF pE qA nJ nY dQ jC eO eW dO fY jD x1 x4 r_11 oX rX qF jJ)) x4 x2))) x4 oX rX bZ bD pE dO)) x4)) bD
noncomputable def wb_X9_birds_33 (post : Int32 → Int32 → (Nat → Int32) → Int32 → (Nat → Int32) → Prop) (bZ bD : Int32) (wD gF pE qA nJ nY dQ : Nat → Int32) (jC eO eW dO fY jD : Int32) : Nat → Int32 → Int32 → Int32 → Int32 → Int32 → (Nat → Int32) → Int32 → (Nat → Int32) → Prop := fun n => Nat.rec (motive := fun _ => Int32 → Int32 → Int32 → Int32 → Int32 → (Nat → Int32) → Int32 → (Nat → Int32) → Prop) (fun _ _ _ _ _ _ _ _ => False) (fun _ ih => ws_X9_birds_33 post ih bZ bD wD gF pE qA nJ nY dQ jC eO eW dO fY jD) n
set_option maxHeartbeats 4000000 in
set_option maxRecDepth 100000 in
theorem ks_X9_birds_33 (C0 : gc cX9_birds (some .int) 6 RX9 (dC, dI) (tyl cI cC cZ cB cJ) A p s m args meth c) {next : Int32 → Int32 → Int32 → Int32 → Int32 → (Nat → Int32) → Int32 → (Nat → Int32) → Prop} (hKn : ∀ (x1 : Int32) (x2 : Int32) (x3 : Int32) (x4 : Int32) (oX : Int32) (rX : Nat → Int32) (qF : Int32) (jJ : Nat → Int32) (H : Heap) (locs : List Loc) (ls : Array Slot), next x1 x2 x3 x4 oX rX qF jJ → va_P (dC, dI) classes (wd_X9_birds cI cC cZ cB cJ a_x xG xD wY wJ wQ xI xK xJ tW uE qU uJ uL uI xH tX jE mX pD oO oQ eG qT oX rJ pN rP rX bZ bD bI aI wD gF pE qA nJ nY dQ jC eO eW dO fJ fY jD nG qF jJ) H → va_D A (wd_X9_birds cI cC cZ cB cJ a_x xG xD wY wJ wQ xI xK xJ tW uE qU uJ uL uI xH tX jE mX pD oO oQ eG qT oX rJ pN rP rX bZ bD bI aI wD gF pE qA nJ nY dQ jC eO eW dO fJ fY jD nG qF jJ) → va_S A s.heap H locs → lv_has ls 6 [(0, .ref a_x), (1, .int x1), (2, .int x2), (3, .int x3), (4, .int x4)] → W p l e rm_X9_birds s m args below meth c H locs 0 0 (MQ below (q_X9_birds dC dI cI cC cZ cB cJ A a_x xG xD wY wJ wQ xI xK xJ tW uE qU uJ uL uI xH tX jE mX pD oO oQ eG qT rJ pN rP bZ bD bI aI wD gF pE qA nJ nY dQ jC eO eW dO fJ fY jD nG post) args s 0 0 A) (F0 m 33 ls [])) : ∀ (x1 x2 x3 x4 oX : Int32) (rX : Nat → Int32) (qF : Int32) (jJ : Nat → Int32) (H : Heap) (locs : List Loc) (ls : Array Slot), (ws_X9_birds_33 post next bZ bD wD gF pE qA nJ nY dQ jC eO eW dO fY jD) x1 x2 x3 x4 oX rX qF jJ → va_P (dC, dI) classes (wd_X9_birds cI cC cZ cB cJ a_x xG xD wY wJ wQ xI xK xJ tW uE qU uJ uL uI xH tX jE mX pD oO oQ eG qT oX rJ pN rP rX bZ bD bI aI wD gF pE qA nJ nY dQ jC eO eW dO fJ fY jD nG qF jJ) H → va_D A (wd_X9_birds cI cC cZ cB cJ a_x xG xD wY wJ wQ xI xK xJ tW uE qU uJ uL uI xH tX jE mX pD oO oQ eG qT oX rJ pN rP rX bZ bD bI aI wD gF pE qA nJ nY dQ jC eO eW dO fJ fY jD nG qF jJ) → va_S A s.heap H locs → lv_has ls 6 [(0, .ref a_x), (1, .int x1), (2, .int x2), (3, .int x3), (4, .int x4)] → W p l e rm_X9_birds s m args below meth c H locs 0 0 (MQ below (q_X9_birds dC dI cI cC cZ cB cJ A a_x xG xD wY wJ wQ xI xK xJ tW uE qU uJ uL uI xH tX jE mX pD oO oQ eG qT rJ pN rP bZ bD bI aI wD gF pE qA nJ nY dQ jC eO eW dO fJ fY jD nG post) args s 0 0 A) (F0 m 33 ls []) := by
  obtain ⟨hx, hb, hr, hml, hown, hts, hlocks, hA, hK, hN, tL, tM, hZL, hTL, hZM, hTM, hZX⟩ := id C0
  intro x1 x2 x3 x4 oX rX qF jJ H locs ls hp hP hD hS hl
  unfold ws_X9_birds_33 at hp
  refine lv_iload hx hb eX9_birds_29.2.2.2.1 (lv_at hl 4 rfl) ?_
  refine lv_aload_n hx hb eX9_birds_29.2.2.2.2.1 rfl (lv_at hl 0 rfl) ?_
  refine va_get (D := (dC, dI)) (ci := 9) (v := .ref wJ) (C := RX9) (T := TX9) (N := 9) hx hb hts i_X9 hown hK hP 0 rfl rfl 3 (Nat.le_of_ble_eq_true rfl) (hts _ q_74) (fun _ h9 => h9) rfl eX9_birds_29.2.2.2.2.2.1 ?_
  have hm := mgk (wc := (wd_X3_allStandings cI cC cZ cB cJ wJ tX jE mX pD oO oQ eG bZ bD bI aI)) hP mk_126 15 rfl rfl rfl
  refine g_calli hP hD hS hA (mixT mk_126) (mixF mk_126) hm.1 hm.2 (nd_F _) (dis_g _) (g_runV (As := []) (rest := [.int x4]) C0 hP hD hS (mixT mk_126) hm.1 (nd_T _) 4 3 rfl rfl (c_X3_allStandings l dC dI cI cC cZ cB cJ wJ tX jE mX pD oO oQ eG H.size bZ bD bI aI _ hp) q_426 q_463 q_427 q_428 q_48 h_X3_allStandings rfl rfl ⟨Nat.le_of_ble_eq_true rfl, Nat.le_of_ble_eq_true rfl⟩ rfl rfl hl.1 rfl (lv_room (Nat.le_of_ble_eq_true rfl)) eX9_birds_29.2.2.2.2.2.2.1 ⟨Nat.zero_le _, Nat.zero_le _⟩) (fun r_4 u H locs hp hP hD hS => ?_)
  have hPD := PDm (ws' := (wd_X9_birds cI cC cZ cB cJ a_x xG xD wY wJ wQ xI xK xJ tW uE qU uJ uL uI xH tX jE mX pD oO oQ eG qT oX rJ pN rP rX bZ bD bI aI wD gF pE qA nJ nY dQ jC eO eW dO fJ fY jD nG qF jJ)) hP hD 15 rfl rfl rfl
  have hP := hPD.1
  have hD := hPD.2
  refine lv_icmp_gt (tgt := 98) hx hb eX9_birds_29.2.2.2.2.2.2.2.1 (by decide) (fun hc => ?_) (fun hc => ?_)
  · have hp := hp.1 hc
    refine lv_aload_n hx hb eX9_birds_83.2.2.2.2.2.2.2.1 rfl (lv_at hl 0 rfl) ?_
    refine lv_iload_n hx hb eX9_birds_83.2.2.2.2.2.2.2.2.1 rfl (lv_at hl 2 rfl) ?_
    refine lv_aload_n hx hb eX9_birds_83.2.2.2.2.2.2.2.2.2.1 rfl (lv_at hl 0 rfl) ?_
    refine va_get (D := (dC, dI)) (ci := 9) (v := .ref xD) (C := RX9) (T := TX9) (N := 9) hx hb hts i_X9 hown hK hP 0 rfl rfl 1 (Nat.le_of_ble_eq_true rfl) (hts _ q_444) (fun _ h9 => h9) rfl eX9_birds_83.2.2.2.2.2.2.2.2.2.2.1 ?_
    refine va_get (D := (dC, dI)) (ci := 5) (v := .int oX) (C := RX5) (T := TX5) (N := 11) hx hb hts i_X5 hown hK hP 1 rfl rfl 7 (Nat.le_of_ble_eq_true rfl) (hts _ q_462) (fun _ h9 => h9) rfl eX9_birds_83.2.2.2.2.2.2.2.2.2.2.2.1 ?_
    refine lv_aload_n hx hb eX9_birds_83.2.2.2.2.2.2.2.2.2.2.2.2.1 rfl (lv_at hl 0 rfl) ?_
    refine va_get (D := (dC, dI)) (ci := 9) (v := .ref xD) (C := RX9) (T := TX9) (N := 9) hx hb hts i_X9 hown hK hP 0 rfl rfl 1 (Nat.le_of_ble_eq_true rfl) (hts _ q_444) (fun _ h9 => h9) rfl eX9_birds_83.2.2.2.2.2.2.2.2.2.2.2.2.2.1 ?_
    refine lv_iload_n hx hb eX9_birds_83.2.2.2.2.2.2.2.2.2.2.2.2.2.2.1 rfl (lv_at hl 2 rfl) ?_
    have hm := mgk (wc := (wd_X5_reachedBy cI cC cZ cB cJ xD wY wJ uE qU uJ uL uI tX jE mX pD oO oQ eG oX rJ pN rP rX bZ bD bI aI)) hP mk_127 15 rfl rfl rfl
    refine g_calli hP hD hS hA (mixT mk_127) (mixF mk_127) hm.1 hm.2 (nd_F _) (dis_g _) (g_runV (As := [.int x2]) (rest := [.int oX, .int x2, .ref a_x]) C0 hP hD hS (mixT mk_127) hm.1 (nd_T _) 1 5 rfl rfl (c_X5_reachedBy l dC dI cI cC cZ cB cJ xD wY wJ uE qU uJ uL uI tX jE mX pD oO oQ eG H.size x2 oX rJ pN rP rX bZ bD bI aI _ hp) q_430 q_472 q_432 q_433 q_431 h_X5_reachedBy rfl rfl ⟨Nat.le_of_ble_eq_true rfl, Nat.le_of_ble_eq_true rfl⟩ rfl rfl hl.1 rfl (lv_room (Nat.le_of_ble_eq_true rfl)) eX9_birds_83.2.2.2.2.2.2.2.2.2.2.2.2.2.2.2 ⟨Nat.zero_le _, Nat.zero_le _⟩) (fun r_5 u H locs hp hP hD hS => ?_)
    have hPD := PDm (ws' := (wd_X9_birds cI cC cZ cB cJ a_x xG xD wY wJ wQ xI xK xJ tW uE qU uJ uL uI xH tX jE mX pD oO oQ eG qT oX rJ pN rP rX bZ bD bI aI wD gF pE qA nJ nY dQ jC eO eW dO fJ fY jD nG qF jJ)) hP hD 15 rfl rfl rfl
    have hP := hPD.1
    have hD := hPD.2
    refine lv_iconst (v := (-1)) hx hb eX9_birds_115.1 ic_m1 ?_
    refine lv_ixor hx hb eX9_birds_115.2.1 ?_
    refine lv_iand hx hb eX9_birds_115.2.2.1 ?_
    refine lv_topi (fun v_6 ev_6 => ?_)
    have hp := hp v_6 ev_6
    have hm := mgk (wc := (wd_X9_tell_ cI cC cZ cB cJ a_x xG xD wY wJ wQ xI xK xJ tW qT qF jJ)) hP mk_128 15 rfl rfl rfl
    refine g_callv hP hD hS hA (mixT mk_128) (mixF mk_128) hm.1 hm.2 (nd_F _) (dis_g _) (g_runV (As := [.int x2, .int v_6]) (rest := []) C0 hP hD hS (mixT mk_128) hm.1 (nd_T _) 0 9 rfl rfl (c_X9_tell_ l dC dI cI cC cZ cB cJ a_x xG xD wY wJ wQ xI xK xJ tW qT H.size x2 v_6 qF jJ _ hp) q_377 q_380 q_378 q_379 q_256 h_X9_tell_ rfl rfl ⟨Nat.le_of_ble_eq_true rfl, Nat.le_of_ble_eq_true rfl⟩ rfl rfl hl.1 rfl (lv_room (Nat.le_of_ble_eq_true rfl)) eX9_birds_115.2.2.2.1 ⟨Nat.zero_le _, Nat.zero_le _⟩) (fun u H locs hp hP hD hS => ?_)
    obtain ⟨aBn, aAp⟩ := u
    have hPD := PDm (ws' := (wd_X9_birds cI cC cZ cB cJ a_x xG xD wY wJ wQ xI xK xJ tW uE qU uJ uL uI xH tX jE mX pD oO oQ eG qT oX rJ pN rP rX bZ bD bI aI wD gF pE qA nJ nY dQ jC eO eW dO fJ fY jD nG aBn aAp)) hP hD 15 rfl rfl rfl
    have hP := hPD.1
    have hD := hPD.2
    refine lv_iload_n hx hb eX9_birds_115.2.2.2.2.1 rfl (lv_at hl 3 rfl) ?_
    exact W.iret (v := x3) hx hb hr (fun t ht hW => ⟨⟨x3, (oX, rX, aBn, aAp), rfl, hp, by rw [ht]; exact hP, va_K.moved hW.alike hK, hD⟩, hS.F ht⟩) hS.2.2 eX9_birds_115.2.2.2.2.2
  · have hp := hp.2 hc
    refine lv_iload hx hb eX9_birds_29.2.2.2.2.2.2.2.2.1 (lv_at hl 4 rfl) ?_
    have hm := mgk (wc := (wd_J6_bitCount_0f7a4 cI cC cZ cB cJ)) hP mk_129 15 rfl rfl rfl
    refine g_calli hP hD hS hA (mixT mk_129) (mixF mk_129) hm.1 hm.2 (nd_F _) (dis_g _) (g_runS (As := [.int x4]) (rest := []) C0 hP hD hS (mixT mk_129) hm.1 (nd_T _) (c_J6_bitCount_0f7a4 l dC dI cI cC cZ cB cJ H.size x4 _ hp) q_320 q_474 q_322 q_321 h_J6_bitCount_0f7a4 rfl rfl ⟨Nat.le_of_ble_eq_true rfl, Nat.le_of_ble_eq_true rfl⟩ rfl rfl hl.1 rfl (lv_room (Nat.le_of_ble_eq_true rfl)) eX9_birds_29.2.2.2.2.2.2.2.2.2 ⟨Nat.zero_le _, Nat.zero_le _⟩) (fun r_9 u H locs hp hP hD hS => ?_)
    have hPD := PDm (ws' := (wd_X9_birds cI cC cZ cB cJ a_x xG xD wY wJ wQ xI xK xJ tW uE qU uJ uL uI xH tX jE mX pD oO oQ eG qT oX rJ pN rP rX bZ bD bI aI wD gF pE qA nJ nY dQ jC eO eW dO fJ fY jD nG qF jJ)) hP hD 15 rfl rfl rfl
    have hP := hPD.1
    have hD := hPD.2
    refine lv_iload_n hx hb eX9_birds_50.1 rfl (lv_at hl 1 rfl) ?_
    refine lv_icmp_gt (tgt := 92) hx hb eX9_birds_50.2.1 (by decide) (fun hc => ?_) (fun hc => ?_)
    · have hp := hp.1 hc
      exact ks_X9_birds_92 C0 hKn x1 x2 x3 x4 oX rX qF jJ H locs ls hp hP hD hS (lv_sub hl [0, 1, 2, 3, 4] rfl)
    · have hp := hp.2 hc
      refine lv_aload_n hx hb eX9_birds_50.2.2.1 rfl (lv_at hl 0 rfl) ?_
      refine va_get (D := (dC, dI)) (ci := 9) (v := .ref xD) (C := RX9) (T := TX9) (N := 9) hx hb hts i_X9 hown hK hP 0 rfl rfl 1 (Nat.le_of_ble_eq_true rfl) (hts _ q_444) (fun _ h9 => h9) rfl eX9_birds_50.2.2.2.1 ?_
      refine lv_iload hx hb eX9_birds_50.2.2.2.2.1 (lv_at hl 4 rfl) ?_
      have hm := mgk (wc := (wd_X5_worthLeft cI cC cZ cB cJ xD wY wJ uE qU uJ uL uI wQ xH tX jE mX pD oO oQ eG oX rJ pN rP rX bZ bD bI aI pE jC eO eW dO fJ fY jD nG)) hP mk_130 15 rfl rfl rfl
      refine g_calli hP hD hS hA (mixT mk_130) (mixF mk_130) hm.1 hm.2 (nd_F _) (dis_g _) (g_runV (As := [.int x4]) (rest := []) C0 hP hD hS (mixT mk_130) hm.1 (nd_T _) 1 5 rfl rfl (c_X5_worthLeft l dC dI cI cC cZ cB cJ xD wY wJ uE qU uJ uL uI wQ xH tX jE mX pD oO oQ eG H.size x4 oX rJ pN rP rX bZ bD bI aI pE jC eO eW dO fJ fY jD nG _ hp) q_475 q_478 q_476 q_477 q_431 h_X5_worthLeft rfl rfl ⟨Nat.le_of_ble_eq_true rfl, Nat.le_of_ble_eq_true rfl⟩ rfl rfl hl.1 rfl (lv_room (Nat.le_of_ble_eq_true rfl)) eX9_birds_50.2.2.2.2.2.1 ⟨Nat.zero_le _, Nat.zero_le _⟩) (fun r_11 u H locs hp hP hD hS => ?_)
      have hPD := PDm (ws' := (wd_X9_birds cI cC cZ cB cJ a_x xG xD wY wJ wQ xI xK xJ tW uE qU uJ uL uI xH tX jE mX pD oO oQ eG qT oX rJ pN rP rX bZ bD bI aI wD gF pE qA nJ nY dQ jC eO eW dO fJ fY jD nG qF jJ)) hP hD 15 rfl rfl rfl
      have hP := hPD.1
      have hD := hPD.2
      refine lv_istore (lv' := [(5, .int r_11), (0, .ref a_x), (1, .int x1), (2, .int x2), (3, .int x3), (4, .int x4)]) hx hb eX9_birds_50.2.2.2.2.2.2.1 hl (by decide) rfl (fun ls hl => ?_)
      refine lv_iload hx hb eX9_birds_50.2.2.2.2.2.2.2.1 (lv_at hl 0 rfl) ?_
      refine lv_iload_n hx hb eX9_birds_50.2.2.2.2.2.2.2.2.1 rfl (lv_at hl 4 rfl) ?_
      refine lv_icmp_lt (tgt := 86) hx hb eX9_birds_50.2.2.2.2.2.2.2.2.2.1 (by decide) (fun hc => ?_) (fun hc => ?_)
      · have hp := hp.1 hc
        exact ks_X9_birds_86 C0 hKn x1 x4 r_11 oX rX qF jJ H locs ls hp hP hD hS (lv_sub hl [1, 2, 5, 0] rfl)
      · have hp := hp.2 hc
        refine lv_iload hx hb eX9_birds_50.2.2.2.2.2.2.2.2.2.2.1 (lv_at hl 0 rfl) ?_
        refine lv_iload_n hx hb eX9_birds_50.2.2.2.2.2.2.2.2.2.2.2.1 rfl (lv_at hl 4 rfl) ?_
        refine lv_icmp_ne (tgt := 92) hx hb eX9_birds_50.2.2.2.2.2.2.2.2.2.2.2.2.1 (by decide) (fun hc => ?_) (fun hc => ?_)
        · have hp := hp.1 hc
          exact ks_X9_birds_92 C0 hKn x1 x2 x3 x4 oX rX qF jJ H locs ls hp hP hD hS (lv_sub hl [1, 2, 3, 4, 5] rfl)
        · have hp := hp.2 hc
          refine lv_iload hx hb eX9_birds_50.2.2.2.2.2.2.2.2.2.2.2.2.2.1 (lv_at hl 5 rfl) ?_
          refine lv_iload_n hx hb eX9_birds_50.2.2.2.2.2.2.2.2.2.2.2.2.2.2.1 rfl (lv_at hl 3 rfl) ?_
          have hm := mgk (wc := (wd_X9_isFewer cI cC cZ cB cJ)) hP mk_129 15 rfl rfl rfl
          refine g_calli hP hD hS hA (mixT mk_129) (mixF mk_129) hm.1 hm.2 (nd_F _) (dis_g _) (g_runS (As := [.int x4, .int x2]) (rest := []) C0 hP hD hS (mixT mk_129) hm.1 (nd_T _) (c_X9_isFewer l dC dI cI cC cZ cB cJ H.size x4 x2 _ hp) q_479 q_481 q_480 q_256 h_X9_isFewer rfl rfl ⟨Nat.le_of_ble_eq_true rfl, Nat.le_of_ble_eq_true rfl⟩ rfl rfl hl.1 rfl (lv_room (Nat.le_of_ble_eq_true rfl)) eX9_birds_50.2.2.2.2.2.2.2.2.2.2.2.2.2.2.2 ⟨Nat.zero_le _, Nat.zero_le _⟩) (fun r_12 u H locs hp hP hD hS => ?_)
          have hPD := PDm (ws' := (wd_X9_birds cI cC cZ cB cJ a_x xG xD wY wJ wQ xI xK xJ tW uE qU uJ uL uI xH tX jE mX pD oO oQ eG qT oX rJ pN rP rX bZ bD bI aI wD gF pE qA nJ nY dQ jC eO eW dO fJ fY jD nG qF jJ)) hP hD 15 rfl rfl rfl
          have hP := hPD.1
          have hD := hPD.2
          refine lv_if_eq (tgt := 92) hx hb eX9_birds_83.1 (by decide) (fun hc => ?_) (fun hc => ?_)
          · have hp := hp.1 hc
            exact ks_X9_birds_92 C0 hKn x1 x2 x3 x4 oX rX qF jJ H locs ls hp hP hD hS (lv_sub hl [1, 2, 3, 4, 5] rfl)
          · have hp := hp.2 hc
            exact ks_X9_birds_86 C0 hKn x1 x4 r_11 oX rX qF jJ H locs ls hp hP hD hS (lv_sub hl [1, 2, 5, 0] rfl)
set_option maxHeartbeats 4000000 in
set_option maxRecDepth 100000 in
theorem kb_X9_birds_33 (C0 : gc cX9_birds (some .int) 6 RX9 (dC, dI) (tyl cI cC cZ cB cJ) A p s m args meth c) : ∀ (n : Nat), ∀ (x1 x2 x3 x4 oX : Int32) (rX : Nat → Int32) (qF : Int32) (jJ : Nat → Int32) (H : Heap) (locs : List Loc) (ls : Array Slot), (wb_X9_birds_33 post bZ bD wD gF pE qA nJ nY dQ jC eO eW dO fY jD n) x1 x2 x3 x4 oX rX qF jJ → va_P (dC, dI) classes (wd_X9_birds cI cC cZ cB cJ a_x xG xD wY wJ wQ xI xK xJ tW uE qU uJ uL uI xH tX jE mX pD oO oQ eG qT oX rJ pN rP rX bZ bD bI aI wD gF pE qA nJ nY dQ jC eO eW dO fJ fY jD nG qF jJ) H → va_D A (wd_X9_birds cI cC cZ cB cJ a_x xG xD wY wJ wQ xI xK xJ tW uE qU uJ uL uI xH tX jE mX pD oO oQ eG qT oX rJ pN rP rX bZ bD bI aI wD gF pE qA nJ nY dQ jC eO eW dO fJ fY jD nG qF jJ) → va_S A s.heap H locs → lv_has ls 6 [(0, .ref a_x), (1, .int x1), (2, .int x2), (3, .int x3), (4, .int x4)] → W p l e rm_X9_birds s m args below meth c H locs 0 0 (MQ below (q_X9_birds dC dI cI cC cZ cB cJ A a_x xG xD wY wJ wQ xI xK xJ tW uE qU uJ uL uI xH tX jE mX pD oO oQ eG qT rJ pN rP bZ bD bI aI wD gF pE qA nJ nY dQ jC eO eW dO fJ fY jD nG post) args s 0 0 A) (F0 m 33 ls []) := by
  intro n
  induction n with
  | zero =>
    intro x1 x2 x3 x4 oX rX qF jJ H locs ls hp
    exact False.elim hp
  | succ n ih =>
    intro x1 x2 x3 x4 oX rX qF jJ H locs ls hp
    exact ks_X9_birds_33 C0 ih x1 x2 x3 x4 oX rX qF jJ H locs ls hp
end S_X9_birds
noncomputable def wp_X9_birds (post : Int32 → Int32 → (Nat → Int32) → Int32 → (Nat → Int32) → Prop) (p0 oX : Int32) (rX : Nat → Int32) (bZ bD : Int32) (wD gF pE qA nJ nY dQ : Nat → Int32) (jC eO eW dO fY jD qF : Int32) (jJ : Nat → Int32) : Prop := (p0 < 0 → post (-1) oX rX qF jJ) ∧ (¬ p0 < 0 → (p0 ≤ 8 → wp_X5_look (fun xM xQ => wp_X5_worthLeft (fun r_3 => ∃ n : Nat, wb_X9_birds_33 post bZ bD wD gF pE qA nJ nY dQ jC eO eW dO fY jD n p0 0 r_3 1 xM xQ qF jJ) 0 xM xQ bZ bD pE dO) oX rX bZ bD wD gF qA nJ nY dQ jC eO eW fY jD) ∧ (¬ p0 ≤ 8 → post (-1) oX rX qF jJ))
set_option maxHeartbeats 4000000 in
set_option maxRecDepth 100000 in
theorem c_X9_birds (l : Launch) (dC : Nat → ClassId) (dI : Nat → Nat → Nat) (cI cC cZ cB cJ : ClassId) (a_x xG xD wY wJ wQ xI xK xJ tW uE qU uJ uL uI xH tX jE mX pD oO oQ eG qT sz : Nat) (p0 oX rJ pN rP : Int32) (rX : Nat → Int32) (bZ bD bI aI : Int32) (wD gF pE qA nJ nY dQ : Nat → Int32) (jC eO eW dO fJ fY jD nG qF : Int32) (jJ : Nat → Int32) (post : Int32 → Int32 → (Nat → Int32) → Int32 → (Nat → Int32) → Prop) (hw : wp_X9_birds post p0 oX rX bZ bD wD gF pE qA nJ nY dQ jC eO eW dO fY jD qF jJ) : Met l yX9_birds (gw yX9_birds cX9_birds 6 (some .int)) rm_X9_birds (va_Pc [.ref a_x, .int p0] (gPre (dC, dI) (tyl cI cC cZ cB cJ) (wd_X9_birds cI cC cZ cB cJ a_x xG xD wY wJ wQ xI xK xJ tW uE qU uJ uL uI xH tX jE mX pD oO oQ eG qT oX rJ pN rP rX bZ bD bI aI wD gF pE qA nJ nY dQ jC eO eW dO fJ fY jD nG qF jJ) sz)) (q_X9_birds dC dI cI cC cZ cB cJ (va_A (wd_X9_birds cI cC cZ cB cJ a_x xG xD wY wJ wQ xI xK xJ tW uE qU uJ uL uI xH tX jE mX pD oO oQ eG qT oX rJ pN rP rX bZ bD bI aI wD gF pE qA nJ nY dQ jC eO eW dO fJ fY jD nG qF jJ) sz) a_x xG xD wY wJ wQ xI xK xJ tW uE qU uJ uL uI xH tX jE mX pD oO oQ eG qT rJ pN rP bZ bD bI aI wD gF pE qA nJ nY dQ jC eO eW dO fJ fY jD nG post) 0 0 (va_A (wd_X9_birds cI cC cZ cB cJ a_x xG xD wY wJ wQ xI xK xJ tW uE qU uJ uL uI xH tX jE mX pD oO oQ eG qT oX rJ pN rP rX bZ bD bI aI wD gF pE qA nJ nY dQ jC eO eW dO fJ fY jD nG qF jJ) sz) := by
  refine g_enter (own := RX9) (dC, dI) (tyl cI cC cZ cB cJ) (wd_X9_birds cI cC cZ cB cJ a_x xG xD wY wJ wQ xI xK xJ tW uE qU uJ uL uI xH tX jE mX pD oO oQ eG qT oX rJ pN rP rX bZ bD bI aI wD gF pE qA nJ nY dQ jC eO eW dO fJ fY jD nG qF jJ) sz [.ref a_x, .int p0] (fun A => q_X9_birds dC dI cI cC cZ cB cJ A a_x xG xD wY wJ wQ xI xK xJ tW uE qU uJ uL uI xH tX jE mX pD oO oQ eG qT rJ pN rP bZ bD bI aI wD gF pE qA nJ nY dQ jC eO eW dO fJ fY jD nG post) pn_RX9 rfl (Nat.le_of_ble_eq_true rfl) ?_
  intro p e s m args below meth c A H locs ls C0 hP hD hS hl
  have hl : lv_has ls 6 [(0, .ref a_x), (1, .int p0)] := hl
  obtain ⟨hx, hb, hr, hml, hown, hts, hlocks, hA, hK, hN, tL, tM, hZL, hTL, hZM, hTM, hZX⟩ := id C0
  have hp := hw
  unfold wp_X9_birds at hp
  refine lv_iload_n hx hb eX9_birds_0.1 rfl (lv_at hl 1 rfl) ?_
  refine lv_if_lt (tgt := 10) hx hb eX9_birds_0.2.1 (by decide) (fun hc => ?_) (fun hc => ?_)
  · have hp := hp.1 hc
    refine lv_iconst (v := (-1)) hx hb eX9_birds_0.2.2.2.2.2.1 ic_m1 ?_
    exact W.iret (v := (-1)) hx hb hr (fun t ht hW => ⟨⟨(-1), (oX, rX, qF, jJ), rfl, hp, by rw [ht]; exact hP, va_K.moved hW.alike hK, hD⟩, hS.F ht⟩) hS.2.2 eX9_birds_0.2.2.2.2.2.2.1
  · have hp := hp.2 hc
    refine lv_iload_n hx hb eX9_birds_0.2.2.1 rfl (lv_at hl 1 rfl) ?_
    refine lv_bipush (v := 8) hx hb eX9_birds_0.2.2.2.1 bp_8 ?_
    refine lv_icmp_le (tgt := 12) hx hb eX9_birds_0.2.2.2.2.1 (by decide) (fun hc => ?_) (fun hc => ?_)
    · have hp := hp.1 hc
      refine lv_aload_n hx hb eX9_birds_0.2.2.2.2.2.2.2.1 rfl (lv_at hl 0 rfl) ?_
      refine va_get (D := (dC, dI)) (ci := 9) (v := .ref xD) (C := RX9) (T := TX9) (N := 9) hx hb hts i_X9 hown hK hP 0 rfl rfl 1 (Nat.le_of_ble_eq_true rfl) (hts _ q_444) (fun _ h9 => h9) rfl eX9_birds_0.2.2.2.2.2.2.2.2.1 ?_
      have hm := mgk (wc := (wd_X5_look cI cC cZ cB cJ xD wY wJ uE qU uJ uL uI wQ xH tX jE mX pD oO oQ eG oX rJ pN rP rX bZ bD bI aI wD gF qA nJ nY dQ jC eO eW dO fJ fY jD nG)) hP mk_131 15 rfl rfl rfl
      refine g_callv hP hD hS hA (mixT mk_131) (mixF mk_131) hm.1 hm.2 (nd_F _) (dis_g _) (g_runV (As := []) (rest := []) C0 hP hD hS (mixT mk_131) hm.1 (nd_T _) 1 5 rfl rfl (c_X5_look l dC dI cI cC cZ cB cJ xD wY wJ uE qU uJ uL uI wQ xH tX jE mX pD oO oQ eG H.size oX rJ pN rP rX bZ bD bI aI wD gF qA nJ nY dQ jC eO eW dO fJ fY jD nG _ hp) q_445 q_448 q_446 q_447 q_431 h_X5_look rfl rfl ⟨Nat.le_of_ble_eq_true rfl, Nat.le_of_ble_eq_true rfl⟩ rfl rfl hl.1 rfl (lv_room (Nat.le_of_ble_eq_true rfl)) eX9_birds_0.2.2.2.2.2.2.2.2.2.1 ⟨Nat.zero_le _, Nat.zero_le _⟩) (fun u H locs hp hP hD hS => ?_)
      obtain ⟨xM, xQ⟩ := u
      have hPD := PDm (ws' := (wd_X9_birds cI cC cZ cB cJ a_x xG xD wY wJ wQ xI xK xJ tW uE qU uJ uL uI xH tX jE mX pD oO oQ eG qT xM rJ pN rP xQ bZ bD bI aI wD gF pE qA nJ nY dQ jC eO eW dO fJ fY jD nG qF jJ)) hP hD 15 rfl rfl rfl
      have hP := hPD.1
      have hD := hPD.2
      refine lv_iconst (v := 0) hx hb eX9_birds_0.2.2.2.2.2.2.2.2.2.2.1 ic_0 ?_
      refine lv_istore_n (lv' := [(2, .int 0), (0, .ref a_x), (1, .int p0)]) hx hb eX9_birds_0.2.2.2.2.2.2.2.2.2.2.2.1 rfl hl (by decide) rfl (fun ls hl => ?_)
      refine lv_aload_n hx hb eX9_birds_0.2.2.2.2.2.2.2.2.2.2.2.2.1 rfl (lv_at hl 1 rfl) ?_
      refine va_get (D := (dC, dI)) (ci := 9) (v := .ref xD) (C := RX9) (T := TX9) (N := 9) hx hb hts i_X9 hown hK hP 0 rfl rfl 1 (Nat.le_of_ble_eq_true rfl) (hts _ q_444) (fun _ h9 => h9) rfl eX9_birds_0.2.2.2.2.2.2.2.2.2.2.2.2.2.1 ?_
      refine lv_iconst (v := 0) hx hb eX9_birds_0.2.2.2.2.2.2.2.2.2.2.2.2.2.2.1 ic_0 ?_
      have hm := mgk (wc := (wd_X5_worthLeft cI cC cZ cB cJ xD wY wJ uE qU uJ uL uI wQ xH tX jE mX pD oO oQ eG xM rJ pN rP xQ bZ bD bI aI pE jC eO eW dO fJ fY jD nG)) hP mk_130 15 rfl rfl rfl
      refine g_calli hP hD hS hA (mixT mk_130) (mixF mk_130) hm.1 hm.2 (nd_F _) (dis_g _) (g_runV (As := [.int 0]) (rest := []) C0 hP hD hS (mixT mk_130) hm.1 (nd_T _) 1 5 rfl rfl (c_X5_worthLeft l dC dI cI cC cZ cB cJ xD wY wJ uE qU uJ uL uI wQ xH tX jE mX pD oO oQ eG H.size 0 xM rJ pN rP xQ bZ bD bI aI pE jC eO eW dO fJ fY jD nG _ hp) q_475 q_478 q_476 q_477 q_431 h_X5_worthLeft rfl rfl ⟨Nat.le_of_ble_eq_true rfl, Nat.le_of_ble_eq_true rfl⟩ rfl rfl hl.1 rfl (lv_room (Nat.le_of_ble_eq_true rfl)) eX9_birds_0.2.2.2.2.2.2.2.2.2.2.2.2.2.2.2 ⟨Nat.zero_le _, Nat.zero_le _⟩) (fun r_3 u H locs hp hP hD hS => ?_)
      have hPD := PDm (ws' := (wd_X9_birds cI cC cZ cB cJ a_x xG xD wY wJ wQ xI xK xJ tW uE qU uJ uL uI xH tX jE mX pD oO oQ eG qT xM rJ pN rP xQ bZ bD bI aI wD gF pE qA nJ nY dQ jC eO eW dO fJ fY jD nG qF jJ)) hP hD 15 rfl rfl rfl
      have hP := hPD.1
      have hD := hPD.2
      refine lv_istore_n (lv' := [(3, .int r_3), (2, .int 0), (0, .ref a_x), (1, .int p0)]) hx hb eX9_birds_29.1 rfl hl (by decide) rfl (fun ls hl => ?_)
      refine lv_iconst (v := 1) hx hb eX9_birds_29.2.1 ic_1 ?_
      refine lv_istore (lv' := [(4, .int 1), (3, .int r_3), (2, .int 0), (0, .ref a_x), (1, .int p0)]) hx hb eX9_birds_29.2.2.1 hl (by decide) rfl (fun ls hl => ?_)
      obtain ⟨n9, hp⟩ := hp
      exact kb_X9_birds_33 C0 n9 p0 0 r_3 1 xM xQ qF jJ H locs ls hp hP hD hS (lv_sub hl [3, 4, 2, 1, 0] rfl)
    · have hp := hp.2 hc
      refine lv_iconst (v := (-1)) hx hb eX9_birds_0.2.2.2.2.2.1 ic_m1 ?_
      exact W.iret (v := (-1)) hx hb hr (fun t ht hW => ⟨⟨(-1), (oX, rX, qF, jJ), rfl, hp, by rw [ht]; exact hP, va_K.moved hW.alike hK, hD⟩, hS.F ht⟩) hS.2.2 eX9_birds_0.2.2.2.2.2.2.1
noncomputable abbrev wd_X3_areStandings (cI cC cZ cB cJ : ClassId) (wJ tX jE mX pD oO oQ eG : Nat) (bZ bD bI aI : Int32) : va_W := [(wJ, .inr (3, [.ref tX, .ref jE, .ref mX, .ref pD, .ref oO, .ref oQ, .ref eG, .int bZ, .int bD, .int bI, .int aI]))]
noncomputable abbrev q_X3_areStandings (dC : Nat → ClassId) (dI : Nat → Nat → Nat) (cI cC cZ cB cJ : ClassId) (A : Nat → Prop) (wJ tX jE mX pD oO oQ eG : Nat) (bZ bD bI aI : Int32) (post : Int32 → Prop) : Array Value → State → Outcome → State → Prop := va_Qi (fun (r : Int32) (u : Unit) => post r) (fun u t => gB (dC, dI) (tyl cI cC cZ cB cJ) A (wd_X3_areStandings cI cC cZ cB cJ wJ tX jE mX pD oO oQ eG bZ bD bI aI) t) A
noncomputable abbrev rm_X3_areStandings : Room := { frames := 1, cells := 0, slots := 0, locals := 20 }
noncomputable def wp_X3_areStandings (post : Int32 → Prop) (p0 bD : Int32) : Prop := wp_X3_allStandings (fun r_1 => (¬ (p0 &&& (r_1 ^^^ (-1))) = 0 → post 0) ∧ ((p0 &&& (r_1 ^^^ (-1))) = 0 → post 1)) bD
set_option maxHeartbeats 4000000 in
set_option maxRecDepth 100000 in
theorem c_X3_areStandings (l : Launch) (dC : Nat → ClassId) (dI : Nat → Nat → Nat) (cI cC cZ cB cJ : ClassId) (wJ tX jE mX pD oO oQ eG sz : Nat) (p0 bZ bD bI aI : Int32) (post : Int32 → Prop) (hw : wp_X3_areStandings post p0 bD) : Met l yX3_areStandings (gw yX3_areStandings cX3_areStandings 2 (some .boolean)) rm_X3_areStandings (va_Pc [.ref wJ, .int p0] (gPre (dC, dI) (tyl cI cC cZ cB cJ) (wd_X3_areStandings cI cC cZ cB cJ wJ tX jE mX pD oO oQ eG bZ bD bI aI) sz)) (q_X3_areStandings dC dI cI cC cZ cB cJ (va_A (wd_X3_areStandings cI cC cZ cB cJ wJ tX jE mX pD oO oQ eG bZ bD bI aI) sz) wJ tX jE mX pD oO oQ eG bZ bD bI aI post) 0 0 (va_A (wd_X3_areStandings cI cC cZ cB cJ wJ tX jE mX pD oO oQ eG bZ bD bI aI) sz) := by
  refine g_enter (own := RX3) (dC, dI) (tyl cI cC cZ cB cJ) (wd_X3_areStandings cI cC cZ cB cJ wJ tX jE mX pD oO oQ eG bZ bD bI aI) sz [.ref wJ, .int p0] (fun A => q_X3_areStandings dC dI cI cC cZ cB cJ A wJ tX jE mX pD oO oQ eG bZ bD bI aI post) pn_RX3 rfl (Nat.le_of_ble_eq_true rfl) ?_
  intro p e s m args below meth c A H locs ls C0 hP hD hS hl
  have hl : lv_has ls 2 [(0, .ref wJ), (1, .int p0)] := hl
  obtain ⟨hx, hb, hr, hml, hown, hts, hlocks, hA, hK, hN, tL, tM, hZL, hTL, hZM, hTM, hZX⟩ := id C0
  have hp := hw
  unfold wp_X3_areStandings at hp
  refine lv_iload_n hx hb eX3_areStandings_0.1 rfl (lv_at hl 1 rfl) ?_
  refine lv_aload_n hx hb eX3_areStandings_0.2.1 rfl (lv_at hl 0 rfl) ?_
  refine g_calli (wc := (wd_X3_allStandings cI cC cZ cB cJ wJ tX jE mX pD oO oQ eG bZ bD bI aI)) hP hD hS hA [0] [] rfl rfl rfl rfl (g_runV (As := []) (rest := [.int p0]) C0 hP hD hS [0] rfl rfl 0 3 rfl rfl (c_X3_allStandings l dC dI cI cC cZ cB cJ wJ tX jE mX pD oO oQ eG H.size bZ bD bI aI _ hp) q_426 q_482 q_427 q_428 q_48 h_X3_allStandings rfl rfl ⟨Nat.le_of_ble_eq_true rfl, Nat.le_of_ble_eq_true rfl⟩ rfl rfl hl.1 rfl (lv_room (Nat.le_of_ble_eq_true rfl)) eX3_areStandings_0.2.2.1 ⟨Nat.zero_le _, Nat.zero_le _⟩) (fun r_1 u H locs hp hP hD hS => ?_)
  have hPD := PDs (ws' := (wd_X3_areStandings cI cC cZ cB cJ wJ tX jE mX pD oO oQ eG bZ bD bI aI)) hP hD [0] (by decide) rfl
  have hP := hPD.1
  have hD := hPD.2
  refine lv_iconst (v := (-1)) hx hb eX3_areStandings_0.2.2.2.1 ic_m1 ?_
  refine lv_ixor hx hb eX3_areStandings_0.2.2.2.2.1 ?_
  refine lv_iand hx hb eX3_areStandings_0.2.2.2.2.2.1 ?_
  refine lv_if_ne (tgt := 15) hx hb eX3_areStandings_0.2.2.2.2.2.2.1 (by decide) (fun hc => ?_) (fun hc => ?_)
  · have hp := hp.1 hc
    refine lv_iconst (v := 0) hx hb eX3_areStandings_0.2.2.2.2.2.2.2.2.2.1 ic_0 ?_
    exact W.zret (v := 0) hx hb hr rfl (fun t ht hW => ⟨⟨0, (), rfl, hp, by rw [ht]; exact hP, va_K.moved hW.alike hK, hD⟩, hS.F ht⟩) hS.2.2 eX3_areStandings_0.2.2.2.2.2.2.2.2.2.2
  · have hp := hp.2 hc
    refine lv_iconst (v := 1) hx hb eX3_areStandings_0.2.2.2.2.2.2.2.1 ic_1 ?_
    refine lv_goto (tgt := 16) hx hb eX3_areStandings_0.2.2.2.2.2.2.2.2.1 (by decide) ?_
    exact W.zret (v := 1) hx hb hr rfl (fun t ht hW => ⟨⟨1, (), rfl, hp, by rw [ht]; exact hP, va_K.moved hW.alike hK, hD⟩, hS.F ht⟩) hS.2.2 eX3_areStandings_0.2.2.2.2.2.2.2.2.2.2
noncomputable abbrev wd_X9_next (cI cC cZ cB cJ : ClassId) (a_x xG xD wY wJ wQ xI xK xJ tW uE qU uJ uL uI xH tX jE mX pD oO oQ eG qT : Nat) (oX rJ pN rP : Int32) (rX : Nat → Int32) (bZ bD bI aI : Int32) (wD gF pE qA nJ nY dQ : Nat → Int32) (jC eO eW dO fJ fY jD nG qF : Int32) (jJ : Nat → Int32) : va_W := [(a_x, .inr (9, [.ref xG, .ref xD, .ref wY, .ref wJ, .ref wQ, .ref xI, .ref xK, .ref xJ, .ref tW])), (xD, .inr (5, [.ref wY, .ref wJ, .ref uE, .ref qU, .ref uJ, .ref uL, .ref uI, .int oX, .int rJ, .int pN, .int rP])), (uE, .inl (cI, 8, .inl rX)), (wY, .inr (0, [.ref wJ, .ref wQ, .ref xH])), (wJ, .inr (3, [.ref tX, .ref jE, .ref mX, .ref pD, .ref oO, .ref oQ, .ref eG, .int bZ, .int bD, .int bI, .int aI])), (tX, .inl (cI, 16, .inl wD)), (jE, .inl (cI, 16, .inl gF)), (mX, .inl (cI, 16, .inl pE)), (pD, .inl (cI, 16, .inl qA)), (oO, .inl (cI, 8, .inl nJ)), (oQ, .inl (cI, 8, .inl nY)), (eG, .inl (cI, 5, .inl dQ)), (wQ, .inr (2, [.int jC, .int eO, .int eW, .int dO, .int fJ, .int fY, .int jD, .int nG])), (xK, .inr (6, [.ref qT, .int qF])), (qT, .inl (cI, 16, .inl jJ))]
noncomputable abbrev q_X9_next (dC : Nat → ClassId) (dI : Nat → Nat → Nat) (cI cC cZ cB cJ : ClassId) (A : Nat → Prop) (a_x xG xD wY wJ wQ xI xK xJ tW uE qU uJ uL uI xH tX jE mX pD oO oQ eG qT : Nat) (rJ pN rP bZ bD bI aI : Int32) (wD gF pE qA nJ nY dQ : Nat → Int32) (jC eO eW dO fJ fY jD nG : Int32) (post : Int32 → Int32 → (Nat → Int32) → Int32 → (Nat → Int32) → Prop) : Array Value → State → Outcome → State → Prop := va_Qi (fun (r : Int32) (u : Int32 × (Nat → Int32) × Int32 × (Nat → Int32)) => post r u.1 u.2.1 u.2.2.1 u.2.2.2) (fun u t => gB (dC, dI) (tyl cI cC cZ cB cJ) A (wd_X9_next cI cC cZ cB cJ a_x xG xD wY wJ wQ xI xK xJ tW uE qU uJ uL uI xH tX jE mX pD oO oQ eG qT u.1 rJ pN rP u.2.1 bZ bD bI aI wD gF pE qA nJ nY dQ jC eO eW dO fJ fY jD nG u.2.2.1 u.2.2.2) t) A
noncomputable abbrev rm_X9_next : Room := { frames := 5, cells := 0, slots := 0, locals := 115 }
section S_X9_next
variable {p : Program} {l : Launch} {e : Env} {s : State} {m : MethodId} {args : Array Value} {below : List Frame} {meth : Method} {c : Code} {dC : Nat → ClassId} {dI : Nat → Nat → Nat} {cI cC cZ cB cJ : ClassId} {A : Nat → Prop} {a_x xG xD wY wJ wQ xI xK xJ tW uE qU uJ uL uI xH tX jE mX pD oO oQ eG qT : Nat} {rJ pN rP bZ bD bI aI : Int32} {wD gF pE qA nJ nY dQ : Nat → Int32} {jC eO eW dO fJ fY jD nG : Int32} {post : Int32 → Int32 → (Nat → Int32) → Int32 → (Nat → Int32) → Prop}
noncomputable def ws_X9_next_80 (post : Int32 → Int32 → (Nat → Int32) → Int32 → (Nat → Int32) → Prop) (K28 : Int32 → Int32 → Int32 → Int32 → Int32 → (Nat → Int32) → Int32 → (Nat → Int32) → Prop) (bZ bD : Int32) (wD gF pE qA nJ nY dQ : Nat → Int32) (jC eO eW dO fY jD x1 x2 x3 x4 oX : Int32) (rX : Nat → Int32) (qF : Int32) (jJ : Nat → Int32) : Prop := ∀ v_8 : Int32, v_8 = x4 + 1 → K28 x1 x2 x3 v_8 oX rX qF jJ
set_option maxHeartbeats 4000000 in
set_option maxRecDepth 100000 in
theorem ks_X9_next_80 (C0 : gc cX9_next (some .int) 6 RX9 (dC, dI) (tyl cI cC cZ cB cJ) A p s m args meth c) {K28 : Int32 → Int32 → Int32 → Int32 → Int32 → (Nat → Int32) → Int32 → (Nat → Int32) → Prop} (hK28 : ∀ (x1 : Int32) (x2 : Int32) (x3 : Int32) (x4 : Int32) (oX : Int32) (rX : Nat → Int32) (qF : Int32) (jJ : Nat → Int32) (H : Heap) (locs : List Loc) (ls : Array Slot), K28 x1 x2 x3 x4 oX rX qF jJ → va_P (dC, dI) classes (wd_X9_next cI cC cZ cB cJ a_x xG xD wY wJ wQ xI xK xJ tW uE qU uJ uL uI xH tX jE mX pD oO oQ eG qT oX rJ pN rP rX bZ bD bI aI wD gF pE qA nJ nY dQ jC eO eW dO fJ fY jD nG qF jJ) H → va_D A (wd_X9_next cI cC cZ cB cJ a_x xG xD wY wJ wQ xI xK xJ tW uE qU uJ uL uI xH tX jE mX pD oO oQ eG qT oX rJ pN rP rX bZ bD bI aI wD gF pE qA nJ nY dQ jC eO eW dO fJ fY jD nG qF jJ) → va_S A s.heap H locs → lv_has ls 6 [(0, .ref a_x), (1, .int x1), (2, .int x2), (3, .int x3), (4, .int x4)] → W p l e rm_X9_next s m args below meth c H locs 0 0 (MQ below (q_X9_next dC dI cI cC cZ cB cJ A a_x xG xD wY wJ wQ xI xK xJ tW uE qU uJ uL uI xH tX jE mX pD oO oQ eG qT rJ pN rP bZ bD bI aI wD gF pE qA nJ nY dQ jC eO eW dO fJ fY jD nG post) args s 0 0 A) (F0 m 28 ls [])) : ∀ (x1 x2 x3 x4 oX : Int32) (rX : Nat → Int32) (qF : Int32) (jJ : Nat → Int32) (H : Heap) (locs : List Loc) (ls : Array Slot), (ws_X9_next_80 post K28 bZ bD wD gF pE qA nJ nY dQ jC eO eW dO fY jD) x1 x2 x3 x4 oX rX qF jJ → va_P (dC, dI) classes (wd_X9_next cI cC cZ cB cJ a_x xG xD wY wJ wQ xI xK xJ tW uE qU uJ uL uI xH tX jE mX pD oO oQ eG qT oX rJ pN rP rX bZ bD bI aI wD gF pE qA nJ nY dQ jC eO eW dO fJ fY jD nG qF jJ) H → va_D A (wd_X9_next cI cC cZ cB cJ a_x xG xD wY wJ wQ xI xK xJ tW uE qU uJ uL uI xH tX jE mX pD oO oQ eG qT oX rJ pN rP rX bZ bD bI aI wD gF pE qA nJ nY dQ jC eO eW dO fJ fY jD nG qF jJ) → va_S A s.heap H locs → lv_has ls 6 [(0, .ref a_x), (1, .int x1), (2, .int x2), (3, .int x3), (4, .int x4)] → W p l e rm_X9_next s m args below meth c H locs 0 0 (MQ below (q_X9_next dC dI cI cC cZ cB cJ A a_x xG xD wY wJ wQ xI xK xJ tW uE qU uJ uL uI xH tX jE mX pD oO oQ eG qT rJ pN rP bZ bD bI aI wD gF pE qA nJ nY dQ jC eO eW dO fJ fY jD nG post) args s 0 0 A) (F0 m 80 ls []) := by
  obtain ⟨hx, hb, hr, hml, hown, hts, hlocks, hA, hK, hN, tL, tM, hZL, hTL, hZM, hTM, hZX⟩ := id C0
  intro x1 x2 x3 x4 oX rX qF jJ H locs ls hp hP hD hS hl
  unfold ws_X9_next_80 at hp
  obtain ⟨v_8, ev_8⟩ : ∃ y : Int32, y = x4 + 1 := ⟨_, rfl⟩
  refine lv_iinc (v := v_8) (lv' := [(4, .int v_8), (0, .ref a_x), (1, .int x1), (2, .int x2), (3, .int x3)]) hx hb eX9_next_57.2.2.2.2.2.2.2.2.2.2.2.2.2.1 hl (k := 4) rfl (by rw [ev_8]; rfl) (by decide) rfl (fun ls hl => ?_)
  have hp := hp v_8 ev_8
  refine lv_goto (tgt := 28) hx hb eX9_next_57.2.2.2.2.2.2.2.2.2.2.2.2.2.2.1 (by decide) ?_
  exact hK28 x1 x2 x3 v_8 oX rX qF jJ H locs ls hp hP hD hS (lv_sub hl [1, 2, 3, 4, 0] rfl)
noncomputable def ws_X9_next_74 (post : Int32 → Int32 → (Nat → Int32) → Int32 → (Nat → Int32) → Prop) (K28 : Int32 → Int32 → Int32 → Int32 → Int32 → (Nat → Int32) → Int32 → (Nat → Int32) → Prop) (bZ bD : Int32) (wD gF pE qA nJ nY dQ : Nat → Int32) (jC eO eW dO fY jD x1 x4 x5 oX : Int32) (rX : Nat → Int32) (qF : Int32) (jJ : Nat → Int32) : Prop := ws_X9_next_80 post K28 bZ bD wD gF pE qA nJ nY dQ jC eO eW dO fY jD x1 x4 x5 x4 oX rX qF jJ
set_option maxHeartbeats 4000000 in
set_option maxRecDepth 100000 in
theorem ks_X9_next_74 (C0 : gc cX9_next (some .int) 6 RX9 (dC, dI) (tyl cI cC cZ cB cJ) A p s m args meth c) {K28 : Int32 → Int32 → Int32 → Int32 → Int32 → (Nat → Int32) → Int32 → (Nat → Int32) → Prop} (hK28 : ∀ (x1 : Int32) (x2 : Int32) (x3 : Int32) (x4 : Int32) (oX : Int32) (rX : Nat → Int32) (qF : Int32) (jJ : Nat → Int32) (H : Heap) (locs : List Loc) (ls : Array Slot), K28 x1 x2 x3 x4 oX rX qF jJ → va_P (dC, dI) classes (wd_X9_next cI cC cZ cB cJ a_x xG xD wY wJ wQ xI xK xJ tW uE qU uJ uL uI xH tX jE mX pD oO oQ eG qT oX rJ pN rP rX bZ bD bI aI wD gF pE qA nJ nY dQ jC eO eW dO fJ fY jD nG qF jJ) H → va_D A (wd_X9_next cI cC cZ cB cJ a_x xG xD wY wJ wQ xI xK xJ tW uE qU uJ uL uI xH tX jE mX pD oO oQ eG qT oX rJ pN rP rX bZ bD bI aI wD gF pE qA nJ nY dQ jC eO eW dO fJ fY jD nG qF jJ) → va_S A s.heap H locs → lv_has ls 6 [(0, .ref a_x), (1, .int x1), (2, .int x2), (3, .int x3), (4, .int x4)] → W p l e rm_X9_next s m args below meth c H locs 0 0 (MQ below (q_X9_next dC dI cI cC cZ cB cJ A a_x xG xD wY wJ wQ xI xK xJ tW uE qU uJ uL uI xH tX jE mX pD oO oQ eG qT rJ pN rP bZ bD bI aI wD gF pE qA nJ nY dQ jC eO eW dO fJ fY jD nG post) args s 0 0 A) (F0 m 28 ls [])) : ∀ (x1 x4 x5 oX : Int32) (rX : Nat → Int32) (qF : Int32) (jJ : Nat → Int32) (H : Heap) (locs : List Loc) (ls : Array Slot), (ws_X9_next_74 post K28 bZ bD wD gF pE qA nJ nY dQ jC eO eW dO fY jD) x1 x4 x5 oX rX qF jJ → va_P (dC, dI) classes (wd_X9_next cI cC cZ cB cJ a_x xG xD wY wJ wQ xI xK xJ tW uE qU uJ uL uI xH tX jE mX pD oO oQ eG qT oX rJ pN rP rX bZ bD bI aI wD gF pE qA nJ nY dQ jC eO eW dO fJ fY jD nG qF jJ) H → va_D A (wd_X9_next cI cC cZ cB cJ a_x xG xD wY wJ wQ xI xK xJ tW uE qU uJ uL uI xH tX jE mX pD oO oQ eG qT oX rJ pN rP rX bZ bD bI aI wD gF pE qA nJ nY dQ jC eO eW dO fJ fY jD nG qF jJ) → va_S A s.heap H locs → lv_has ls 6 [(0, .ref a_x), (1, .int x1), (4, .int x4), (5, .int x5)] → W p l e rm_X9_next s m args below meth c H locs 0 0 (MQ below (q_X9_next dC dI cI cC cZ cB cJ A a_x xG xD wY wJ wQ xI xK xJ tW uE qU uJ uL uI xH tX jE mX pD oO oQ eG qT rJ pN rP bZ bD bI aI wD gF pE qA nJ nY dQ jC eO eW dO fJ fY jD nG post) args s 0 0 A) (F0 m 74 ls []) := by
  obtain ⟨hx, hb, hr, hml, hown, hts, hlocks, hA, hK, hN, tL, tM, hZL, hTL, hZM, hTM, hZX⟩ := id C0
  intro x1 x4 x5 oX rX qF jJ H locs ls hp hP hD hS hl
  unfold ws_X9_next_74 at hp
  refine lv_iload hx hb eX9_next_57.2.2.2.2.2.2.2.2.2.1 (lv_at hl 2 rfl) ?_
  refine lv_istore_n (lv' := [(2, .int x4), (0, .ref a_x), (1, .int x1), (4, .int x4), (5, .int x5)]) hx hb eX9_next_57.2.2.2.2.2.2.2.2.2.2.1 rfl hl (by decide) rfl (fun ls hl => ?_)
  refine lv_iload hx hb eX9_next_57.2.2.2.2.2.2.2.2.2.2.2.1 (lv_at hl 4 rfl) ?_
  refine lv_istore_n (lv' := [(3, .int x5), (2, .int x4), (0, .ref a_x), (1, .int x1), (4, .int x4), (5, .int x5)]) hx hb eX9_next_57.2.2.2.2.2.2.2.2.2.2.2.2.1 rfl hl (by decide) rfl (fun ls hl => ?_)
  exact ks_X9_next_80 C0 hK28 x1 x4 x5 x4 oX rX qF jJ H locs ls hp hP hD hS (lv_sub hl [2, 3, 1, 0, 4] rfl)
noncomputable def ws_X9_next_28 (post : Int32 → Int32 → (Nat → Int32) → Int32 → (Nat → Int32) → Prop) (next : Int32 → Int32 → Int32 → Int32 → Int32 → (Nat → Int32) → Int32 → (Nat → Int32) → Prop) (bZ bD : Int32) (wD gF pE qA nJ nY dQ : Nat → Int32) (jC eO eW dO fY jD x1 x2 x3 x4 oX : Int32) (rX : Nat → Int32) (qF : Int32) (jJ : Nat → Int32) : Prop := (bD ≤ x4 → (x2 < 0 → post x2 oX rX qF jJ) ∧ (¬ x2 < 0 → wp_X5_worthLeft (fun r_4 => wp_X9_tell_ (fun aLf aDn => post x2 oX rX aLf aDn) x3 r_4 qF jJ) x1 oX rX bZ bD pE dO)) ∧ (¬ bD ≤ x4 → ∀ v_7 : Int32, v_7 = x1 >>> (x4 &&& 31) → (¬ (v_7 &&& 1) = 0 → ws_X9_next_80 post next bZ bD wD gF pE qA nJ nY dQ jC eO eW dO fY jD x1 x2 x3 x4 oX rX qF jJ) ∧ ((v_7 &&& 1) = 0 → ∀ v_9 : Int32, v_9 = x1 ||| (1 <<< (x4 &&& 31)) → wp_X5_worthLeft (fun r_10 => (x2 < 0 → ws_X9_next_74 post next bZ bD wD gF pE qA nJ nY dQ jC eO eW dO fY jD x1 x4 r_10 oX rX qF jJ) ∧ (¬ x2 < 0 → (x3 ≤ r_10 → ws_X9_next_80 post next bZ bD wD gF pE qA nJ nY dQ jC eO eW dO fY jD x1 x2 x3 x4 oX rX qF jJ) ∧ (¬ x3 ≤ r_10 → ws_X9_next_74 post next bZ bD wD gF pE qA nJ nY dQ jC eO eW dO fY jD x1 x4 r_10 oX rX qF jJ))) v_9 oX rX bZ bD pE dO))
noncomputable def wb_X9_next_28 (post : Int32 → Int32 → (Nat → Int32) → Int32 → (Nat → Int32) → Prop) (bZ bD : Int32) (wD gF pE qA nJ nY dQ : Nat → Int32) (jC eO eW dO fY jD : Int32) : Nat → Int32 → Int32 → Int32 → Int32 → Int32 → (Nat → Int32) → Int32 → (Nat → Int32) → Prop := fun n => Nat.rec (motive := fun _ => Int32 → Int32 → Int32 → Int32 → Int32 → (Nat → Int32) → Int32 → (Nat → Int32) → Prop) (fun _ _ _ _ _ _ _ _ => False) (fun _ ih => ws_X9_next_28 post ih bZ bD wD gF pE qA nJ nY dQ jC eO eW dO fY jD) n
set_option maxHeartbeats 4000000 in
set_option maxRecDepth 100000 in
theorem ks_X9_next_28 (C0 : gc cX9_next (some .int) 6 RX9 (dC, dI) (tyl cI cC cZ cB cJ) A p s m args meth c) {next : Int32 → Int32 → Int32 → Int32 → Int32 → (Nat → Int32) → Int32 → (Nat → Int32) → Prop} (hKn : ∀ (x1 : Int32) (x2 : Int32) (x3 : Int32) (x4 : Int32) (oX : Int32) (rX : Nat → Int32) (qF : Int32) (jJ : Nat → Int32) (H : Heap) (locs : List Loc) (ls : Array Slot), next x1 x2 x3 x4 oX rX qF jJ → va_P (dC, dI) classes (wd_X9_next cI cC cZ cB cJ a_x xG xD wY wJ wQ xI xK xJ tW uE qU uJ uL uI xH tX jE mX pD oO oQ eG qT oX rJ pN rP rX bZ bD bI aI wD gF pE qA nJ nY dQ jC eO eW dO fJ fY jD nG qF jJ) H → va_D A (wd_X9_next cI cC cZ cB cJ a_x xG xD wY wJ wQ xI xK xJ tW uE qU uJ uL uI xH tX jE mX pD oO oQ eG qT oX rJ pN rP rX bZ bD bI aI wD gF pE qA nJ nY dQ jC eO eW dO fJ fY jD nG qF jJ) → va_S A s.heap H locs → lv_has ls 6 [(0, .ref a_x), (1, .int x1), (2, .int x2), (3, .int x3), (4, .int x4)] → W p l e rm_X9_next s m args below meth c H locs 0 0 (MQ below (q_X9_next dC dI cI cC cZ cB cJ A a_x xG xD wY wJ wQ xI xK xJ tW uE qU uJ uL uI xH tX jE mX pD oO oQ eG qT rJ pN rP bZ bD bI aI wD gF pE qA nJ nY dQ jC eO eW dO fJ fY jD nG post) args s 0 0 A) (F0 m 28 ls [])) : ∀ (x1 x2 x3 x4 oX : Int32) (rX : Nat → Int32) (qF : Int32) (jJ : Nat → Int32) (H : Heap) (locs : List Loc) (ls : Array Slot), (ws_X9_next_28 post next bZ bD wD gF pE qA nJ nY dQ jC eO eW dO fY jD) x1 x2 x3 x4 oX rX qF jJ → va_P (dC, dI) classes (wd_X9_next cI cC cZ cB cJ a_x xG xD wY wJ wQ xI xK xJ tW uE qU uJ uL uI xH tX jE mX pD oO oQ eG qT oX rJ pN rP rX bZ bD bI aI wD gF pE qA nJ nY dQ jC eO eW dO fJ fY jD nG qF jJ) H → va_D A (wd_X9_next cI cC cZ cB cJ a_x xG xD wY wJ wQ xI xK xJ tW uE qU uJ uL uI xH tX jE mX pD oO oQ eG qT oX rJ pN rP rX bZ bD bI aI wD gF pE qA nJ nY dQ jC eO eW dO fJ fY jD nG qF jJ) → va_S A s.heap H locs → lv_has ls 6 [(0, .ref a_x), (1, .int x1), (2, .int x2), (3, .int x3), (4, .int x4)] → W p l e rm_X9_next s m args below meth c H locs 0 0 (MQ below (q_X9_next dC dI cI cC cZ cB cJ A a_x xG xD wY wJ wQ xI xK xJ tW uE qU uJ uL uI xH tX jE mX pD oO oQ eG qT rJ pN rP bZ bD bI aI wD gF pE qA nJ nY dQ jC eO eW dO fJ fY jD nG post) args s 0 0 A) (F0 m 28 ls []) := by
  obtain ⟨hx, hb, hr, hml, hown, hts, hlocks, hA, hK, hN, tL, tM, hZL, hTL, hZM, hTM, hZX⟩ := id C0
  intro x1 x2 x3 x4 oX rX qF jJ H locs ls hp hP hD hS hl
  unfold ws_X9_next_28 at hp
  refine lv_iload hx hb eX9_next_28.1 (lv_at hl 4 rfl) ?_
  refine lv_aload_n hx hb eX9_next_28.2.1 rfl (lv_at hl 0 rfl) ?_
  refine va_get (D := (dC, dI)) (ci := 9) (v := .ref wJ) (C := RX9) (T := TX9) (N := 9) hx hb hts i_X9 hown hK hP 0 rfl rfl 3 (Nat.le_of_ble_eq_true rfl) (hts _ q_74) (fun _ h9 => h9) rfl eX9_next_28.2.2.1 ?_
  refine va_get (D := (dC, dI)) (ci := 3) (v := .int bD) (C := RX3) (T := TX3) (N := 11) hx hb hts i_X3 hown hK hP 4 rfl rfl 8 (Nat.le_of_ble_eq_true rfl) (hts _ q_415) (fun _ h9 => h9) rfl eX9_next_28.2.2.2.1 ?_
  refine lv_icmp_ge (tgt := 86) hx hb eX9_next_28.2.2.2.2.1 (by decide) (fun hc => ?_) (fun hc => ?_)
  · have hp := hp.1 hc
    refine lv_iload_n hx hb eX9_next_57.2.2.2.2.2.2.2.2.2.2.2.2.2.2.2 rfl (lv_at hl 2 rfl) ?_
    refine lv_if_lt (tgt := 103) hx hb eX9_next_87.1 (by decide) (fun hc => ?_) (fun hc => ?_)
    · have hp := hp.1 hc
      refine lv_iload_n hx hb eX9_next_87.2.2.2.2.2.2.2.2.1 rfl (lv_at hl 2 rfl) ?_
      exact W.iret (v := x2) hx hb hr (fun t ht hW => ⟨⟨x2, (oX, rX, qF, jJ), rfl, hp, by rw [ht]; exact hP, va_K.moved hW.alike hK, hD⟩, hS.F ht⟩) hS.2.2 eX9_next_87.2.2.2.2.2.2.2.2.2
    · have hp := hp.2 hc
      refine lv_aload_n hx hb eX9_next_87.2.1 rfl (lv_at hl 0 rfl) ?_
      refine lv_iload_n hx hb eX9_next_87.2.2.1 rfl (lv_at hl 3 rfl) ?_
      refine lv_aload_n hx hb eX9_next_87.2.2.2.1 rfl (lv_at hl 0 rfl) ?_
      refine va_get (D := (dC, dI)) (ci := 9) (v := .ref xD) (C := RX9) (T := TX9) (N := 9) hx hb hts i_X9 hown hK hP 0 rfl rfl 1 (Nat.le_of_ble_eq_true rfl) (hts _ q_444) (fun _ h9 => h9) rfl eX9_next_87.2.2.2.2.1 ?_
      refine lv_iload_n hx hb eX9_next_87.2.2.2.2.2.1 rfl (lv_at hl 1 rfl) ?_
      have hm := mgk (wc := (wd_X5_worthLeft cI cC cZ cB cJ xD wY wJ uE qU uJ uL uI wQ xH tX jE mX pD oO oQ eG oX rJ pN rP rX bZ bD bI aI pE jC eO eW dO fJ fY jD nG)) hP mk_130 15 rfl rfl rfl
      refine g_calli hP hD hS hA (mixT mk_130) (mixF mk_130) hm.1 hm.2 (nd_F _) (dis_g _) (g_runV (As := [.int x1]) (rest := [.int x3, .ref a_x]) C0 hP hD hS (mixT mk_130) hm.1 (nd_T _) 1 5 rfl rfl (c_X5_worthLeft l dC dI cI cC cZ cB cJ xD wY wJ uE qU uJ uL uI wQ xH tX jE mX pD oO oQ eG H.size x1 oX rJ pN rP rX bZ bD bI aI pE jC eO eW dO fJ fY jD nG _ hp) q_475 q_478 q_476 q_477 q_431 h_X5_worthLeft rfl rfl ⟨Nat.le_of_ble_eq_true rfl, Nat.le_of_ble_eq_true rfl⟩ rfl rfl hl.1 rfl (lv_room (Nat.le_of_ble_eq_true rfl)) eX9_next_87.2.2.2.2.2.2.1 ⟨Nat.zero_le _, Nat.zero_le _⟩) (fun r_4 u H locs hp hP hD hS => ?_)
      have hPD := PDm (ws' := (wd_X9_next cI cC cZ cB cJ a_x xG xD wY wJ wQ xI xK xJ tW uE qU uJ uL uI xH tX jE mX pD oO oQ eG qT oX rJ pN rP rX bZ bD bI aI wD gF pE qA nJ nY dQ jC eO eW dO fJ fY jD nG qF jJ)) hP hD 15 rfl rfl rfl
      have hP := hPD.1
      have hD := hPD.2
      have hm := mgk (wc := (wd_X9_tell_ cI cC cZ cB cJ a_x xG xD wY wJ wQ xI xK xJ tW qT qF jJ)) hP mk_128 15 rfl rfl rfl
      refine g_callv hP hD hS hA (mixT mk_128) (mixF mk_128) hm.1 hm.2 (nd_F _) (dis_g _) (g_runV (As := [.int x3, .int r_4]) (rest := []) C0 hP hD hS (mixT mk_128) hm.1 (nd_T _) 0 9 rfl rfl (c_X9_tell_ l dC dI cI cC cZ cB cJ a_x xG xD wY wJ wQ xI xK xJ tW qT H.size x3 r_4 qF jJ _ hp) q_377 q_380 q_378 q_379 q_256 h_X9_tell_ rfl rfl ⟨Nat.le_of_ble_eq_true rfl, Nat.le_of_ble_eq_true rfl⟩ rfl rfl hl.1 rfl (lv_room (Nat.le_of_ble_eq_true rfl)) eX9_next_87.2.2.2.2.2.2.2.1 ⟨Nat.zero_le _, Nat.zero_le _⟩) (fun u H locs hp hP hD hS => ?_)
      obtain ⟨aLf, aDn⟩ := u
      have hPD := PDm (ws' := (wd_X9_next cI cC cZ cB cJ a_x xG xD wY wJ wQ xI xK xJ tW uE qU uJ uL uI xH tX jE mX pD oO oQ eG qT oX rJ pN rP rX bZ bD bI aI wD gF pE qA nJ nY dQ jC eO eW dO fJ fY jD nG aLf aDn)) hP hD 15 rfl rfl rfl
      have hP := hPD.1
      have hD := hPD.2
      refine lv_iload_n hx hb eX9_next_87.2.2.2.2.2.2.2.2.1 rfl (lv_at hl 2 rfl) ?_
      exact W.iret (v := x2) hx hb hr (fun t ht hW => ⟨⟨x2, (oX, rX, aLf, aDn), rfl, hp, by rw [ht]; exact hP, va_K.moved hW.alike hK, hD⟩, hS.F ht⟩) hS.2.2 eX9_next_87.2.2.2.2.2.2.2.2.2
  · have hp := hp.2 hc
    refine lv_iload_n hx hb eX9_next_28.2.2.2.2.2.1 rfl (lv_at hl 1 rfl) ?_
    refine lv_iload hx hb eX9_next_28.2.2.2.2.2.2.1 (lv_at hl 4 rfl) ?_
    refine lv_ishr hx hb eX9_next_28.2.2.2.2.2.2.2.1 ?_
    refine lv_topi (fun v_7 ev_7 => ?_)
    have hp := hp v_7 ev_7
    refine lv_iconst (v := 1) hx hb eX9_next_28.2.2.2.2.2.2.2.2.1 ic_1 ?_
    refine lv_iand hx hb eX9_next_28.2.2.2.2.2.2.2.2.2.1 ?_
    refine lv_if_ne (tgt := 80) hx hb eX9_next_28.2.2.2.2.2.2.2.2.2.2.1 (by decide) (fun hc => ?_) (fun hc => ?_)
    · have hp := hp.1 hc
      exact ks_X9_next_80 C0 hKn x1 x2 x3 x4 oX rX qF jJ H locs ls hp hP hD hS (lv_sub hl [0, 1, 2, 3, 4] rfl)
    · have hp := hp.2 hc
      refine lv_aload_n hx hb eX9_next_28.2.2.2.2.2.2.2.2.2.2.2.1 rfl (lv_at hl 0 rfl) ?_
      refine va_get (D := (dC, dI)) (ci := 9) (v := .ref xD) (C := RX9) (T := TX9) (N := 9) hx hb hts i_X9 hown hK hP 0 rfl rfl 1 (Nat.le_of_ble_eq_true rfl) (hts _ q_444) (fun _ h9 => h9) rfl eX9_next_28.2.2.2.2.2.2.2.2.2.2.2.2.1 ?_
      refine lv_iload_n hx hb eX9_next_28.2.2.2.2.2.2.2.2.2.2.2.2.2.1 rfl (lv_at hl 1 rfl) ?_
      refine lv_iconst (v := 1) hx hb eX9_next_28.2.2.2.2.2.2.2.2.2.2.2.2.2.2.1 ic_1 ?_
      refine lv_iload hx hb eX9_next_28.2.2.2.2.2.2.2.2.2.2.2.2.2.2.2 (lv_at hl 4 rfl) ?_
      refine lv_ishl hx hb eX9_next_57.1 ?_
      refine lv_ior hx hb eX9_next_57.2.1 ?_
      refine lv_topi (fun v_9 ev_9 => ?_)
      have hp := hp v_9 ev_9
      have hm := mgk (wc := (wd_X5_worthLeft cI cC cZ cB cJ xD wY wJ uE qU uJ uL uI wQ xH tX jE mX pD oO oQ eG oX rJ pN rP rX bZ bD bI aI pE jC eO eW dO fJ fY jD nG)) hP mk_130 15 rfl rfl rfl
      refine g_calli hP hD hS hA (mixT mk_130) (mixF mk_130) hm.1 hm.2 (nd_F _) (dis_g _) (g_runV (As := [.int v_9]) (rest := []) C0 hP hD hS (mixT mk_130) hm.1 (nd_T _) 1 5 rfl rfl (c_X5_worthLeft l dC dI cI cC cZ cB cJ xD wY wJ uE qU uJ uL uI wQ xH tX jE mX pD oO oQ eG H.size v_9 oX rJ pN rP rX bZ bD bI aI pE jC eO eW dO fJ fY jD nG _ hp) q_475 q_478 q_476 q_477 q_431 h_X5_worthLeft rfl rfl ⟨Nat.le_of_ble_eq_true rfl, Nat.le_of_ble_eq_true rfl⟩ rfl rfl hl.1 rfl (lv_room (Nat.le_of_ble_eq_true rfl)) eX9_next_57.2.2.1 ⟨Nat.zero_le _, Nat.zero_le _⟩) (fun r_10 u H locs hp hP hD hS => ?_)
      have hPD := PDm (ws' := (wd_X9_next cI cC cZ cB cJ a_x xG xD wY wJ wQ xI xK xJ tW uE qU uJ uL uI xH tX jE mX pD oO oQ eG qT oX rJ pN rP rX bZ bD bI aI wD gF pE qA nJ nY dQ jC eO eW dO fJ fY jD nG qF jJ)) hP hD 15 rfl rfl rfl
      have hP := hPD.1
      have hD := hPD.2
      refine lv_istore (lv' := [(5, .int r_10), (0, .ref a_x), (1, .int x1), (2, .int x2), (3, .int x3), (4, .int x4)]) hx hb eX9_next_57.2.2.2.1 hl (by decide) rfl (fun ls hl => ?_)
      refine lv_iload_n hx hb eX9_next_57.2.2.2.2.1 rfl (lv_at hl 3 rfl) ?_
      refine lv_if_lt (tgt := 74) hx hb eX9_next_57.2.2.2.2.2.1 (by decide) (fun hc => ?_) (fun hc => ?_)
      · have hp := hp.1 hc
        exact ks_X9_next_74 C0 hKn x1 x4 r_10 oX rX qF jJ H locs ls hp hP hD hS (lv_sub hl [1, 2, 5, 0] rfl)
      · have hp := hp.2 hc
        refine lv_iload hx hb eX9_next_57.2.2.2.2.2.2.1 (lv_at hl 0 rfl) ?_
        refine lv_iload_n hx hb eX9_next_57.2.2.2.2.2.2.2.1 rfl (lv_at hl 4 rfl) ?_
        refine lv_icmp_ge (tgt := 80) hx hb eX9_next_57.2.2.2.2.2.2.2.2.1 (by decide) (fun hc => ?_) (fun hc => ?_)
        · have hp := hp.1 hc
          exact ks_X9_next_80 C0 hKn x1 x2 x3 x4 oX rX qF jJ H locs ls hp hP hD hS (lv_sub hl [1, 2, 3, 4, 5] rfl)
        · have hp := hp.2 hc
          exact ks_X9_next_74 C0 hKn x1 x4 r_10 oX rX qF jJ H locs ls hp hP hD hS (lv_sub hl [1, 2, 5, 0] rfl)
set_option maxHeartbeats 4000000 in
set_option maxRecDepth 100000 in
theorem kb_X9_next_28 (C0 : gc cX9_next (some .int) 6 RX9 (dC, dI) (tyl cI cC cZ cB cJ) A p s m args meth c) : ∀ (n : Nat), ∀ (x1 x2 x3 x4 oX : Int32) (rX : Nat → Int32) (qF : Int32) (jJ : Nat → Int32) (H : Heap) (locs : List Loc) (ls : Array Slot), (wb_X9_next_28 post bZ bD wD gF pE qA nJ nY dQ jC eO eW dO fY jD n) x1 x2 x3 x4 oX rX qF jJ → va_P (dC, dI) classes (wd_X9_next cI cC cZ cB cJ a_x xG xD wY wJ wQ xI xK xJ tW uE qU uJ uL uI xH tX jE mX pD oO oQ eG qT oX rJ pN rP rX bZ bD bI aI wD gF pE qA nJ nY dQ jC eO eW dO fJ fY jD nG qF jJ) H → va_D A (wd_X9_next cI cC cZ cB cJ a_x xG xD wY wJ wQ xI xK xJ tW uE qU uJ uL uI xH tX jE mX pD oO oQ eG qT oX rJ pN rP rX bZ bD bI aI wD gF pE qA nJ nY dQ jC eO eW dO fJ fY jD nG qF jJ) → va_S A s.heap H locs → lv_has ls 6 [(0, .ref a_x), (1, .int x1), (2, .int x2), (3, .int x3), (4, .int x4)] → W p l e rm_X9_next s m args below meth c H locs 0 0 (MQ below (q_X9_next dC dI cI cC cZ cB cJ A a_x xG xD wY wJ wQ xI xK xJ tW uE qU uJ uL uI xH tX jE mX pD oO oQ eG qT rJ pN rP bZ bD bI aI wD gF pE qA nJ nY dQ jC eO eW dO fJ fY jD nG post) args s 0 0 A) (F0 m 28 ls []) := by
  intro n
  induction n with
  | zero =>
    intro x1 x2 x3 x4 oX rX qF jJ H locs ls hp
    exact False.elim hp
  | succ n ih =>
    intro x1 x2 x3 x4 oX rX qF jJ H locs ls hp
    exact ks_X9_next_28 C0 ih x1 x2 x3 x4 oX rX qF jJ H locs ls hp
end S_X9_next
noncomputable def wp_X9_next (post : Int32 → Int32 → (Nat → Int32) → Int32 → (Nat → Int32) → Prop) (p0 oX : Int32) (rX : Nat → Int32) (bZ bD : Int32) (wD gF pE qA nJ nY dQ : Nat → Int32) (jC eO eW dO fY jD qF : Int32) (jJ : Nat → Int32) : Prop := wp_X3_areStandings (fun r_1 => (¬ r_1 = 0 → wp_X5_look (fun xR yA => ∃ n : Nat, wb_X9_next_28 post bZ bD wD gF pE qA nJ nY dQ jC eO eW dO fY jD n p0 (-2) 0 0 xR yA qF jJ) oX rX bZ bD wD gF qA nJ nY dQ jC eO eW fY jD) ∧ (r_1 = 0 → post (-1) oX rX qF jJ)) p0 bD
set_option maxHeartbeats 4000000 in
set_option maxRecDepth 100000 in
theorem c_X9_next (l : Launch) (dC : Nat → ClassId) (dI : Nat → Nat → Nat) (cI cC cZ cB cJ : ClassId) (a_x xG xD wY wJ wQ xI xK xJ tW uE qU uJ uL uI xH tX jE mX pD oO oQ eG qT sz : Nat) (p0 oX rJ pN rP : Int32) (rX : Nat → Int32) (bZ bD bI aI : Int32) (wD gF pE qA nJ nY dQ : Nat → Int32) (jC eO eW dO fJ fY jD nG qF : Int32) (jJ : Nat → Int32) (post : Int32 → Int32 → (Nat → Int32) → Int32 → (Nat → Int32) → Prop) (hw : wp_X9_next post p0 oX rX bZ bD wD gF pE qA nJ nY dQ jC eO eW dO fY jD qF jJ) : Met l yX9_next (gw yX9_next cX9_next 6 (some .int)) rm_X9_next (va_Pc [.ref a_x, .int p0] (gPre (dC, dI) (tyl cI cC cZ cB cJ) (wd_X9_next cI cC cZ cB cJ a_x xG xD wY wJ wQ xI xK xJ tW uE qU uJ uL uI xH tX jE mX pD oO oQ eG qT oX rJ pN rP rX bZ bD bI aI wD gF pE qA nJ nY dQ jC eO eW dO fJ fY jD nG qF jJ) sz)) (q_X9_next dC dI cI cC cZ cB cJ (va_A (wd_X9_next cI cC cZ cB cJ a_x xG xD wY wJ wQ xI xK xJ tW uE qU uJ uL uI xH tX jE mX pD oO oQ eG qT oX rJ pN rP rX bZ bD bI aI wD gF pE qA nJ nY dQ jC eO eW dO fJ fY jD nG qF jJ) sz) a_x xG xD wY wJ wQ xI xK xJ tW uE qU uJ uL uI xH tX jE mX pD oO oQ eG qT rJ pN rP bZ bD bI aI wD gF pE qA nJ nY dQ jC eO eW dO fJ fY jD nG post) 0 0 (va_A (wd_X9_next cI cC cZ cB cJ a_x xG xD wY wJ wQ xI xK xJ tW uE qU uJ uL uI xH tX jE mX pD oO oQ eG qT oX rJ pN rP rX bZ bD bI aI wD gF pE qA nJ nY dQ jC eO eW dO fJ fY jD nG qF jJ) sz) := by
  refine g_enter (own := RX9) (dC, dI) (tyl cI cC cZ cB cJ) (wd_X9_next cI cC cZ cB cJ a_x xG xD wY wJ wQ xI xK xJ tW uE qU uJ uL uI xH tX jE mX pD oO oQ eG qT oX rJ pN rP rX bZ bD bI aI wD gF pE qA nJ nY dQ jC eO eW dO fJ fY jD nG qF jJ) sz [.ref a_x, .int p0] (fun A => q_X9_next dC dI cI cC cZ cB cJ A a_x xG xD wY wJ wQ xI xK xJ tW uE qU uJ uL uI xH tX jE mX pD oO oQ eG qT rJ pN rP bZ bD bI aI wD gF pE qA nJ nY dQ jC eO eW dO fJ fY jD nG post) pn_RX9 rfl (Nat.le_of_ble_eq_true rfl) ?_
  intro p e s m args below meth c A H locs ls C0 hP hD hS hl
  have hl : lv_has ls 6 [(0, .ref a_x), (1, .int p0)] := hl
  obtain ⟨hx, hb, hr, hml, hown, hts, hlocks, hA, hK, hN, tL, tM, hZL, hTL, hZM, hTM, hZX⟩ := id C0
  have hp := hw
  unfold wp_X9_next at hp
  refine lv_aload_n hx hb eX9_next_0.1 rfl (lv_at hl 0 rfl) ?_
  refine va_get (D := (dC, dI)) (ci := 9) (v := .ref wJ) (C := RX9) (T := TX9) (N := 9) hx hb hts i_X9 hown hK hP 0 rfl rfl 3 (Nat.le_of_ble_eq_true rfl) (hts _ q_74) (fun _ h9 => h9) rfl eX9_next_0.2.1 ?_
  refine lv_iload_n hx hb eX9_next_0.2.2.1 rfl (lv_at hl 1 rfl) ?_
  have hm := mgk (wc := (wd_X3_areStandings cI cC cZ cB cJ wJ tX jE mX pD oO oQ eG bZ bD bI aI)) hP mk_126 15 rfl rfl rfl
  refine g_calli hP hD hS hA (mixT mk_126) (mixF mk_126) hm.1 hm.2 (nd_F _) (dis_g _) (g_runV (As := [.int p0]) (rest := []) C0 hP hD hS (mixT mk_126) hm.1 (nd_T _) 4 3 rfl rfl (c_X3_areStandings l dC dI cI cC cZ cB cJ wJ tX jE mX pD oO oQ eG H.size p0 bZ bD bI aI _ hp) q_483 q_486 q_484 q_485 q_48 h_X3_areStandings rfl rfl ⟨Nat.le_of_ble_eq_true rfl, Nat.le_of_ble_eq_true rfl⟩ rfl rfl hl.1 rfl (lv_room (Nat.le_of_ble_eq_true rfl)) eX9_next_0.2.2.2.1 ⟨Nat.zero_le _, Nat.zero_le _⟩) (fun r_1 u H locs hp hP hD hS => ?_)
  have hPD := PDm (ws' := (wd_X9_next cI cC cZ cB cJ a_x xG xD wY wJ wQ xI xK xJ tW uE qU uJ uL uI xH tX jE mX pD oO oQ eG qT oX rJ pN rP rX bZ bD bI aI wD gF pE qA nJ nY dQ jC eO eW dO fJ fY jD nG qF jJ)) hP hD 15 rfl rfl rfl
  have hP := hPD.1
  have hD := hPD.2
  refine lv_if_ne (tgt := 13) hx hb eX9_next_0.2.2.2.2.1 (by decide) (fun hc => ?_) (fun hc => ?_)
  · have hp := hp.1 hc
    refine lv_aload_n hx hb eX9_next_0.2.2.2.2.2.2.2.1 rfl (lv_at hl 0 rfl) ?_
    refine va_get (D := (dC, dI)) (ci := 9) (v := .ref xD) (C := RX9) (T := TX9) (N := 9) hx hb hts i_X9 hown hK hP 0 rfl rfl 1 (Nat.le_of_ble_eq_true rfl) (hts _ q_444) (fun _ h9 => h9) rfl eX9_next_0.2.2.2.2.2.2.2.2.1 ?_
    have hm := mgk (wc := (wd_X5_look cI cC cZ cB cJ xD wY wJ uE qU uJ uL uI wQ xH tX jE mX pD oO oQ eG oX rJ pN rP rX bZ bD bI aI wD gF qA nJ nY dQ jC eO eW dO fJ fY jD nG)) hP mk_131 15 rfl rfl rfl
    refine g_callv hP hD hS hA (mixT mk_131) (mixF mk_131) hm.1 hm.2 (nd_F _) (dis_g _) (g_runV (As := []) (rest := []) C0 hP hD hS (mixT mk_131) hm.1 (nd_T _) 1 5 rfl rfl (c_X5_look l dC dI cI cC cZ cB cJ xD wY wJ uE qU uJ uL uI wQ xH tX jE mX pD oO oQ eG H.size oX rJ pN rP rX bZ bD bI aI wD gF qA nJ nY dQ jC eO eW dO fJ fY jD nG _ hp) q_445 q_448 q_446 q_447 q_431 h_X5_look rfl rfl ⟨Nat.le_of_ble_eq_true rfl, Nat.le_of_ble_eq_true rfl⟩ rfl rfl hl.1 rfl (lv_room (Nat.le_of_ble_eq_true rfl)) eX9_next_0.2.2.2.2.2.2.2.2.2.1 ⟨Nat.zero_le _, Nat.zero_le _⟩) (fun u H locs hp hP hD hS => ?_)
    obtain ⟨xR, yA⟩ := u
    have hPD := PDm (ws' := (wd_X9_next cI cC cZ cB cJ a_x xG xD wY wJ wQ xI xK xJ tW uE qU uJ uL uI xH tX jE mX pD oO oQ eG qT xR rJ pN rP yA bZ bD bI aI wD gF pE qA nJ nY dQ jC eO eW dO fJ fY jD nG qF jJ)) hP hD 15 rfl rfl rfl
    have hP := hPD.1
    have hD := hPD.2
    refine lv_bipush (v := (-2)) hx hb eX9_next_0.2.2.2.2.2.2.2.2.2.2.1 bp_m2 ?_
    refine lv_istore_n (lv' := [(2, .int (-2)), (0, .ref a_x), (1, .int p0)]) hx hb eX9_next_0.2.2.2.2.2.2.2.2.2.2.2.1 rfl hl (by decide) rfl (fun ls hl => ?_)
    refine lv_iconst (v := 0) hx hb eX9_next_0.2.2.2.2.2.2.2.2.2.2.2.2.1 ic_0 ?_
    refine lv_istore_n (lv' := [(3, .int 0), (2, .int (-2)), (0, .ref a_x), (1, .int p0)]) hx hb eX9_next_0.2.2.2.2.2.2.2.2.2.2.2.2.2.1 rfl hl (by decide) rfl (fun ls hl => ?_)
    refine lv_iconst (v := 0) hx hb eX9_next_0.2.2.2.2.2.2.2.2.2.2.2.2.2.2.1 ic_0 ?_
    refine lv_istore (lv' := [(4, .int 0), (3, .int 0), (2, .int (-2)), (0, .ref a_x), (1, .int p0)]) hx hb eX9_next_0.2.2.2.2.2.2.2.2.2.2.2.2.2.2.2 hl (by decide) rfl (fun ls hl => ?_)
    obtain ⟨n9, hp⟩ := hp
    exact kb_X9_next_28 C0 n9 p0 (-2) 0 0 xR yA qF jJ H locs ls hp hP hD hS (lv_sub hl [3, 4, 2, 1, 0] rfl)
  · have hp := hp.2 hc
    refine lv_iconst (v := (-1)) hx hb eX9_next_0.2.2.2.2.2.1 ic_m1 ?_
    exact W.iret (v := (-1)) hx hb hr (fun t ht hW => ⟨⟨(-1), (oX, rX, qF, jJ), rfl, hp, by rw [ht]; exact hP, va_K.moved hW.alike hK, hD⟩, hS.F ht⟩) hS.2.2 eX9_next_0.2.2.2.2.2.2.1
noncomputable abbrev wd_X0_withoutLadder (cI cC cZ cB cJ : ClassId) (wY wJ wQ xH : Nat) (jC eO eW dO fJ fY jD nG : Int32) : va_W := [(wY, .inr (0, [.ref wJ, .ref wQ, .ref xH])), (wQ, .inr (2, [.int jC, .int eO, .int eW, .int dO, .int fJ, .int fY, .int jD, .int nG]))]
noncomputable abbrev q_X0_withoutLadder (dC : Nat → ClassId) (dI : Nat → Nat → Nat) (cI cC cZ cB cJ : ClassId) (A : Nat → Prop) (wY wJ wQ xH : Nat) (jC eO eW dO fJ fY jD nG : Int32) (post : Int32 → Prop) : Array Value → State → Outcome → State → Prop := va_Qi (fun (r : Int32) (u : Unit) => post r) (fun u t => gB (dC, dI) (tyl cI cC cZ cB cJ) A (wd_X0_withoutLadder cI cC cZ cB cJ wY wJ wQ xH jC eO eW dO fJ fY jD nG) t) A
noncomputable abbrev rm_X0_withoutLadder : Room := { frames := 0, cells := 0, slots := 0, locals := 0 }
noncomputable def wp_X0_withoutLadder (post : Int32 → Prop) (p0 fJ : Int32) : Prop := (¬ fJ = (-1) → ∀ v_1 : Int32, v_1 = 1 <<< (fJ &&& 31) → post (p0 &&& (v_1 ^^^ (-1)))) ∧ (fJ = (-1) → post p0)
set_option maxHeartbeats 4000000 in
set_option maxRecDepth 100000 in
theorem c_X0_withoutLadder (l : Launch) (dC : Nat → ClassId) (dI : Nat → Nat → Nat) (cI cC cZ cB cJ : ClassId) (wY wJ wQ xH sz : Nat) (p0 jC eO eW dO fJ fY jD nG : Int32) (post : Int32 → Prop) (hw : wp_X0_withoutLadder post p0 fJ) : Met l yX0_withoutLadder (gw yX0_withoutLadder cX0_withoutLadder 2 (some .int)) rm_X0_withoutLadder (va_Pc [.ref wY, .int p0] (gPre (dC, dI) (tyl cI cC cZ cB cJ) (wd_X0_withoutLadder cI cC cZ cB cJ wY wJ wQ xH jC eO eW dO fJ fY jD nG) sz)) (q_X0_withoutLadder dC dI cI cC cZ cB cJ (va_A (wd_X0_withoutLadder cI cC cZ cB cJ wY wJ wQ xH jC eO eW dO fJ fY jD nG) sz) wY wJ wQ xH jC eO eW dO fJ fY jD nG post) 0 0 (va_A (wd_X0_withoutLadder cI cC cZ cB cJ wY wJ wQ xH jC eO eW dO fJ fY jD nG) sz) := by
  refine g_enter (own := RX0) (dC, dI) (tyl cI cC cZ cB cJ) (wd_X0_withoutLadder cI cC cZ cB cJ wY wJ wQ xH jC eO eW dO fJ fY jD nG) sz [.ref wY, .int p0] (fun A => q_X0_withoutLadder dC dI cI cC cZ cB cJ A wY wJ wQ xH jC eO eW dO fJ fY jD nG post) pn_RX0 rfl (Nat.le_of_ble_eq_true rfl) ?_
  intro p e s m args below meth c A H locs ls C0 hP hD hS hl
  have hl : lv_has ls 2 [(0, .ref wY), (1, .int p0)] := hl
  obtain ⟨hx, hb, hr, hml, hown, hts, hlocks, hA, hK, hN, tL, tM, hZL, hTL, hZM, hTM, hZX⟩ := id C0
  have hp := hw
  unfold wp_X0_withoutLadder at hp
  refine lv_aload_n hx hb eX0_withoutLadder_0.1 rfl (lv_at hl 0 rfl) ?_
  refine va_get (D := (dC, dI)) (ci := 0) (v := .ref wQ) (C := RX0) (T := TX0) (N := 3) hx hb hts i_X0 hown hK hP 0 rfl rfl 1 (Nat.le_of_ble_eq_true rfl) (hts _ q_161) (fun _ h9 => h9) rfl eX0_withoutLadder_0.2.1 ?_
  refine va_get (D := (dC, dI)) (ci := 2) (v := .int fJ) (C := RX2) (T := TX2) (N := 8) hx hb hts i_X2 hown hK hP 1 rfl rfl 4 (Nat.le_of_ble_eq_true rfl) (hts _ q_228) (fun _ h9 => h9) rfl eX0_withoutLadder_0.2.2.1 ?_
  refine lv_iconst (v := (-1)) hx hb eX0_withoutLadder_0.2.2.2.1 ic_m1 ?_
  refine lv_icmp_ne (tgt := 15) hx hb eX0_withoutLadder_0.2.2.2.2.1 (by decide) (fun hc => ?_) (fun hc => ?_)
  · have hp := hp.1 hc
    refine lv_iload_n hx hb eX0_withoutLadder_0.2.2.2.2.2.2.2.1 rfl (lv_at hl 1 rfl) ?_
    refine lv_iconst (v := 1) hx hb eX0_withoutLadder_0.2.2.2.2.2.2.2.2.1 ic_1 ?_
    refine lv_aload_n hx hb eX0_withoutLadder_0.2.2.2.2.2.2.2.2.2.1 rfl (lv_at hl 0 rfl) ?_
    refine va_get (D := (dC, dI)) (ci := 0) (v := .ref wQ) (C := RX0) (T := TX0) (N := 3) hx hb hts i_X0 hown hK hP 0 rfl rfl 1 (Nat.le_of_ble_eq_true rfl) (hts _ q_161) (fun _ h9 => h9) rfl eX0_withoutLadder_0.2.2.2.2.2.2.2.2.2.2.1 ?_
    refine va_get (D := (dC, dI)) (ci := 2) (v := .int fJ) (C := RX2) (T := TX2) (N := 8) hx hb hts i_X2 hown hK hP 1 rfl rfl 4 (Nat.le_of_ble_eq_true rfl) (hts _ q_228) (fun _ h9 => h9) rfl eX0_withoutLadder_0.2.2.2.2.2.2.2.2.2.2.2.1 ?_
    refine lv_ishl hx hb eX0_withoutLadder_0.2.2.2.2.2.2.2.2.2.2.2.2.1 ?_
    refine lv_topi (fun v_1 ev_1 => ?_)
    have hp := hp v_1 ev_1
    refine lv_iconst (v := (-1)) hx hb eX0_withoutLadder_0.2.2.2.2.2.2.2.2.2.2.2.2.2.1 ic_m1 ?_
    refine lv_ixor hx hb eX0_withoutLadder_0.2.2.2.2.2.2.2.2.2.2.2.2.2.2.1 ?_
    refine lv_iand hx hb eX0_withoutLadder_0.2.2.2.2.2.2.2.2.2.2.2.2.2.2.2 ?_
    exact W.iret (v := p0 &&& (v_1 ^^^ (-1))) hx hb hr (fun t ht hW => ⟨⟨p0 &&& (v_1 ^^^ (-1)), (), rfl, hp, by rw [ht]; exact hP, va_K.moved hW.alike hK, hD⟩, hS.F ht⟩) hS.2.2 dX0_withoutLadder_28
  · have hp := hp.2 hc
    refine lv_iload_n hx hb eX0_withoutLadder_0.2.2.2.2.2.1 rfl (lv_at hl 1 rfl) ?_
    refine lv_goto (tgt := 28) hx hb eX0_withoutLadder_0.2.2.2.2.2.2.1 (by decide) ?_
    exact W.iret (v := p0) hx hb hr (fun t ht hW => ⟨⟨p0, (), rfl, hp, by rw [ht]; exact hP, va_K.moved hW.alike hK, hD⟩, hS.F ht⟩) hS.2.2 dX0_withoutLadder_28
noncomputable abbrev wd_X3_waySeconds (cI cC cZ cB cJ : ClassId) (wJ tX jE mX pD oO oQ eG : Nat) (bZ bD bI aI : Int32) (nJ dQ : Nat → Int32) : va_W := [(wJ, .inr (3, [.ref tX, .ref jE, .ref mX, .ref pD, .ref oO, .ref oQ, .ref eG, .int bZ, .int bD, .int bI, .int aI])), (oO, .inl (cI, 8, .inl nJ)), (eG, .inl (cI, 5, .inl dQ))]
noncomputable abbrev q_X3_waySeconds (dC : Nat → ClassId) (dI : Nat → Nat → Nat) (cI cC cZ cB cJ : ClassId) (A : Nat → Prop) (wJ tX jE mX pD oO oQ eG : Nat) (bZ bD bI aI : Int32) (nJ dQ : Nat → Int32) (post : Int32 → Prop) : Array Value → State → Outcome → State → Prop := va_Qi (fun (r : Int32) (u : Unit) => post r) (fun u t => gB (dC, dI) (tyl cI cC cZ cB cJ) A (wd_X3_waySeconds cI cC cZ cB cJ wJ tX jE mX pD oO oQ eG bZ bD bI aI nJ dQ) t) A
noncomputable abbrev rm_X3_waySeconds : Room := { frames := 1, cells := 0, slots := 0, locals := 21 }
section S_X3_waySeconds
variable {p : Program} {l : Launch} {e : Env} {s : State} {m : MethodId} {args : Array Value} {below : List Frame} {meth : Method} {c : Code} {dC : Nat → ClassId} {dI : Nat → Nat → Nat} {cI cC cZ cB cJ : ClassId} {A : Nat → Prop} {wJ tX jE mX pD oO oQ eG : Nat} {bZ bD bI aI : Int32} {nJ dQ : Nat → Int32} {post : Int32 → Prop}
noncomputable def ws_X3_waySeconds_117 (post : Int32 → Prop) (bD : Int32) (nJ dQ : Nat → Int32) (x3 x6 : Int32) : Prop := ∀ v_3 : Int32, v_3 = 9 * x3 → ∀ v_4 : Int32, v_4 = dQ (3 : Int32).toNatClampNeg → post (v_3 + (v_4 * x6))
set_option maxHeartbeats 4000000 in
set_option maxRecDepth 100000 in
theorem ks_X3_waySeconds_117 (C0 : gc cX3_waySeconds (some .int) 7 RX3 (dC, dI) (tyl cI cC cZ cB cJ) A p s m args meth c) : ∀ (x3 x6 : Int32) (H : Heap) (locs : List Loc) (ls : Array Slot), (ws_X3_waySeconds_117 post bD nJ dQ) x3 x6 → va_P (dC, dI) classes (wd_X3_waySeconds cI cC cZ cB cJ wJ tX jE mX pD oO oQ eG bZ bD bI aI nJ dQ) H → va_D A (wd_X3_waySeconds cI cC cZ cB cJ wJ tX jE mX pD oO oQ eG bZ bD bI aI nJ dQ) → va_S A s.heap H locs → lv_has ls 7 [(0, .ref wJ), (3, .int x3), (6, .int x6)] → W p l e rm_X3_waySeconds s m args below meth c H locs 0 0 (MQ below (q_X3_waySeconds dC dI cI cC cZ cB cJ A wJ tX jE mX pD oO oQ eG bZ bD bI aI nJ dQ post) args s 0 0 A) (F0 m 117 ls []) := by
  obtain ⟨hx, hb, hr, hml, hown, hts, hlocks, hA, hK, hN, tL, tM, hZL, hTL, hZM, hTM, hZX⟩ := id C0
  intro x3 x6 H locs ls hp hP hD hS hl
  unfold ws_X3_waySeconds_117 at hp
  refine lv_bipush (v := 9) hx hb eX3_waySeconds_117.1 bp_9 ?_
  refine lv_iload_n hx hb eX3_waySeconds_117.2.1 rfl (lv_at hl 1 rfl) ?_
  refine lv_imul hx hb eX3_waySeconds_117.2.2.1 ?_
  refine lv_topi (fun v_3 ev_3 => ?_)
  have hp := hp v_3 ev_3
  refine lv_aload_n hx hb eX3_waySeconds_117.2.2.2.1 rfl (lv_at hl 0 rfl) ?_
  refine va_get (D := (dC, dI)) (ci := 3) (v := .ref eG) (C := RX3) (T := TX3) (N := 11) hx hb hts i_X3 hown hK hP 0 rfl rfl 6 (Nat.le_of_ble_eq_true rfl) (hts _ q_225) (fun _ h9 => h9) rfl eX3_waySeconds_117.2.2.2.2.1 ?_
  refine lv_iconst (v := 3) hx hb eX3_waySeconds_117.2.2.2.2.2.1 ic_3 ?_
  refine va_iald hx hb hK hP 2 0 rfl rfl (g_in rfl) eX3_waySeconds_117.2.2.2.2.2.2.1 ?_
  refine lv_topi (fun v_4 ev_4 => ?_)
  have hp := hp v_4 ev_4
  refine lv_iload hx hb eX3_waySeconds_117.2.2.2.2.2.2.2.1 (lv_at hl 2 rfl) ?_
  refine lv_imul hx hb eX3_waySeconds_117.2.2.2.2.2.2.2.2.1 ?_
  refine lv_iadd hx hb eX3_waySeconds_117.2.2.2.2.2.2.2.2.2.1 ?_
  exact W.iret (v := v_3 + (v_4 * x6)) hx hb hr (fun t ht hW => ⟨⟨v_3 + (v_4 * x6), (), rfl, hp, by rw [ht]; exact hP, va_K.moved hW.alike hK, hD⟩, hS.F ht⟩) hS.2.2 eX3_waySeconds_117.2.2.2.2.2.2.2.2.2.2
noncomputable def ws_X3_waySeconds_67 (post : Int32 → Prop) (K21 : Int32 → Int32 → Int32 → Int32 → Int32 → Int32 → Prop) (bD : Int32) (nJ dQ : Nat → Int32) (x1 x2 x3 x4 x5 x6 : Int32) : Prop := ∀ v_14 : Int32, v_14 = x6 + 1 → K21 x1 x2 x3 x4 x5 v_14
set_option maxHeartbeats 4000000 in
set_option maxRecDepth 100000 in
theorem ks_X3_waySeconds_67 (C0 : gc cX3_waySeconds (some .int) 7 RX3 (dC, dI) (tyl cI cC cZ cB cJ) A p s m args meth c) {K21 : Int32 → Int32 → Int32 → Int32 → Int32 → Int32 → Prop} (hK21 : ∀ (x1 : Int32) (x2 : Int32) (x3 : Int32) (x4 : Int32) (x5 : Int32) (x6 : Int32) (H : Heap) (locs : List Loc) (ls : Array Slot), K21 x1 x2 x3 x4 x5 x6 → va_P (dC, dI) classes (wd_X3_waySeconds cI cC cZ cB cJ wJ tX jE mX pD oO oQ eG bZ bD bI aI nJ dQ) H → va_D A (wd_X3_waySeconds cI cC cZ cB cJ wJ tX jE mX pD oO oQ eG bZ bD bI aI nJ dQ) → va_S A s.heap H locs → lv_has ls 7 [(0, .ref wJ), (1, .int x1), (2, .int x2), (3, .int x3), (4, .int x4), (5, .int x5), (6, .int x6)] → W p l e rm_X3_waySeconds s m args below meth c H locs 0 0 (MQ below (q_X3_waySeconds dC dI cI cC cZ cB cJ A wJ tX jE mX pD oO oQ eG bZ bD bI aI nJ dQ post) args s 0 0 A) (F0 m 21 ls [])) : ∀ (x1 x2 x3 x4 x5 x6 : Int32) (H : Heap) (locs : List Loc) (ls : Array Slot), (ws_X3_waySeconds_67 post K21 bD nJ dQ) x1 x2 x3 x4 x5 x6 → va_P (dC, dI) classes (wd_X3_waySeconds cI cC cZ cB cJ wJ tX jE mX pD oO oQ eG bZ bD bI aI nJ dQ) H → va_D A (wd_X3_waySeconds cI cC cZ cB cJ wJ tX jE mX pD oO oQ eG bZ bD bI aI nJ dQ) → va_S A s.heap H locs → lv_has ls 7 [(0, .ref wJ), (1, .int x1), (2, .int x2), (3, .int x3), (4, .int x4), (5, .int x5), (6, .int x6)] → W p l e rm_X3_waySeconds s m args below meth c H locs 0 0 (MQ below (q_X3_waySeconds dC dI cI cC cZ cB cJ A wJ tX jE mX pD oO oQ eG bZ bD bI aI nJ dQ post) args s 0 0 A) (F0 m 67 ls []) := by
  obtain ⟨hx, hb, hr, hml, hown, hts, hlocks, hA, hK, hN, tL, tM, hZL, hTL, hZM, hTM, hZX⟩ := id C0
  intro x1 x2 x3 x4 x5 x6 H locs ls hp hP hD hS hl
  unfold ws_X3_waySeconds_67 at hp
  obtain ⟨v_14, ev_14⟩ : ∃ y : Int32, y = x6 + 1 := ⟨_, rfl⟩
  refine lv_iinc (v := v_14) (lv' := [(6, .int v_14), (0, .ref wJ), (1, .int x1), (2, .int x2), (3, .int x3), (4, .int x4), (5, .int x5)]) hx hb eX3_waySeconds_56.2.2.2.2.2.1 hl (k := 6) rfl (by rw [ev_14]; rfl) (by decide) rfl (fun ls hl => ?_)
  have hp := hp v_14 ev_14
  refine lv_goto (tgt := 21) hx hb eX3_waySeconds_56.2.2.2.2.2.2.1 (by decide) ?_
  exact hK21 x1 x2 x3 x4 x5 v_14 H locs ls hp hP hD hS (lv_sub hl [1, 2, 3, 4, 5, 6, 0] rfl)
noncomputable def ws_X3_waySeconds_21 (post : Int32 → Prop) (next : Int32 → Int32 → Int32 → Int32 → Int32 → Int32 → Prop) (bD : Int32) (nJ dQ : Nat → Int32) (x1 x2 x3 x4 x5 x6 : Int32) : Prop := (bD ≤ x6 → ∀ v_2 : Int32, v_2 = x5 - x4 → (x1 = (-1) → ws_X3_waySeconds_117 post bD nJ dQ x3 v_2) ∧ (¬ x1 = (-1) → vp_in x1 8 ∧ (∀ v_5 : Int32, v_5 = nJ x1.toNatClampNeg → ∀ v_6 : Int32, v_6 = v_5 - x4 → ∀ v_7 : Int32, v_7 = (if 0 ≤ v_6 then v_6 else 0 - v_6) → vp_in x1 8 ∧ (∀ v_8 : Int32, v_8 = nJ x1.toNatClampNeg → ∀ v_9 : Int32, v_9 = v_8 - x5 → ∀ v_10 : Int32, v_10 = (if 0 ≤ v_9 then v_9 else 0 - v_9) → ∀ v_11 : Int32, v_11 = (if v_10 < v_7 then v_10 else v_7) → ∀ v_12 : Int32, v_12 = v_2 + v_11 → ws_X3_waySeconds_117 post bD nJ dQ x3 v_12)))) ∧ (¬ bD ≤ x6 → ∀ v_13 : Int32, v_13 = x2 >>> (x6 &&& 31) → ((v_13 &&& 1) = 0 → ws_X3_waySeconds_67 post next bD nJ dQ x1 x2 x3 x4 x5 x6) ∧ (¬ (v_13 &&& 1) = 0 → vp_in x6 8 ∧ (∀ v_15 : Int32, v_15 = nJ x6.toNatClampNeg → ∀ v_16 : Int32, v_16 = (if v_15 < x4 then v_15 else x4) → vp_in x6 8 ∧ (∀ v_17 : Int32, v_17 = nJ x6.toNatClampNeg → ∀ v_18 : Int32, v_18 = (if x5 < v_17 then v_17 else x5) → ws_X3_waySeconds_67 post next bD nJ dQ x1 x2 x3 v_16 v_18 x6))))
noncomputable def wb_X3_waySeconds_21 (post : Int32 → Prop) (bD : Int32) (nJ dQ : Nat → Int32) : Nat → Int32 → Int32 → Int32 → Int32 → Int32 → Int32 → Prop := fun n => Nat.rec (motive := fun _ => Int32 → Int32 → Int32 → Int32 → Int32 → Int32 → Prop) (fun _ _ _ _ _ _ => False) (fun _ ih => ws_X3_waySeconds_21 post ih bD nJ dQ) n
set_option maxHeartbeats 4000000 in
set_option maxRecDepth 100000 in
theorem ks_X3_waySeconds_21 (C0 : gc cX3_waySeconds (some .int) 7 RX3 (dC, dI) (tyl cI cC cZ cB cJ) A p s m args meth c) {next : Int32 → Int32 → Int32 → Int32 → Int32 → Int32 → Prop} (hKn : ∀ (x1 : Int32) (x2 : Int32) (x3 : Int32) (x4 : Int32) (x5 : Int32) (x6 : Int32) (H : Heap) (locs : List Loc) (ls : Array Slot), next x1 x2 x3 x4 x5 x6 → va_P (dC, dI) classes (wd_X3_waySeconds cI cC cZ cB cJ wJ tX jE mX pD oO oQ eG bZ bD bI aI nJ dQ) H → va_D A (wd_X3_waySeconds cI cC cZ cB cJ wJ tX jE mX pD oO oQ eG bZ bD bI aI nJ dQ) → va_S A s.heap H locs → lv_has ls 7 [(0, .ref wJ), (1, .int x1), (2, .int x2), (3, .int x3), (4, .int x4), (5, .int x5), (6, .int x6)] → W p l e rm_X3_waySeconds s m args below meth c H locs 0 0 (MQ below (q_X3_waySeconds dC dI cI cC cZ cB cJ A wJ tX jE mX pD oO oQ eG bZ bD bI aI nJ dQ post) args s 0 0 A) (F0 m 21 ls [])) : ∀ (x1 x2 x3 x4 x5 x6 : Int32) (H : Heap) (locs : List Loc) (ls : Array Slot), (ws_X3_waySeconds_21 post next bD nJ dQ) x1 x2 x3 x4 x5 x6 → va_P (dC, dI) classes (wd_X3_waySeconds cI cC cZ cB cJ wJ tX jE mX pD oO oQ eG bZ bD bI aI nJ dQ) H → va_D A (wd_X3_waySeconds cI cC cZ cB cJ wJ tX jE mX pD oO oQ eG bZ bD bI aI nJ dQ) → va_S A s.heap H locs → lv_has ls 7 [(0, .ref wJ), (1, .int x1), (2, .int x2), (3, .int x3), (4, .int x4), (5, .int x5), (6, .int x6)] → W p l e rm_X3_waySeconds s m args below meth c H locs 0 0 (MQ below (q_X3_waySeconds dC dI cI cC cZ cB cJ A wJ tX jE mX pD oO oQ eG bZ bD bI aI nJ dQ post) args s 0 0 A) (F0 m 21 ls []) := by
  obtain ⟨hx, hb, hr, hml, hown, hts, hlocks, hA, hK, hN, tL, tM, hZL, hTL, hZM, hTM, hZX⟩ := id C0
  intro x1 x2 x3 x4 x5 x6 H locs ls hp hP hD hS hl
  unfold ws_X3_waySeconds_21 at hp
  refine lv_iload hx hb eX3_waySeconds_0.2.2.2.2.2.2.2.2.2.2.2.2.2.1 (lv_at hl 6 rfl) ?_
  refine lv_aload_n hx hb eX3_waySeconds_0.2.2.2.2.2.2.2.2.2.2.2.2.2.2.1 rfl (lv_at hl 0 rfl) ?_
  refine va_get (D := (dC, dI)) (ci := 3) (v := .int bD) (C := RX3) (T := TX3) (N := 11) hx hb hts i_X3 hown hK hP 0 rfl rfl 8 (Nat.le_of_ble_eq_true rfl) (hts _ q_22) (fun _ h9 => h9) rfl eX3_waySeconds_0.2.2.2.2.2.2.2.2.2.2.2.2.2.2.2 ?_
  refine lv_icmp_ge (tgt := 73) hx hb eX3_waySeconds_27.1 (by decide) (fun hc => ?_) (fun hc => ?_)
  · have hp := hp.1 hc
    refine lv_iload hx hb eX3_waySeconds_56.2.2.2.2.2.2.2.1 (lv_at hl 5 rfl) ?_
    refine lv_iload hx hb eX3_waySeconds_56.2.2.2.2.2.2.2.2.1 (lv_at hl 4 rfl) ?_
    refine lv_isub hx hb eX3_waySeconds_56.2.2.2.2.2.2.2.2.2.1 ?_
    refine lv_topi (fun v_2 ev_2 => ?_)
    have hp := hp v_2 ev_2
    refine lv_istore (lv' := [(6, .int v_2), (0, .ref wJ), (1, .int x1), (2, .int x2), (3, .int x3), (4, .int x4), (5, .int x5)]) hx hb eX3_waySeconds_56.2.2.2.2.2.2.2.2.2.2.1 hl (by decide) rfl (fun ls hl => ?_)
    refine lv_iload_n hx hb eX3_waySeconds_56.2.2.2.2.2.2.2.2.2.2.2.1 rfl (lv_at hl 2 rfl) ?_
    refine lv_iconst (v := (-1)) hx hb eX3_waySeconds_56.2.2.2.2.2.2.2.2.2.2.2.2.1 ic_m1 ?_
    refine lv_icmp_eq (tgt := 117) hx hb eX3_waySeconds_56.2.2.2.2.2.2.2.2.2.2.2.2.2.1 (by decide) (fun hc => ?_) (fun hc => ?_)
    · have hp := hp.1 hc
      exact ks_X3_waySeconds_117 C0 x3 v_2 H locs ls hp hP hD hS (lv_sub hl [1, 4, 0] rfl)
    · have hp := hp.2 hc
      refine lv_iload hx hb eX3_waySeconds_56.2.2.2.2.2.2.2.2.2.2.2.2.2.2.1 (lv_at hl 0 rfl) ?_
      refine lv_aload_n hx hb eX3_waySeconds_56.2.2.2.2.2.2.2.2.2.2.2.2.2.2.2 rfl (lv_at hl 1 rfl) ?_
      refine va_get (D := (dC, dI)) (ci := 3) (v := .ref oO) (C := RX3) (T := TX3) (N := 11) hx hb hts i_X3 hown hK hP 0 rfl rfl 4 (Nat.le_of_ble_eq_true rfl) (hts _ q_53) (fun _ h9 => h9) rfl eX3_waySeconds_88.1 ?_
      refine lv_iload_n hx hb eX3_waySeconds_88.2.1 rfl (lv_at hl 2 rfl) ?_
      have hin := hp.1
      have hp := hp.2
      refine va_iald hx hb hK hP 1 0 rfl rfl hin eX3_waySeconds_88.2.2.1 ?_
      refine lv_topi (fun v_5 ev_5 => ?_)
      have hp := hp v_5 ev_5
      refine lv_iload hx hb eX3_waySeconds_88.2.2.2.1 (lv_at hl 5 rfl) ?_
      refine lv_isub hx hb eX3_waySeconds_88.2.2.2.2.1 ?_
      refine lv_topi (fun v_6 ev_6 => ?_)
      have hp := hp v_6 ev_6
      refine va_mabs hx hb (by rw [hml]; exact hl.1.symm) hown (hts _ q_165) (hts _ q_166) (hts _ q_16) (hts _ q_167) (Nat.le_of_ble_eq_true rfl) (Nat.le_of_ble_eq_true rfl) (Nat.zero_le _) (Nat.zero_le _) eX3_waySeconds_88.2.2.2.2.2.1 ?_
      refine lv_topi (fun v_7 ev_7 => ?_)
      have hp := hp v_7 ev_7
      refine lv_aload_n hx hb eX3_waySeconds_88.2.2.2.2.2.2.1 rfl (lv_at hl 1 rfl) ?_
      refine va_get (D := (dC, dI)) (ci := 3) (v := .ref oO) (C := RX3) (T := TX3) (N := 11) hx hb hts i_X3 hown hK hP 0 rfl rfl 4 (Nat.le_of_ble_eq_true rfl) (hts _ q_53) (fun _ h9 => h9) rfl eX3_waySeconds_88.2.2.2.2.2.2.2.1 ?_
      refine lv_iload_n hx hb eX3_waySeconds_88.2.2.2.2.2.2.2.2.1 rfl (lv_at hl 2 rfl) ?_
      have hin := hp.1
      have hp := hp.2
      refine va_iald hx hb hK hP 1 0 rfl rfl hin eX3_waySeconds_88.2.2.2.2.2.2.2.2.2.1 ?_
      refine lv_topi (fun v_8 ev_8 => ?_)
      have hp := hp v_8 ev_8
      refine lv_iload hx hb eX3_waySeconds_88.2.2.2.2.2.2.2.2.2.2.1 (lv_at hl 6 rfl) ?_
      refine lv_isub hx hb eX3_waySeconds_88.2.2.2.2.2.2.2.2.2.2.2.1 ?_
      refine lv_topi (fun v_9 ev_9 => ?_)
      have hp := hp v_9 ev_9
      refine va_mabs hx hb (by rw [hml]; exact hl.1.symm) hown (hts _ q_165) (hts _ q_166) (hts _ q_16) (hts _ q_167) (Nat.le_of_ble_eq_true rfl) (Nat.le_of_ble_eq_true rfl) (Nat.zero_le _) (Nat.zero_le _) eX3_waySeconds_88.2.2.2.2.2.2.2.2.2.2.2.2.1 ?_
      refine lv_topi (fun v_10 ev_10 => ?_)
      have hp := hp v_10 ev_10
      refine va_mmin hx hb (by rw [hml]; exact hl.1.symm) hown (hts _ q_208) (hts _ q_15) (hts _ q_16) (hts _ q_17) (Nat.le_of_ble_eq_true rfl) (Nat.le_of_ble_eq_true rfl) (Nat.zero_le _) (Nat.zero_le _) eX3_waySeconds_88.2.2.2.2.2.2.2.2.2.2.2.2.2.1 ?_
      refine lv_topi (fun v_11 ev_11 => ?_)
      have hp := hp v_11 ev_11
      refine lv_iadd hx hb eX3_waySeconds_88.2.2.2.2.2.2.2.2.2.2.2.2.2.2.1 ?_
      refine lv_topi (fun v_12 ev_12 => ?_)
      have hp := hp v_12 ev_12
      refine lv_istore (lv' := [(6, .int v_12), (0, .ref wJ), (1, .int x1), (2, .int x2), (3, .int x3), (4, .int x4), (5, .int x5)]) hx hb eX3_waySeconds_88.2.2.2.2.2.2.2.2.2.2.2.2.2.2.2 hl (by decide) rfl (fun ls hl => ?_)
      exact ks_X3_waySeconds_117 C0 x3 v_12 H locs ls hp hP hD hS (lv_sub hl [1, 4, 0] rfl)
  · have hp := hp.2 hc
    refine lv_iload_n hx hb eX3_waySeconds_27.2.1 rfl (lv_at hl 2 rfl) ?_
    refine lv_iload hx hb eX3_waySeconds_27.2.2.1 (lv_at hl 6 rfl) ?_
    refine lv_ishr hx hb eX3_waySeconds_27.2.2.2.1 ?_
    refine lv_topi (fun v_13 ev_13 => ?_)
    have hp := hp v_13 ev_13
    refine lv_iconst (v := 1) hx hb eX3_waySeconds_27.2.2.2.2.1 ic_1 ?_
    refine lv_iand hx hb eX3_waySeconds_27.2.2.2.2.2.1 ?_
    refine lv_if_eq (tgt := 67) hx hb eX3_waySeconds_27.2.2.2.2.2.2.1 (by decide) (fun hc => ?_) (fun hc => ?_)
    · have hp := hp.1 hc
      exact ks_X3_waySeconds_67 C0 hKn x1 x2 x3 x4 x5 x6 H locs ls hp hP hD hS (lv_sub hl [0, 1, 2, 3, 4, 5, 6] rfl)
    · have hp := hp.2 hc
      refine lv_iload hx hb eX3_waySeconds_27.2.2.2.2.2.2.2.1 (lv_at hl 4 rfl) ?_
      refine lv_aload_n hx hb eX3_waySeconds_27.2.2.2.2.2.2.2.2.1 rfl (lv_at hl 0 rfl) ?_
      refine va_get (D := (dC, dI)) (ci := 3) (v := .ref oO) (C := RX3) (T := TX3) (N := 11) hx hb hts i_X3 hown hK hP 0 rfl rfl 4 (Nat.le_of_ble_eq_true rfl) (hts _ q_53) (fun _ h9 => h9) rfl eX3_waySeconds_27.2.2.2.2.2.2.2.2.2.1 ?_
      refine lv_iload hx hb eX3_waySeconds_27.2.2.2.2.2.2.2.2.2.2.1 (lv_at hl 6 rfl) ?_
      have hin := hp.1
      have hp := hp.2
      refine va_iald hx hb hK hP 1 0 rfl rfl hin eX3_waySeconds_27.2.2.2.2.2.2.2.2.2.2.2.1 ?_
      refine lv_topi (fun v_15 ev_15 => ?_)
      have hp := hp v_15 ev_15
      refine va_mmin hx hb (by rw [hml]; exact hl.1.symm) hown (hts _ q_208) (hts _ q_15) (hts _ q_16) (hts _ q_17) (Nat.le_of_ble_eq_true rfl) (Nat.le_of_ble_eq_true rfl) (Nat.zero_le _) (Nat.zero_le _) eX3_waySeconds_27.2.2.2.2.2.2.2.2.2.2.2.2.1 ?_
      refine lv_topi (fun v_16 ev_16 => ?_)
      have hp := hp v_16 ev_16
      refine lv_istore (lv' := [(4, .int v_16), (0, .ref wJ), (1, .int x1), (2, .int x2), (3, .int x3), (5, .int x5), (6, .int x6)]) hx hb eX3_waySeconds_27.2.2.2.2.2.2.2.2.2.2.2.2.2.1 hl (by decide) rfl (fun ls hl => ?_)
      refine lv_iload hx hb eX3_waySeconds_27.2.2.2.2.2.2.2.2.2.2.2.2.2.2.1 (lv_at hl 5 rfl) ?_
      refine lv_aload_n hx hb eX3_waySeconds_27.2.2.2.2.2.2.2.2.2.2.2.2.2.2.2 rfl (lv_at hl 1 rfl) ?_
      refine va_get (D := (dC, dI)) (ci := 3) (v := .ref oO) (C := RX3) (T := TX3) (N := 11) hx hb hts i_X3 hown hK hP 0 rfl rfl 4 (Nat.le_of_ble_eq_true rfl) (hts _ q_53) (fun _ h9 => h9) rfl eX3_waySeconds_56.1 ?_
      refine lv_iload hx hb eX3_waySeconds_56.2.1 (lv_at hl 6 rfl) ?_
      have hin := hp.1
      have hp := hp.2
      refine va_iald hx hb hK hP 1 0 rfl rfl hin eX3_waySeconds_56.2.2.1 ?_
      refine lv_topi (fun v_17 ev_17 => ?_)
      have hp := hp v_17 ev_17
      refine va_mmax hx hb (by rw [hml]; exact hl.1.symm) hown (hts _ q_209) (hts _ q_134) (hts _ q_16) (hts _ q_135) (Nat.le_of_ble_eq_true rfl) (Nat.le_of_ble_eq_true rfl) (Nat.zero_le _) (Nat.zero_le _) eX3_waySeconds_56.2.2.2.1 ?_
      refine lv_topi (fun v_18 ev_18 => ?_)
      have hp := hp v_18 ev_18
      refine lv_istore (lv' := [(5, .int v_18), (4, .int v_16), (0, .ref wJ), (1, .int x1), (2, .int x2), (3, .int x3), (6, .int x6)]) hx hb eX3_waySeconds_56.2.2.2.2.1 hl (by decide) rfl (fun ls hl => ?_)
      exact ks_X3_waySeconds_67 C0 hKn x1 x2 x3 v_16 v_18 x6 H locs ls hp hP hD hS (lv_sub hl [2, 3, 4, 5, 1, 0, 6] rfl)
set_option maxHeartbeats 4000000 in
set_option maxRecDepth 100000 in
theorem kb_X3_waySeconds_21 (C0 : gc cX3_waySeconds (some .int) 7 RX3 (dC, dI) (tyl cI cC cZ cB cJ) A p s m args meth c) : ∀ (n : Nat), ∀ (x1 x2 x3 x4 x5 x6 : Int32) (H : Heap) (locs : List Loc) (ls : Array Slot), (wb_X3_waySeconds_21 post bD nJ dQ n) x1 x2 x3 x4 x5 x6 → va_P (dC, dI) classes (wd_X3_waySeconds cI cC cZ cB cJ wJ tX jE mX pD oO oQ eG bZ bD bI aI nJ dQ) H → va_D A (wd_X3_waySeconds cI cC cZ cB cJ wJ tX jE mX pD oO oQ eG bZ bD bI aI nJ dQ) → va_S A s.heap H locs → lv_has ls 7 [(0, .ref wJ), (1, .int x1), (2, .int x2), (3, .int x3), (4, .int x4), (5, .int x5), (6, .int x6)] → W p l e rm_X3_waySeconds s m args below meth c H locs 0 0 (MQ below (q_X3_waySeconds dC dI cI cC cZ cB cJ A wJ tX jE mX pD oO oQ eG bZ bD bI aI nJ dQ post) args s 0 0 A) (F0 m 21 ls []) := by
  intro n
  induction n with
  | zero =>
    intro x1 x2 x3 x4 x5 x6 H locs ls hp
    exact False.elim hp
  | succ n ih =>
    intro x1 x2 x3 x4 x5 x6 H locs ls hp
    exact ks_X3_waySeconds_21 C0 ih x1 x2 x3 x4 x5 x6 H locs ls hp
end S_X3_waySeconds
noncomputable def wp_X3_waySeconds (post : Int32 → Prop) (p0 p1 bD : Int32) (nJ dQ : Nat → Int32) : Prop := wp_J6_bitCount_0f7a4 (fun r_1 => (¬ r_1 = 0 → ∃ n : Nat, wb_X3_waySeconds_21 post bD nJ dQ n p0 p1 r_1 99 0 0) ∧ (r_1 = 0 → post 0)) p1
set_option maxHeartbeats 4000000 in
set_option maxRecDepth 100000 in
theorem c_X3_waySeconds (l : Launch) (dC : Nat → ClassId) (dI : Nat → Nat → Nat) (cI cC cZ cB cJ : ClassId) (wJ tX jE mX pD oO oQ eG sz : Nat) (p0 p1 bZ bD bI aI : Int32) (nJ dQ : Nat → Int32) (post : Int32 → Prop) (hw : wp_X3_waySeconds post p0 p1 bD nJ dQ) : Met l yX3_waySeconds (gw yX3_waySeconds cX3_waySeconds 7 (some .int)) rm_X3_waySeconds (va_Pc [.ref wJ, .int p0, .int p1] (gPre (dC, dI) (tyl cI cC cZ cB cJ) (wd_X3_waySeconds cI cC cZ cB cJ wJ tX jE mX pD oO oQ eG bZ bD bI aI nJ dQ) sz)) (q_X3_waySeconds dC dI cI cC cZ cB cJ (va_A (wd_X3_waySeconds cI cC cZ cB cJ wJ tX jE mX pD oO oQ eG bZ bD bI aI nJ dQ) sz) wJ tX jE mX pD oO oQ eG bZ bD bI aI nJ dQ post) 0 0 (va_A (wd_X3_waySeconds cI cC cZ cB cJ wJ tX jE mX pD oO oQ eG bZ bD bI aI nJ dQ) sz) := by
  refine g_enter (own := RX3) (dC, dI) (tyl cI cC cZ cB cJ) (wd_X3_waySeconds cI cC cZ cB cJ wJ tX jE mX pD oO oQ eG bZ bD bI aI nJ dQ) sz [.ref wJ, .int p0, .int p1] (fun A => q_X3_waySeconds dC dI cI cC cZ cB cJ A wJ tX jE mX pD oO oQ eG bZ bD bI aI nJ dQ post) pn_RX3 rfl (Nat.le_of_ble_eq_true rfl) ?_
  intro p e s m args below meth c A H locs ls C0 hP hD hS hl
  have hl : lv_has ls 7 [(0, .ref wJ), (1, .int p0), (2, .int p1)] := hl
  obtain ⟨hx, hb, hr, hml, hown, hts, hlocks, hA, hK, hN, tL, tM, hZL, hTL, hZM, hTM, hZX⟩ := id C0
  have hp := hw
  unfold wp_X3_waySeconds at hp
  refine lv_iload_n hx hb eX3_waySeconds_0.1 rfl (lv_at hl 2 rfl) ?_
  have hm := mgk (wc := (wd_J6_bitCount_0f7a4 cI cC cZ cB cJ)) hP aGv 3 rfl rfl rfl
  refine g_calli hP hD hS hA (mixT aGv) (mixF aGv) hm.1 hm.2 (nd_F _) (dis_g _) (g_runS (As := [.int p1]) (rest := []) C0 hP hD hS (mixT aGv) hm.1 (nd_T _) (c_J6_bitCount_0f7a4 l dC dI cI cC cZ cB cJ H.size p1 _ hp) q_320 q_487 q_322 q_321 h_J6_bitCount_0f7a4 rfl rfl ⟨Nat.le_of_ble_eq_true rfl, Nat.le_of_ble_eq_true rfl⟩ rfl rfl hl.1 rfl (lv_room (Nat.le_of_ble_eq_true rfl)) eX3_waySeconds_0.2.1 ⟨Nat.zero_le _, Nat.zero_le _⟩) (fun r_1 u H locs hp hP hD hS => ?_)
  have hPD := PDm (ws' := (wd_X3_waySeconds cI cC cZ cB cJ wJ tX jE mX pD oO oQ eG bZ bD bI aI nJ dQ)) hP hD 3 rfl rfl rfl
  have hP := hPD.1
  have hD := hPD.2
  refine lv_istore_n (lv' := [(3, .int r_1), (0, .ref wJ), (1, .int p0), (2, .int p1)]) hx hb eX3_waySeconds_0.2.2.1 rfl hl (by decide) rfl (fun ls hl => ?_)
  refine lv_iload_n hx hb eX3_waySeconds_0.2.2.2.1 rfl (lv_at hl 0 rfl) ?_
  refine lv_if_ne (tgt := 11) hx hb eX3_waySeconds_0.2.2.2.2.1 (by decide) (fun hc => ?_) (fun hc => ?_)
  · have hp := hp.1 hc
    refine lv_bipush (v := 99) hx hb eX3_waySeconds_0.2.2.2.2.2.2.2.1 bp_99 ?_
    refine lv_istore (lv' := [(4, .int 99), (3, .int r_1), (0, .ref wJ), (1, .int p0), (2, .int p1)]) hx hb eX3_waySeconds_0.2.2.2.2.2.2.2.2.1 hl (by decide) rfl (fun ls hl => ?_)
    refine lv_iconst (v := 0) hx hb eX3_waySeconds_0.2.2.2.2.2.2.2.2.2.1 ic_0 ?_
    refine lv_istore (lv' := [(5, .int 0), (4, .int 99), (3, .int r_1), (0, .ref wJ), (1, .int p0), (2, .int p1)]) hx hb eX3_waySeconds_0.2.2.2.2.2.2.2.2.2.2.1 hl (by decide) rfl (fun ls hl => ?_)
    refine lv_iconst (v := 0) hx hb eX3_waySeconds_0.2.2.2.2.2.2.2.2.2.2.2.1 ic_0 ?_
    refine lv_istore (lv' := [(6, .int 0), (5, .int 0), (4, .int 99), (3, .int r_1), (0, .ref wJ), (1, .int p0), (2, .int p1)]) hx hb eX3_waySeconds_0.2.2.2.2.2.2.2.2.2.2.2.2.1 hl (by decide) rfl (fun ls hl => ?_)
    obtain ⟨n9, hp⟩ := hp
    exact kb_X3_waySeconds_21 C0 n9 p0 p1 r_1 99 0 0 H locs ls hp hP hD hS (lv_sub hl [4, 5, 6, 3, 2, 1, 0] rfl)
  · have hp := hp.2 hc
    refine lv_iconst (v := 0) hx hb eX3_waySeconds_0.2.2.2.2.2.1 ic_0 ?_
    exact W.iret (v := 0) hx hb hr (fun t ht hW => ⟨⟨0, (), rfl, hp, by rw [ht]; exact hP, va_K.moved hW.alike hK, hD⟩, hS.F ht⟩) hS.2.2 eX3_waySeconds_0.2.2.2.2.2.2.1
noncomputable abbrev wd_X3_firstOfWay (cI cC cZ cB cJ : ClassId) (wJ tX jE mX pD oO oQ eG : Nat) (bZ bD bI aI : Int32) (nJ dQ : Nat → Int32) : va_W := [(wJ, .inr (3, [.ref tX, .ref jE, .ref mX, .ref pD, .ref oO, .ref oQ, .ref eG, .int bZ, .int bD, .int bI, .int aI])), (oO, .inl (cI, 8, .inl nJ)), (eG, .inl (cI, 5, .inl dQ))]
noncomputable abbrev q_X3_firstOfWay (dC : Nat → ClassId) (dI : Nat → Nat → Nat) (cI cC cZ cB cJ : ClassId) (A : Nat → Prop) (wJ tX jE mX pD oO oQ eG : Nat) (bZ bD bI aI : Int32) (nJ dQ : Nat → Int32) (post : Int32 → Prop) : Array Value → State → Outcome → State → Prop := va_Qi (fun (r : Int32) (u : Unit) => post r) (fun u t => gB (dC, dI) (tyl cI cC cZ cB cJ) A (wd_X3_firstOfWay cI cC cZ cB cJ wJ tX jE mX pD oO oQ eG bZ bD bI aI nJ dQ) t) A
noncomputable abbrev rm_X3_firstOfWay : Room := { frames := 2, cells := 0, slots := 0, locals := 47 }
section S_X3_firstOfWay
variable {p : Program} {l : Launch} {e : Env} {s : State} {m : MethodId} {args : Array Value} {below : List Frame} {meth : Method} {c : Code} {dC : Nat → ClassId} {dI : Nat → Nat → Nat} {cI cC cZ cB cJ : ClassId} {A : Nat → Prop} {wJ tX jE mX pD oO oQ eG : Nat} {bZ bD bI aI : Int32} {nJ dQ : Nat → Int32} {post : Int32 → Prop}
noncomputable def ws_X3_firstOfWay_50 (post : Int32 → Prop) (K3 : Int32 → Int32 → Int32 → Int32 → Prop) (bD : Int32) (nJ dQ : Nat → Int32) (x1 x2 x3 x4 : Int32) : Prop := ∀ v_2 : Int32, v_2 = x4 + 1 → K3 x1 x2 x3 v_2
set_option maxHeartbeats 4000000 in
set_option maxRecDepth 100000 in
theorem ks_X3_firstOfWay_50 (C0 : gc cX3_firstOfWay (some .int) 5 RX3 (dC, dI) (tyl cI cC cZ cB cJ) A p s m args meth c) {K3 : Int32 → Int32 → Int32 → Int32 → Prop} (hK3 : ∀ (x1 : Int32) (x2 : Int32) (x3 : Int32) (x4 : Int32) (H : Heap) (locs : List Loc) (ls : Array Slot), K3 x1 x2 x3 x4 → va_P (dC, dI) classes (wd_X3_firstOfWay cI cC cZ cB cJ wJ tX jE mX pD oO oQ eG bZ bD bI aI nJ dQ) H → va_D A (wd_X3_firstOfWay cI cC cZ cB cJ wJ tX jE mX pD oO oQ eG bZ bD bI aI nJ dQ) → va_S A s.heap H locs → lv_has ls 5 [(0, .ref wJ), (1, .int x1), (2, .int x2), (3, .int x3), (4, .int x4)] → W p l e rm_X3_firstOfWay s m args below meth c H locs 0 0 (MQ below (q_X3_firstOfWay dC dI cI cC cZ cB cJ A wJ tX jE mX pD oO oQ eG bZ bD bI aI nJ dQ post) args s 0 0 A) (F0 m 3 ls [])) : ∀ (x1 x2 x3 x4 : Int32) (H : Heap) (locs : List Loc) (ls : Array Slot), (ws_X3_firstOfWay_50 post K3 bD nJ dQ) x1 x2 x3 x4 → va_P (dC, dI) classes (wd_X3_firstOfWay cI cC cZ cB cJ wJ tX jE mX pD oO oQ eG bZ bD bI aI nJ dQ) H → va_D A (wd_X3_firstOfWay cI cC cZ cB cJ wJ tX jE mX pD oO oQ eG bZ bD bI aI nJ dQ) → va_S A s.heap H locs → lv_has ls 5 [(0, .ref wJ), (1, .int x1), (2, .int x2), (3, .int x3), (4, .int x4)] → W p l e rm_X3_firstOfWay s m args below meth c H locs 0 0 (MQ below (q_X3_firstOfWay dC dI cI cC cZ cB cJ A wJ tX jE mX pD oO oQ eG bZ bD bI aI nJ dQ post) args s 0 0 A) (F0 m 50 ls []) := by
  obtain ⟨hx, hb, hr, hml, hown, hts, hlocks, hA, hK, hN, tL, tM, hZL, hTL, hZM, hTM, hZX⟩ := id C0
  intro x1 x2 x3 x4 H locs ls hp hP hD hS hl
  unfold ws_X3_firstOfWay_50 at hp
  obtain ⟨v_2, ev_2⟩ : ∃ y : Int32, y = x4 + 1 := ⟨_, rfl⟩
  refine lv_iinc (v := v_2) (lv' := [(4, .int v_2), (0, .ref wJ), (1, .int x1), (2, .int x2), (3, .int x3)]) hx hb eX3_firstOfWay_28.2.2.2.2.2.2.2.2.2.2.2.2.2.2.2 hl (k := 4) rfl (by rw [ev_2]; rfl) (by decide) rfl (fun ls hl => ?_)
  have hp := hp v_2 ev_2
  refine lv_goto (tgt := 3) hx hb eX3_firstOfWay_53.1 (by decide) ?_
  exact hK3 x1 x2 x3 v_2 H locs ls hp hP hD hS (lv_sub hl [1, 2, 3, 4, 0] rfl)
noncomputable def ws_X3_firstOfWay_3 (post : Int32 → Prop) (next : Int32 → Int32 → Int32 → Int32 → Prop) (bD : Int32) (nJ dQ : Nat → Int32) (x1 x2 x3 x4 : Int32) : Prop := (bD ≤ x4 → post (-1)) ∧ (¬ bD ≤ x4 → ∀ v_1 : Int32, v_1 = x2 >>> (x4 &&& 31) → ((v_1 &&& 1) = 0 → ws_X3_firstOfWay_50 post next bD nJ dQ x1 x2 x3 x4) ∧ (¬ (v_1 &&& 1) = 0 → wp_X3_moveSeconds (fun r_3 => ∀ v_4 : Int32, v_4 = 1 <<< (x4 &&& 31) → ∀ v_5 : Int32, v_5 = x2 &&& (v_4 ^^^ (-1)) → wp_X3_waySeconds (fun r_6 => ∀ v_7 : Int32, v_7 = r_3 + r_6 → (¬ v_7 = x3 → ws_X3_firstOfWay_50 post next bD nJ dQ x1 x2 x3 x4) ∧ (v_7 = x3 → post x4)) x4 v_5 bD nJ dQ) x1 x4 nJ dQ))
noncomputable def wb_X3_firstOfWay_3 (post : Int32 → Prop) (bD : Int32) (nJ dQ : Nat → Int32) : Nat → Int32 → Int32 → Int32 → Int32 → Prop := fun n => Nat.rec (motive := fun _ => Int32 → Int32 → Int32 → Int32 → Prop) (fun _ _ _ _ => False) (fun _ ih => ws_X3_firstOfWay_3 post ih bD nJ dQ) n
set_option maxHeartbeats 4000000 in
set_option maxRecDepth 100000 in
theorem ks_X3_firstOfWay_3 (C0 : gc cX3_firstOfWay (some .int) 5 RX3 (dC, dI) (tyl cI cC cZ cB cJ) A p s m args meth c) {next : Int32 → Int32 → Int32 → Int32 → Prop} (hKn : ∀ (x1 : Int32) (x2 : Int32) (x3 : Int32) (x4 : Int32) (H : Heap) (locs : List Loc) (ls : Array Slot), next x1 x2 x3 x4 → va_P (dC, dI) classes (wd_X3_firstOfWay cI cC cZ cB cJ wJ tX jE mX pD oO oQ eG bZ bD bI aI nJ dQ) H → va_D A (wd_X3_firstOfWay cI cC cZ cB cJ wJ tX jE mX pD oO oQ eG bZ bD bI aI nJ dQ) → va_S A s.heap H locs → lv_has ls 5 [(0, .ref wJ), (1, .int x1), (2, .int x2), (3, .int x3), (4, .int x4)] → W p l e rm_X3_firstOfWay s m args below meth c H locs 0 0 (MQ below (q_X3_firstOfWay dC dI cI cC cZ cB cJ A wJ tX jE mX pD oO oQ eG bZ bD bI aI nJ dQ post) args s 0 0 A) (F0 m 3 ls [])) : ∀ (x1 x2 x3 x4 : Int32) (H : Heap) (locs : List Loc) (ls : Array Slot), (ws_X3_firstOfWay_3 post next bD nJ dQ) x1 x2 x3 x4 → va_P (dC, dI) classes (wd_X3_firstOfWay cI cC cZ cB cJ wJ tX jE mX pD oO oQ eG bZ bD bI aI nJ dQ) H → va_D A (wd_X3_firstOfWay cI cC cZ cB cJ wJ tX jE mX pD oO oQ eG bZ bD bI aI nJ dQ) → va_S A s.heap H locs → lv_has ls 5 [(0, .ref wJ), (1, .int x1), (2, .int x2), (3, .int x3), (4, .int x4)] → W p l e rm_X3_firstOfWay s m args below meth c H locs 0 0 (MQ below (q_X3_firstOfWay dC dI cI cC cZ cB cJ A wJ tX jE mX pD oO oQ eG bZ bD bI aI nJ dQ post) args s 0 0 A) (F0 m 3 ls []) := by
  obtain ⟨hx, hb, hr, hml, hown, hts, hlocks, hA, hK, hN, tL, tM, hZL, hTL, hZM, hTM, hZX⟩ := id C0
  intro x1 x2 x3 x4 H locs ls hp hP hD hS hl
  unfold ws_X3_firstOfWay_3 at hp
  refine lv_iload hx hb eX3_firstOfWay_0.2.2.1 (lv_at hl 4 rfl) ?_
  refine lv_aload_n hx hb eX3_firstOfWay_0.2.2.2.1 rfl (lv_at hl 0 rfl) ?_
  refine va_get (D := (dC, dI)) (ci := 3) (v := .int bD) (C := RX3) (T := TX3) (N := 11) hx hb hts i_X3 hown hK hP 0 rfl rfl 8 (Nat.le_of_ble_eq_true rfl) (hts _ q_22) (fun _ h9 => h9) rfl eX3_firstOfWay_0.2.2.2.2.1 ?_
  refine lv_icmp_ge (tgt := 56) hx hb eX3_firstOfWay_0.2.2.2.2.2.1 (by decide) (fun hc => ?_) (fun hc => ?_)
  · have hp := hp.1 hc
    refine lv_iconst (v := (-1)) hx hb eX3_firstOfWay_53.2.1 ic_m1 ?_
    exact W.iret (v := (-1)) hx hb hr (fun t ht hW => ⟨⟨(-1), (), rfl, hp, by rw [ht]; exact hP, va_K.moved hW.alike hK, hD⟩, hS.F ht⟩) hS.2.2 eX3_firstOfWay_53.2.2
  · have hp := hp.2 hc
    refine lv_iload_n hx hb eX3_firstOfWay_0.2.2.2.2.2.2.1 rfl (lv_at hl 2 rfl) ?_
    refine lv_iload hx hb eX3_firstOfWay_0.2.2.2.2.2.2.2.1 (lv_at hl 4 rfl) ?_
    refine lv_ishr hx hb eX3_firstOfWay_0.2.2.2.2.2.2.2.2.1 ?_
    refine lv_topi (fun v_1 ev_1 => ?_)
    have hp := hp v_1 ev_1
    refine lv_iconst (v := 1) hx hb eX3_firstOfWay_0.2.2.2.2.2.2.2.2.2.1 ic_1 ?_
    refine lv_iand hx hb eX3_firstOfWay_0.2.2.2.2.2.2.2.2.2.2.1 ?_
    refine lv_if_eq (tgt := 50) hx hb eX3_firstOfWay_0.2.2.2.2.2.2.2.2.2.2.2.1 (by decide) (fun hc => ?_) (fun hc => ?_)
    · have hp := hp.1 hc
      exact ks_X3_firstOfWay_50 C0 hKn x1 x2 x3 x4 H locs ls hp hP hD hS (lv_sub hl [0, 1, 2, 3, 4] rfl)
    · have hp := hp.2 hc
      refine lv_aload_n hx hb eX3_firstOfWay_0.2.2.2.2.2.2.2.2.2.2.2.2.1 rfl (lv_at hl 0 rfl) ?_
      refine lv_iload_n hx hb eX3_firstOfWay_0.2.2.2.2.2.2.2.2.2.2.2.2.2.1 rfl (lv_at hl 1 rfl) ?_
      refine lv_iload hx hb eX3_firstOfWay_0.2.2.2.2.2.2.2.2.2.2.2.2.2.2.1 (lv_at hl 4 rfl) ?_
      have hm := mgk (wc := (wd_X3_moveSeconds cI cC cZ cB cJ wJ tX jE mX pD oO oQ eG bZ bD bI aI nJ dQ)) hP aBD 3 rfl rfl rfl
      refine g_calli hP hD hS hA (mixT aBD) (mixF aBD) hm.1 hm.2 (nd_F _) (dis_g _) (g_runV (As := [.int x1, .int x4]) (rest := []) C0 hP hD hS (mixT aBD) hm.1 (nd_T _) 0 3 rfl rfl (c_X3_moveSeconds l dC dI cI cC cZ cB cJ wJ tX jE mX pD oO oQ eG H.size x1 x4 bZ bD bI aI nJ dQ _ hp) q_229 q_488 q_230 q_231 q_48 h_X3_moveSeconds rfl rfl ⟨Nat.le_of_ble_eq_true rfl, Nat.le_of_ble_eq_true rfl⟩ rfl rfl hl.1 rfl (lv_room (Nat.le_of_ble_eq_true rfl)) eX3_firstOfWay_0.2.2.2.2.2.2.2.2.2.2.2.2.2.2.2 ⟨Nat.zero_le _, Nat.zero_le _⟩) (fun r_3 u H locs hp hP hD hS => ?_)
      have hPD := PDm (ws' := (wd_X3_firstOfWay cI cC cZ cB cJ wJ tX jE mX pD oO oQ eG bZ bD bI aI nJ dQ)) hP hD 3 rfl rfl rfl
      have hP := hPD.1
      have hD := hPD.2
      refine lv_aload_n hx hb eX3_firstOfWay_28.1 rfl (lv_at hl 0 rfl) ?_
      refine lv_iload hx hb eX3_firstOfWay_28.2.1 (lv_at hl 4 rfl) ?_
      refine lv_iload_n hx hb eX3_firstOfWay_28.2.2.1 rfl (lv_at hl 2 rfl) ?_
      refine lv_iconst (v := 1) hx hb eX3_firstOfWay_28.2.2.2.1 ic_1 ?_
      refine lv_iload hx hb eX3_firstOfWay_28.2.2.2.2.1 (lv_at hl 4 rfl) ?_
      refine lv_ishl hx hb eX3_firstOfWay_28.2.2.2.2.2.1 ?_
      refine lv_topi (fun v_4 ev_4 => ?_)
      have hp := hp v_4 ev_4
      refine lv_iconst (v := (-1)) hx hb eX3_firstOfWay_28.2.2.2.2.2.2.1 ic_m1 ?_
      refine lv_ixor hx hb eX3_firstOfWay_28.2.2.2.2.2.2.2.1 ?_
      refine lv_iand hx hb eX3_firstOfWay_28.2.2.2.2.2.2.2.2.1 ?_
      refine lv_topi (fun v_5 ev_5 => ?_)
      have hp := hp v_5 ev_5
      have hm := mgk (wc := (wd_X3_waySeconds cI cC cZ cB cJ wJ tX jE mX pD oO oQ eG bZ bD bI aI nJ dQ)) hP aBD 3 rfl rfl rfl
      refine g_calli hP hD hS hA (mixT aBD) (mixF aBD) hm.1 hm.2 (nd_F _) (dis_g _) (g_runV (As := [.int x4, .int v_5]) (rest := [.int r_3]) C0 hP hD hS (mixT aBD) hm.1 (nd_T _) 0 3 rfl rfl (c_X3_waySeconds l dC dI cI cC cZ cB cJ wJ tX jE mX pD oO oQ eG H.size x4 v_5 bZ bD bI aI nJ dQ _ hp) q_489 q_492 q_490 q_491 q_48 h_X3_waySeconds rfl rfl ⟨Nat.le_of_ble_eq_true rfl, Nat.le_of_ble_eq_true rfl⟩ rfl rfl hl.1 rfl (lv_room (Nat.le_of_ble_eq_true rfl)) eX3_firstOfWay_28.2.2.2.2.2.2.2.2.2.1 ⟨Nat.zero_le _, Nat.zero_le _⟩) (fun r_6 u H locs hp hP hD hS => ?_)
      have hPD := PDm (ws' := (wd_X3_firstOfWay cI cC cZ cB cJ wJ tX jE mX pD oO oQ eG bZ bD bI aI nJ dQ)) hP hD 3 rfl rfl rfl
      have hP := hPD.1
      have hD := hPD.2
      refine lv_iadd hx hb eX3_firstOfWay_28.2.2.2.2.2.2.2.2.2.2.1 ?_
      refine lv_topi (fun v_7 ev_7 => ?_)
      have hp := hp v_7 ev_7
      refine lv_iload_n hx hb eX3_firstOfWay_28.2.2.2.2.2.2.2.2.2.2.2.1 rfl (lv_at hl 3 rfl) ?_
      refine lv_icmp_ne (tgt := 50) hx hb eX3_firstOfWay_28.2.2.2.2.2.2.2.2.2.2.2.2.1 (by decide) (fun hc => ?_) (fun hc => ?_)
      · have hp := hp.1 hc
        exact ks_X3_firstOfWay_50 C0 hKn x1 x2 x3 x4 H locs ls hp hP hD hS (lv_sub hl [0, 1, 2, 3, 4] rfl)
      · have hp := hp.2 hc
        refine lv_iload hx hb eX3_firstOfWay_28.2.2.2.2.2.2.2.2.2.2.2.2.2.1 (lv_at hl 4 rfl) ?_
        exact W.iret (v := x4) hx hb hr (fun t ht hW => ⟨⟨x4, (), rfl, hp, by rw [ht]; exact hP, va_K.moved hW.alike hK, hD⟩, hS.F ht⟩) hS.2.2 eX3_firstOfWay_28.2.2.2.2.2.2.2.2.2.2.2.2.2.2.1
set_option maxHeartbeats 4000000 in
set_option maxRecDepth 100000 in
theorem kb_X3_firstOfWay_3 (C0 : gc cX3_firstOfWay (some .int) 5 RX3 (dC, dI) (tyl cI cC cZ cB cJ) A p s m args meth c) : ∀ (n : Nat), ∀ (x1 x2 x3 x4 : Int32) (H : Heap) (locs : List Loc) (ls : Array Slot), (wb_X3_firstOfWay_3 post bD nJ dQ n) x1 x2 x3 x4 → va_P (dC, dI) classes (wd_X3_firstOfWay cI cC cZ cB cJ wJ tX jE mX pD oO oQ eG bZ bD bI aI nJ dQ) H → va_D A (wd_X3_firstOfWay cI cC cZ cB cJ wJ tX jE mX pD oO oQ eG bZ bD bI aI nJ dQ) → va_S A s.heap H locs → lv_has ls 5 [(0, .ref wJ), (1, .int x1), (2, .int x2), (3, .int x3), (4, .int x4)] → W p l e rm_X3_firstOfWay s m args below meth c H locs 0 0 (MQ below (q_X3_firstOfWay dC dI cI cC cZ cB cJ A wJ tX jE mX pD oO oQ eG bZ bD bI aI nJ dQ post) args s 0 0 A) (F0 m 3 ls []) := by
  intro n
  induction n with
  | zero =>
    intro x1 x2 x3 x4 H locs ls hp
    exact False.elim hp
  | succ n ih =>
    intro x1 x2 x3 x4 H locs ls hp
    exact ks_X3_firstOfWay_3 C0 ih x1 x2 x3 x4 H locs ls hp
end S_X3_firstOfWay
noncomputable def wp_X3_firstOfWay (post : Int32 → Prop) (p0 p1 p2 bD : Int32) (nJ dQ : Nat → Int32) : Prop := ∃ n : Nat, wb_X3_firstOfWay_3 post bD nJ dQ n p0 p1 p2 0
set_option maxHeartbeats 4000000 in
set_option maxRecDepth 100000 in
theorem c_X3_firstOfWay (l : Launch) (dC : Nat → ClassId) (dI : Nat → Nat → Nat) (cI cC cZ cB cJ : ClassId) (wJ tX jE mX pD oO oQ eG sz : Nat) (p0 p1 p2 bZ bD bI aI : Int32) (nJ dQ : Nat → Int32) (post : Int32 → Prop) (hw : wp_X3_firstOfWay post p0 p1 p2 bD nJ dQ) : Met l yX3_firstOfWay (gw yX3_firstOfWay cX3_firstOfWay 5 (some .int)) rm_X3_firstOfWay (va_Pc [.ref wJ, .int p0, .int p1, .int p2] (gPre (dC, dI) (tyl cI cC cZ cB cJ) (wd_X3_firstOfWay cI cC cZ cB cJ wJ tX jE mX pD oO oQ eG bZ bD bI aI nJ dQ) sz)) (q_X3_firstOfWay dC dI cI cC cZ cB cJ (va_A (wd_X3_firstOfWay cI cC cZ cB cJ wJ tX jE mX pD oO oQ eG bZ bD bI aI nJ dQ) sz) wJ tX jE mX pD oO oQ eG bZ bD bI aI nJ dQ post) 0 0 (va_A (wd_X3_firstOfWay cI cC cZ cB cJ wJ tX jE mX pD oO oQ eG bZ bD bI aI nJ dQ) sz) := by
  refine g_enter (own := RX3) (dC, dI) (tyl cI cC cZ cB cJ) (wd_X3_firstOfWay cI cC cZ cB cJ wJ tX jE mX pD oO oQ eG bZ bD bI aI nJ dQ) sz [.ref wJ, .int p0, .int p1, .int p2] (fun A => q_X3_firstOfWay dC dI cI cC cZ cB cJ A wJ tX jE mX pD oO oQ eG bZ bD bI aI nJ dQ post) pn_RX3 rfl (Nat.le_of_ble_eq_true rfl) ?_
  intro p e s m args below meth c A H locs ls C0 hP hD hS hl
  have hl : lv_has ls 5 [(0, .ref wJ), (1, .int p0), (2, .int p1), (3, .int p2)] := hl
  obtain ⟨hx, hb, hr, hml, hown, hts, hlocks, hA, hK, hN, tL, tM, hZL, hTL, hZM, hTM, hZX⟩ := id C0
  have hp := hw
  unfold wp_X3_firstOfWay at hp
  refine lv_iconst (v := 0) hx hb eX3_firstOfWay_0.1 ic_0 ?_
  refine lv_istore (lv' := [(4, .int 0), (0, .ref wJ), (1, .int p0), (2, .int p1), (3, .int p2)]) hx hb eX3_firstOfWay_0.2.1 hl (by decide) rfl (fun ls hl => ?_)
  obtain ⟨n9, hp⟩ := hp
  exact kb_X3_firstOfWay_3 C0 n9 p0 p1 p2 0 H locs ls hp hP hD hS (lv_sub hl [1, 2, 3, 4, 0] rfl)
noncomputable abbrev wd_X9_route (cI cC cZ cB cJ : ClassId) (a_x xG xD wY wJ wQ xI xK xJ tW xH tX jE mX pD oO oQ eG qT : Nat) (bZ bD bI aI : Int32) (nJ dQ : Nat → Int32) (jC eO eW dO fJ fY jD nG qF : Int32) (jJ : Nat → Int32) : va_W := [(a_x, .inr (9, [.ref xG, .ref xD, .ref wY, .ref wJ, .ref wQ, .ref xI, .ref xK, .ref xJ, .ref tW])), (wY, .inr (0, [.ref wJ, .ref wQ, .ref xH])), (wJ, .inr (3, [.ref tX, .ref jE, .ref mX, .ref pD, .ref oO, .ref oQ, .ref eG, .int bZ, .int bD, .int bI, .int aI])), (oO, .inl (cI, 8, .inl nJ)), (eG, .inl (cI, 5, .inl dQ)), (wQ, .inr (2, [.int jC, .int eO, .int eW, .int dO, .int fJ, .int fY, .int jD, .int nG])), (xK, .inr (6, [.ref qT, .int qF])), (qT, .inl (cI, 16, .inl jJ))]
noncomputable abbrev q_X9_route (dC : Nat → ClassId) (dI : Nat → Nat → Nat) (cI cC cZ cB cJ : ClassId) (A : Nat → Prop) (a_x xG xD wY wJ wQ xI xK xJ tW xH tX jE mX pD oO oQ eG qT : Nat) (bZ bD bI aI : Int32) (nJ dQ : Nat → Int32) (jC eO eW dO fJ fY jD nG : Int32) (post : Int32 → Int32 → (Nat → Int32) → Prop) : Array Value → State → Outcome → State → Prop := va_Qi (fun (r : Int32) (u : Int32 × (Nat → Int32)) => post r u.1 u.2) (fun u t => gB (dC, dI) (tyl cI cC cZ cB cJ) A (wd_X9_route cI cC cZ cB cJ a_x xG xD wY wJ wQ xI xK xJ tW xH tX jE mX pD oO oQ eG qT bZ bD bI aI nJ dQ jC eO eW dO fJ fY jD nG u.1 u.2) t) A
noncomputable abbrev rm_X9_route : Room := { frames := 3, cells := 0, slots := 0, locals := 71 }
section S_X9_route
variable {p : Program} {l : Launch} {e : Env} {s : State} {m : MethodId} {args : Array Value} {below : List Frame} {meth : Method} {c : Code} {dC : Nat → ClassId} {dI : Nat → Nat → Nat} {cI cC cZ cB cJ : ClassId} {A : Nat → Prop} {a_x xG xD wY wJ wQ xI xK xJ tW xH tX jE mX pD oO oQ eG qT : Nat} {bZ bD bI aI : Int32} {nJ dQ : Nat → Int32} {jC eO eW dO fJ fY jD nG : Int32} {post : Int32 → Int32 → (Nat → Int32) → Prop}
noncomputable def ws_X9_route_55 (post : Int32 → Int32 → (Nat → Int32) → Prop) (next : Int32 → Int32 → Int32 → Int32 → Int32 → Int32 → (Nat → Int32) → Prop) (bD : Int32) (nJ dQ : Nat → Int32) (fJ x2 x3 x4 x5 x6 qF : Int32) (jJ : Nat → Int32) : Prop := (8 ≤ x6 → post x4 qF jJ) ∧ (¬ 8 ≤ x6 → (x2 = 0 → post x4 qF jJ) ∧ (¬ x2 = 0 → wp_X3_firstOfWay (fun r_5 => (¬ r_5 = (-1) → wp_X6_add (fun zW yO => wp_X3_moveSeconds (fun r_8 => ∀ v_9 : Int32, v_9 = x5 - r_8 → ∀ v_10 : Int32, v_10 = 1 <<< (r_5 &&& 31) → ∀ v_11 : Int32, v_11 = x2 &&& (v_10 ^^^ (-1)) → ∀ v_12 : Int32, v_12 = x6 + 1 → next v_11 r_5 x4 v_9 v_12 zW yO) x3 r_5 nJ dQ) r_5 qF jJ) ∧ (r_5 = (-1) → post x4 qF jJ)) x3 x2 x5 bD nJ dQ))
noncomputable def wb_X9_route_55 (post : Int32 → Int32 → (Nat → Int32) → Prop) (bD : Int32) (nJ dQ : Nat → Int32) (fJ : Int32) : Nat → Int32 → Int32 → Int32 → Int32 → Int32 → Int32 → (Nat → Int32) → Prop := fun n => Nat.rec (motive := fun _ => Int32 → Int32 → Int32 → Int32 → Int32 → Int32 → (Nat → Int32) → Prop) (fun _ _ _ _ _ _ _ => False) (fun _ ih => ws_X9_route_55 post ih bD nJ dQ fJ) n
set_option maxHeartbeats 4000000 in
set_option maxRecDepth 100000 in
theorem ks_X9_route_55 (C0 : gc cX9_route (some .int) 8 RX9 (dC, dI) (tyl cI cC cZ cB cJ) A p s m args meth c) {next : Int32 → Int32 → Int32 → Int32 → Int32 → Int32 → (Nat → Int32) → Prop} (hKn : ∀ (x2 : Int32) (x3 : Int32) (x4 : Int32) (x5 : Int32) (x6 : Int32) (qF : Int32) (jJ : Nat → Int32) (H : Heap) (locs : List Loc) (ls : Array Slot), next x2 x3 x4 x5 x6 qF jJ → va_P (dC, dI) classes (wd_X9_route cI cC cZ cB cJ a_x xG xD wY wJ wQ xI xK xJ tW xH tX jE mX pD oO oQ eG qT bZ bD bI aI nJ dQ jC eO eW dO fJ fY jD nG qF jJ) H → va_D A (wd_X9_route cI cC cZ cB cJ a_x xG xD wY wJ wQ xI xK xJ tW xH tX jE mX pD oO oQ eG qT bZ bD bI aI nJ dQ jC eO eW dO fJ fY jD nG qF jJ) → va_S A s.heap H locs → lv_has ls 8 [(0, .ref a_x), (2, .int x2), (3, .int x3), (4, .int x4), (5, .int x5), (6, .int x6)] → W p l e rm_X9_route s m args below meth c H locs 0 0 (MQ below (q_X9_route dC dI cI cC cZ cB cJ A a_x xG xD wY wJ wQ xI xK xJ tW xH tX jE mX pD oO oQ eG qT bZ bD bI aI nJ dQ jC eO eW dO fJ fY jD nG post) args s 0 0 A) (F0 m 55 ls [])) : ∀ (x2 x3 x4 x5 x6 qF : Int32) (jJ : Nat → Int32) (H : Heap) (locs : List Loc) (ls : Array Slot), (ws_X9_route_55 post next bD nJ dQ fJ) x2 x3 x4 x5 x6 qF jJ → va_P (dC, dI) classes (wd_X9_route cI cC cZ cB cJ a_x xG xD wY wJ wQ xI xK xJ tW xH tX jE mX pD oO oQ eG qT bZ bD bI aI nJ dQ jC eO eW dO fJ fY jD nG qF jJ) H → va_D A (wd_X9_route cI cC cZ cB cJ a_x xG xD wY wJ wQ xI xK xJ tW xH tX jE mX pD oO oQ eG qT bZ bD bI aI nJ dQ jC eO eW dO fJ fY jD nG qF jJ) → va_S A s.heap H locs → lv_has ls 8 [(0, .ref a_x), (2, .int x2), (3, .int x3), (4, .int x4), (5, .int x5), (6, .int x6)] → W p l e rm_X9_route s m args below meth c H locs 0 0 (MQ below (q_X9_route dC dI cI cC cZ cB cJ A a_x xG xD wY wJ wQ xI xK xJ tW xH tX jE mX pD oO oQ eG qT bZ bD bI aI nJ dQ jC eO eW dO fJ fY jD nG post) args s 0 0 A) (F0 m 55 ls []) := by
  obtain ⟨hx, hb, hr, hml, hown, hts, hlocks, hA, hK, hN, tL, tM, hZL, hTL, hZM, hTM, hZX⟩ := id C0
  intro x2 x3 x4 x5 x6 qF jJ H locs ls hp hP hD hS hl
  unfold ws_X9_route_55 at hp
  refine lv_iload hx hb eX9_route_30.2.2.2.2.2.2.2.2.2.2.2.2.2.1 (lv_at hl 5 rfl) ?_
  refine lv_bipush (v := 8) hx hb eX9_route_30.2.2.2.2.2.2.2.2.2.2.2.2.2.2.1 bp_8 ?_
  refine lv_icmp_ge (tgt := 130) hx hb eX9_route_30.2.2.2.2.2.2.2.2.2.2.2.2.2.2.2 (by decide) (fun hc => ?_) (fun hc => ?_)
  · have hp := hp.1 hc
    refine lv_iload hx hb eX9_route_120.2.2.2.2.2.1 (lv_at hl 3 rfl) ?_
    exact W.iret (v := x4) hx hb hr (fun t ht hW => ⟨⟨x4, (qF, jJ), rfl, hp, by rw [ht]; exact hP, va_K.moved hW.alike hK, hD⟩, hS.F ht⟩) hS.2.2 eX9_route_120.2.2.2.2.2.2
  · have hp := hp.2 hc
    refine lv_iload_n hx hb eX9_route_62.1 rfl (lv_at hl 1 rfl) ?_
    refine lv_if_eq (tgt := 130) hx hb eX9_route_62.2.1 (by decide) (fun hc => ?_) (fun hc => ?_)
    · have hp := hp.1 hc
      refine lv_iload hx hb eX9_route_120.2.2.2.2.2.1 (lv_at hl 3 rfl) ?_
      exact W.iret (v := x4) hx hb hr (fun t ht hW => ⟨⟨x4, (qF, jJ), rfl, hp, by rw [ht]; exact hP, va_K.moved hW.alike hK, hD⟩, hS.F ht⟩) hS.2.2 eX9_route_120.2.2.2.2.2.2
    · have hp := hp.2 hc
      refine lv_aload_n hx hb eX9_route_62.2.2.1 rfl (lv_at hl 0 rfl) ?_
      refine va_get (D := (dC, dI)) (ci := 9) (v := .ref wJ) (C := RX9) (T := TX9) (N := 9) hx hb hts i_X9 hown hK hP 0 rfl rfl 3 (Nat.le_of_ble_eq_true rfl) (hts _ q_74) (fun _ h9 => h9) rfl eX9_route_62.2.2.2.1 ?_
      refine lv_iload_n hx hb eX9_route_62.2.2.2.2.1 rfl (lv_at hl 2 rfl) ?_
      refine lv_iload_n hx hb eX9_route_62.2.2.2.2.2.1 rfl (lv_at hl 1 rfl) ?_
      refine lv_iload hx hb eX9_route_62.2.2.2.2.2.2.1 (lv_at hl 4 rfl) ?_
      have hm := mgk (wc := (wd_X3_firstOfWay cI cC cZ cB cJ wJ tX jE mX pD oO oQ eG bZ bD bI aI nJ dQ)) hP mk_35 8 rfl rfl rfl
      refine g_calli hP hD hS hA (mixT mk_35) (mixF mk_35) hm.1 hm.2 (nd_F _) (dis_g _) (g_runV (As := [.int x3, .int x2, .int x5]) (rest := []) C0 hP hD hS (mixT mk_35) hm.1 (nd_T _) 2 3 rfl rfl (c_X3_firstOfWay l dC dI cI cC cZ cB cJ wJ tX jE mX pD oO oQ eG H.size x3 x2 x5 bZ bD bI aI nJ dQ _ hp) q_499 q_502 q_500 q_501 q_48 h_X3_firstOfWay rfl rfl ⟨Nat.le_of_ble_eq_true rfl, Nat.le_of_ble_eq_true rfl⟩ rfl rfl hl.1 rfl (lv_room (Nat.le_of_ble_eq_true rfl)) eX9_route_62.2.2.2.2.2.2.2.1 ⟨Nat.zero_le _, Nat.zero_le _⟩) (fun r_5 u H locs hp hP hD hS => ?_)
      have hPD := PDm (ws' := (wd_X9_route cI cC cZ cB cJ a_x xG xD wY wJ wQ xI xK xJ tW xH tX jE mX pD oO oQ eG qT bZ bD bI aI nJ dQ jC eO eW dO fJ fY jD nG qF jJ)) hP hD 8 rfl rfl rfl
      have hP := hPD.1
      have hD := hPD.2
      refine lv_istore (lv' := [(7, .int r_5), (0, .ref a_x), (2, .int x2), (3, .int x3), (4, .int x4), (5, .int x5), (6, .int x6)]) hx hb eX9_route_62.2.2.2.2.2.2.2.2.1 hl (by decide) rfl (fun ls hl => ?_)
      refine lv_iload hx hb eX9_route_62.2.2.2.2.2.2.2.2.2.1 (lv_at hl 0 rfl) ?_
      refine lv_iconst (v := (-1)) hx hb eX9_route_62.2.2.2.2.2.2.2.2.2.2.1 ic_m1 ?_
      refine lv_icmp_ne (tgt := 88) hx hb eX9_route_62.2.2.2.2.2.2.2.2.2.2.2.1 (by decide) (fun hc => ?_) (fun hc => ?_)
      · have hp := hp.1 hc
        refine lv_aload_n hx hb eX9_route_62.2.2.2.2.2.2.2.2.2.2.2.2.2.1 rfl (lv_at hl 1 rfl) ?_
        refine va_get (D := (dC, dI)) (ci := 9) (v := .ref xK) (C := RX9) (T := TX9) (N := 9) hx hb hts i_X9 hown hK hP 0 rfl rfl 6 (Nat.le_of_ble_eq_true rfl) (hts _ q_363) (fun _ h9 => h9) rfl eX9_route_62.2.2.2.2.2.2.2.2.2.2.2.2.2.2.1 ?_
        refine lv_iload hx hb eX9_route_62.2.2.2.2.2.2.2.2.2.2.2.2.2.2.2 (lv_at hl 0 rfl) ?_
        have hm := mgk (wc := (wd_X6_add cI cC cZ cB cJ xK qT qF jJ)) hP mk_132 8 rfl rfl rfl
        refine g_callv hP hD hS hA (mixT mk_132) (mixF mk_132) hm.1 hm.2 (nd_F _) (dis_g _) (g_runV (As := [.int r_5]) (rest := []) C0 hP hD hS (mixT mk_132) hm.1 (nd_T _) 6 6 rfl rfl (c_X6_add l dC dI cI cC cZ cB cJ xK qT H.size r_5 qF jJ _ hp) q_369 q_372 q_370 q_371 q_365 h_X6_add rfl rfl ⟨Nat.le_of_ble_eq_true rfl, Nat.le_of_ble_eq_true rfl⟩ rfl rfl hl.1 rfl (lv_room (Nat.le_of_ble_eq_true rfl)) eX9_route_94.1 ⟨Nat.zero_le _, Nat.zero_le _⟩) (fun u H locs hp hP hD hS => ?_)
        obtain ⟨zW, yO⟩ := u
        have hPD := PDm (ws' := (wd_X9_route cI cC cZ cB cJ a_x xG xD wY wJ wQ xI xK xJ tW xH tX jE mX pD oO oQ eG qT bZ bD bI aI nJ dQ jC eO eW dO fJ fY jD nG zW yO)) hP hD 8 rfl rfl rfl
        have hP := hPD.1
        have hD := hPD.2
        refine lv_iload hx hb eX9_route_94.2.1 (lv_at hl 5 rfl) ?_
        refine lv_aload_n hx hb eX9_route_94.2.2.1 rfl (lv_at hl 1 rfl) ?_
        refine va_get (D := (dC, dI)) (ci := 9) (v := .ref wJ) (C := RX9) (T := TX9) (N := 9) hx hb hts i_X9 hown hK hP 0 rfl rfl 3 (Nat.le_of_ble_eq_true rfl) (hts _ q_74) (fun _ h9 => h9) rfl eX9_route_94.2.2.2.1 ?_
        refine lv_iload_n hx hb eX9_route_94.2.2.2.2.1 rfl (lv_at hl 3 rfl) ?_
        refine lv_iload hx hb eX9_route_94.2.2.2.2.2.1 (lv_at hl 0 rfl) ?_
        have hm := mgk (wc := (wd_X3_moveSeconds cI cC cZ cB cJ wJ tX jE mX pD oO oQ eG bZ bD bI aI nJ dQ)) hP mk_35 8 rfl rfl rfl
        refine g_calli hP hD hS hA (mixT mk_35) (mixF mk_35) hm.1 hm.2 (nd_F _) (dis_g _) (g_runV (As := [.int x3, .int r_5]) (rest := [.int x5]) C0 hP hD hS (mixT mk_35) hm.1 (nd_T _) 2 3 rfl rfl (c_X3_moveSeconds l dC dI cI cC cZ cB cJ wJ tX jE mX pD oO oQ eG H.size x3 r_5 bZ bD bI aI nJ dQ _ hp) q_229 q_503 q_230 q_231 q_48 h_X3_moveSeconds rfl rfl ⟨Nat.le_of_ble_eq_true rfl, Nat.le_of_ble_eq_true rfl⟩ rfl rfl hl.1 rfl (lv_room (Nat.le_of_ble_eq_true rfl)) eX9_route_94.2.2.2.2.2.2.1 ⟨Nat.zero_le _, Nat.zero_le _⟩) (fun r_8 u H locs hp hP hD hS => ?_)
        have hPD := PDm (ws' := (wd_X9_route cI cC cZ cB cJ a_x xG xD wY wJ wQ xI xK xJ tW xH tX jE mX pD oO oQ eG qT bZ bD bI aI nJ dQ jC eO eW dO fJ fY jD nG zW yO)) hP hD 8 rfl rfl rfl
        have hP := hPD.1
        have hD := hPD.2
        refine lv_isub hx hb eX9_route_94.2.2.2.2.2.2.2.1 ?_
        refine lv_topi (fun v_9 ev_9 => ?_)
        have hp := hp v_9 ev_9
        refine lv_istore (lv' := [(5, .int v_9), (7, .int r_5), (0, .ref a_x), (2, .int x2), (3, .int x3), (4, .int x4), (6, .int x6)]) hx hb eX9_route_94.2.2.2.2.2.2.2.2.1 hl (by decide) rfl (fun ls hl => ?_)
        refine lv_iload_n hx hb eX9_route_94.2.2.2.2.2.2.2.2.2.1 rfl (lv_at hl 3 rfl) ?_
        refine lv_iconst (v := 1) hx hb eX9_route_94.2.2.2.2.2.2.2.2.2.2.1 ic_1 ?_
        refine lv_iload hx hb eX9_route_94.2.2.2.2.2.2.2.2.2.2.2.1 (lv_at hl 1 rfl) ?_
        refine lv_ishl hx hb eX9_route_94.2.2.2.2.2.2.2.2.2.2.2.2.1 ?_
        refine lv_topi (fun v_10 ev_10 => ?_)
        have hp := hp v_10 ev_10
        refine lv_iconst (v := (-1)) hx hb eX9_route_94.2.2.2.2.2.2.2.2.2.2.2.2.2.1 ic_m1 ?_
        refine lv_ixor hx hb eX9_route_94.2.2.2.2.2.2.2.2.2.2.2.2.2.2.1 ?_
        refine lv_iand hx hb eX9_route_94.2.2.2.2.2.2.2.2.2.2.2.2.2.2.2 ?_
        refine lv_topi (fun v_11 ev_11 => ?_)
        have hp := hp v_11 ev_11
        refine lv_istore_n (lv' := [(2, .int v_11), (5, .int v_9), (7, .int r_5), (0, .ref a_x), (3, .int x3), (4, .int x4), (6, .int x6)]) hx hb eX9_route_120.1 rfl hl (by decide) rfl (fun ls hl => ?_)
        refine lv_iload hx hb eX9_route_120.2.1 (lv_at hl 2 rfl) ?_
        refine lv_istore_n (lv' := [(3, .int r_5), (2, .int v_11), (5, .int v_9), (7, .int r_5), (0, .ref a_x), (4, .int x4), (6, .int x6)]) hx hb eX9_route_120.2.2.1 rfl hl (by decide) rfl (fun ls hl => ?_)
        obtain ⟨v_12, ev_12⟩ : ∃ y : Int32, y = x6 + 1 := ⟨_, rfl⟩
        refine lv_iinc (v := v_12) (lv' := [(6, .int v_12), (3, .int r_5), (2, .int v_11), (5, .int v_9), (7, .int r_5), (0, .ref a_x), (4, .int x4)]) hx hb eX9_route_120.2.2.2.1 hl (k := 6) rfl (by rw [ev_12]; rfl) (by decide) rfl (fun ls hl => ?_)
        have hp := hp v_12 ev_12
        refine lv_goto (tgt := 55) hx hb eX9_route_120.2.2.2.2.1 (by decide) ?_
        exact hKn v_11 r_5 x4 v_9 v_12 zW yO H locs ls hp hP hD hS (lv_sub hl [5, 2, 1, 6, 3, 0] rfl)
      · have hp := hp.2 hc
        refine lv_goto (tgt := 130) hx hb eX9_route_62.2.2.2.2.2.2.2.2.2.2.2.2.1 (by decide) ?_
        refine lv_iload hx hb eX9_route_120.2.2.2.2.2.1 (lv_at hl 4 rfl) ?_
        exact W.iret (v := x4) hx hb hr (fun t ht hW => ⟨⟨x4, (qF, jJ), rfl, hp, by rw [ht]; exact hP, va_K.moved hW.alike hK, hD⟩, hS.F ht⟩) hS.2.2 eX9_route_120.2.2.2.2.2.2
set_option maxHeartbeats 4000000 in
set_option maxRecDepth 100000 in
theorem kb_X9_route_55 (C0 : gc cX9_route (some .int) 8 RX9 (dC, dI) (tyl cI cC cZ cB cJ) A p s m args meth c) : ∀ (n : Nat), ∀ (x2 x3 x4 x5 x6 qF : Int32) (jJ : Nat → Int32) (H : Heap) (locs : List Loc) (ls : Array Slot), (wb_X9_route_55 post bD nJ dQ fJ n) x2 x3 x4 x5 x6 qF jJ → va_P (dC, dI) classes (wd_X9_route cI cC cZ cB cJ a_x xG xD wY wJ wQ xI xK xJ tW xH tX jE mX pD oO oQ eG qT bZ bD bI aI nJ dQ jC eO eW dO fJ fY jD nG qF jJ) H → va_D A (wd_X9_route cI cC cZ cB cJ a_x xG xD wY wJ wQ xI xK xJ tW xH tX jE mX pD oO oQ eG qT bZ bD bI aI nJ dQ jC eO eW dO fJ fY jD nG qF jJ) → va_S A s.heap H locs → lv_has ls 8 [(0, .ref a_x), (2, .int x2), (3, .int x3), (4, .int x4), (5, .int x5), (6, .int x6)] → W p l e rm_X9_route s m args below meth c H locs 0 0 (MQ below (q_X9_route dC dI cI cC cZ cB cJ A a_x xG xD wY wJ wQ xI xK xJ tW xH tX jE mX pD oO oQ eG qT bZ bD bI aI nJ dQ jC eO eW dO fJ fY jD nG post) args s 0 0 A) (F0 m 55 ls []) := by
  intro n
  induction n with
  | zero =>
    intro x2 x3 x4 x5 x6 qF jJ H locs ls hp
    exact False.elim hp
  | succ n ih =>
    intro x2 x3 x4 x5 x6 qF jJ H locs ls hp
    exact ks_X9_route_55 C0 ih x2 x3 x4 x5 x6 qF jJ H locs ls hp
end S_X9_route
noncomputable def wp_X9_route (post : Int32 → Int32 → (Nat → Int32) → Prop) (p0 bD : Int32) (nJ dQ : Nat → Int32) (fJ qF : Int32) (jJ : Nat → Int32) : Prop := wp_X3_areStandings (fun r_1 => (¬ r_1 = 0 → wp_X6_clear (fun aAO => wp_X0_withoutLadder (fun r_3 => wp_X3_waySeconds (fun r_4 => ∃ n : Nat, wb_X9_route_55 post bD nJ dQ fJ n r_3 fJ r_4 r_4 0 aAO jJ) fJ r_3 bD nJ dQ) p0 fJ) qF) ∧ (r_1 = 0 → post (-1) qF jJ)) p0 bD
set_option maxHeartbeats 4000000 in
set_option maxRecDepth 100000 in
theorem c_X9_route (l : Launch) (dC : Nat → ClassId) (dI : Nat → Nat → Nat) (cI cC cZ cB cJ : ClassId) (a_x xG xD wY wJ wQ xI xK xJ tW xH tX jE mX pD oO oQ eG qT sz : Nat) (p0 bZ bD bI aI : Int32) (nJ dQ : Nat → Int32) (jC eO eW dO fJ fY jD nG qF : Int32) (jJ : Nat → Int32) (post : Int32 → Int32 → (Nat → Int32) → Prop) (hw : wp_X9_route post p0 bD nJ dQ fJ qF jJ) : Met l yX9_route (gw yX9_route cX9_route 8 (some .int)) rm_X9_route (va_Pc [.ref a_x, .int p0] (gPre (dC, dI) (tyl cI cC cZ cB cJ) (wd_X9_route cI cC cZ cB cJ a_x xG xD wY wJ wQ xI xK xJ tW xH tX jE mX pD oO oQ eG qT bZ bD bI aI nJ dQ jC eO eW dO fJ fY jD nG qF jJ) sz)) (q_X9_route dC dI cI cC cZ cB cJ (va_A (wd_X9_route cI cC cZ cB cJ a_x xG xD wY wJ wQ xI xK xJ tW xH tX jE mX pD oO oQ eG qT bZ bD bI aI nJ dQ jC eO eW dO fJ fY jD nG qF jJ) sz) a_x xG xD wY wJ wQ xI xK xJ tW xH tX jE mX pD oO oQ eG qT bZ bD bI aI nJ dQ jC eO eW dO fJ fY jD nG post) 0 0 (va_A (wd_X9_route cI cC cZ cB cJ a_x xG xD wY wJ wQ xI xK xJ tW xH tX jE mX pD oO oQ eG qT bZ bD bI aI nJ dQ jC eO eW dO fJ fY jD nG qF jJ) sz) := by
  refine g_enter (own := RX9) (dC, dI) (tyl cI cC cZ cB cJ) (wd_X9_route cI cC cZ cB cJ a_x xG xD wY wJ wQ xI xK xJ tW xH tX jE mX pD oO oQ eG qT bZ bD bI aI nJ dQ jC eO eW dO fJ fY jD nG qF jJ) sz [.ref a_x, .int p0] (fun A => q_X9_route dC dI cI cC cZ cB cJ A a_x xG xD wY wJ wQ xI xK xJ tW xH tX jE mX pD oO oQ eG qT bZ bD bI aI nJ dQ jC eO eW dO fJ fY jD nG post) pn_RX9 rfl (Nat.le_of_ble_eq_true rfl) ?_
  intro p e s m args below meth c A H locs ls C0 hP hD hS hl
  have hl : lv_has ls 8 [(0, .ref a_x), (1, .int p0)] := hl
  obtain ⟨hx, hb, hr, hml, hown, hts, hlocks, hA, hK, hN, tL, tM, hZL, hTL, hZM, hTM, hZX⟩ := id C0
  have hp := hw
  unfold wp_X9_route at hp
  refine lv_aload_n hx hb eX9_route_0.1 rfl (lv_at hl 0 rfl) ?_
  refine va_get (D := (dC, dI)) (ci := 9) (v := .ref wJ) (C := RX9) (T := TX9) (N := 9) hx hb hts i_X9 hown hK hP 0 rfl rfl 3 (Nat.le_of_ble_eq_true rfl) (hts _ q_74) (fun _ h9 => h9) rfl eX9_route_0.2.1 ?_
  refine lv_iload_n hx hb eX9_route_0.2.2.1 rfl (lv_at hl 1 rfl) ?_
  have hm := mgk (wc := (wd_X3_areStandings cI cC cZ cB cJ wJ tX jE mX pD oO oQ eG bZ bD bI aI)) hP mk_32 8 rfl rfl rfl
  refine g_calli hP hD hS hA (mixT mk_32) (mixF mk_32) hm.1 hm.2 (nd_F _) (dis_g _) (g_runV (As := [.int p0]) (rest := []) C0 hP hD hS (mixT mk_32) hm.1 (nd_T _) 2 3 rfl rfl (c_X3_areStandings l dC dI cI cC cZ cB cJ wJ tX jE mX pD oO oQ eG H.size p0 bZ bD bI aI _ hp) q_483 q_486 q_484 q_485 q_48 h_X3_areStandings rfl rfl ⟨Nat.le_of_ble_eq_true rfl, Nat.le_of_ble_eq_true rfl⟩ rfl rfl hl.1 rfl (lv_room (Nat.le_of_ble_eq_true rfl)) eX9_route_0.2.2.2.1 ⟨Nat.zero_le _, Nat.zero_le _⟩) (fun r_1 u H locs hp hP hD hS => ?_)
  have hPD := PDm (ws' := (wd_X9_route cI cC cZ cB cJ a_x xG xD wY wJ wQ xI xK xJ tW xH tX jE mX pD oO oQ eG qT bZ bD bI aI nJ dQ jC eO eW dO fJ fY jD nG qF jJ)) hP hD 8 rfl rfl rfl
  have hP := hPD.1
  have hD := hPD.2
  refine lv_if_ne (tgt := 13) hx hb eX9_route_0.2.2.2.2.1 (by decide) (fun hc => ?_) (fun hc => ?_)
  · have hp := hp.1 hc
    refine lv_aload_n hx hb eX9_route_0.2.2.2.2.2.2.2.1 rfl (lv_at hl 0 rfl) ?_
    refine va_get (D := (dC, dI)) (ci := 9) (v := .ref xK) (C := RX9) (T := TX9) (N := 9) hx hb hts i_X9 hown hK hP 0 rfl rfl 6 (Nat.le_of_ble_eq_true rfl) (hts _ q_363) (fun _ h9 => h9) rfl eX9_route_0.2.2.2.2.2.2.2.2.1 ?_
    have hm := mgk (wc := (wd_X6_clear cI cC cZ cB cJ xK qT qF)) hP mk_133 8 rfl rfl rfl
    refine g_callv hP hD hS hA (mixT mk_133) (mixF mk_133) hm.1 hm.2 (nd_F _) (dis_g _) (g_runV (As := []) (rest := []) C0 hP hD hS (mixT mk_133) hm.1 (nd_T _) 6 6 rfl rfl (c_X6_clear l dC dI cI cC cZ cB cJ xK qT H.size qF _ hp) q_364 q_368 q_366 q_367 q_365 h_X6_clear rfl rfl ⟨Nat.le_of_ble_eq_true rfl, Nat.le_of_ble_eq_true rfl⟩ rfl rfl hl.1 rfl (lv_room (Nat.le_of_ble_eq_true rfl)) eX9_route_0.2.2.2.2.2.2.2.2.2.1 ⟨Nat.zero_le _, Nat.zero_le _⟩) (fun u H locs hp hP hD hS => ?_)
    obtain ⟨aAO, rfl⟩ : ∃ z, z = u := ⟨_, rfl⟩
    have hPD := PDm (ws' := (wd_X9_route cI cC cZ cB cJ a_x xG xD wY wJ wQ xI xK xJ tW xH tX jE mX pD oO oQ eG qT bZ bD bI aI nJ dQ jC eO eW dO fJ fY jD nG aAO jJ)) hP hD 8 rfl rfl rfl
    have hP := hPD.1
    have hD := hPD.2
    refine lv_aload_n hx hb eX9_route_0.2.2.2.2.2.2.2.2.2.2.1 rfl (lv_at hl 0 rfl) ?_
    refine va_get (D := (dC, dI)) (ci := 9) (v := .ref wY) (C := RX9) (T := TX9) (N := 9) hx hb hts i_X9 hown hK hP 0 rfl rfl 2 (Nat.le_of_ble_eq_true rfl) (hts _ q_146) (fun _ h9 => h9) rfl eX9_route_0.2.2.2.2.2.2.2.2.2.2.2.1 ?_
    refine lv_iload_n hx hb eX9_route_0.2.2.2.2.2.2.2.2.2.2.2.2.1 rfl (lv_at hl 1 rfl) ?_
    have hm := mgk (wc := (wd_X0_withoutLadder cI cC cZ cB cJ wY wJ wQ xH jC eO eW dO fJ fY jD nG)) hP mk_134 8 rfl rfl rfl
    refine g_calli hP hD hS hA (mixT mk_134) (mixF mk_134) hm.1 hm.2 (nd_F _) (dis_g _) (g_runV (As := [.int p0]) (rest := []) C0 hP hD hS (mixT mk_134) hm.1 (nd_T _) 1 0 rfl rfl (c_X0_withoutLadder l dC dI cI cC cZ cB cJ wY wJ wQ xH H.size p0 jC eO eW dO fJ fY jD nG _ hp) q_493 q_496 q_494 q_495 q_187 h_X0_withoutLadder rfl rfl ⟨Nat.le_of_ble_eq_true rfl, Nat.le_of_ble_eq_true rfl⟩ rfl rfl hl.1 rfl (lv_room (Nat.le_of_ble_eq_true rfl)) eX9_route_0.2.2.2.2.2.2.2.2.2.2.2.2.2.1 ⟨Nat.zero_le _, Nat.zero_le _⟩) (fun r_3 u H locs hp hP hD hS => ?_)
    have hPD := PDm (ws' := (wd_X9_route cI cC cZ cB cJ a_x xG xD wY wJ wQ xI xK xJ tW xH tX jE mX pD oO oQ eG qT bZ bD bI aI nJ dQ jC eO eW dO fJ fY jD nG aAO jJ)) hP hD 8 rfl rfl rfl
    have hP := hPD.1
    have hD := hPD.2
    refine lv_istore_n (lv' := [(2, .int r_3), (0, .ref a_x), (1, .int p0)]) hx hb eX9_route_0.2.2.2.2.2.2.2.2.2.2.2.2.2.2.1 rfl hl (by decide) rfl (fun ls hl => ?_)
    refine lv_aload_n hx hb eX9_route_0.2.2.2.2.2.2.2.2.2.2.2.2.2.2.2 rfl (lv_at hl 1 rfl) ?_
    refine va_get (D := (dC, dI)) (ci := 9) (v := .ref wQ) (C := RX9) (T := TX9) (N := 9) hx hb hts i_X9 hown hK hP 0 rfl rfl 4 (Nat.le_of_ble_eq_true rfl) (hts _ q_179) (fun _ h9 => h9) rfl eX9_route_30.1 ?_
    refine va_get (D := (dC, dI)) (ci := 2) (v := .int fJ) (C := RX2) (T := TX2) (N := 8) hx hb hts i_X2 hown hK hP 5 rfl rfl 4 (Nat.le_of_ble_eq_true rfl) (hts _ q_497) (fun _ h9 => h9) rfl eX9_route_30.2.1 ?_
    refine lv_istore_n (lv' := [(3, .int fJ), (2, .int r_3), (0, .ref a_x), (1, .int p0)]) hx hb eX9_route_30.2.2.1 rfl hl (by decide) rfl (fun ls hl => ?_)
    refine lv_aload_n hx hb eX9_route_30.2.2.2.1 rfl (lv_at hl 2 rfl) ?_
    refine va_get (D := (dC, dI)) (ci := 9) (v := .ref wJ) (C := RX9) (T := TX9) (N := 9) hx hb hts i_X9 hown hK hP 0 rfl rfl 3 (Nat.le_of_ble_eq_true rfl) (hts _ q_74) (fun _ h9 => h9) rfl eX9_route_30.2.2.2.2.1 ?_
    refine lv_iload_n hx hb eX9_route_30.2.2.2.2.2.1 rfl (lv_at hl 0 rfl) ?_
    refine lv_iload_n hx hb eX9_route_30.2.2.2.2.2.2.1 rfl (lv_at hl 1 rfl) ?_
    have hm := mgk (wc := (wd_X3_waySeconds cI cC cZ cB cJ wJ tX jE mX pD oO oQ eG bZ bD bI aI nJ dQ)) hP mk_35 8 rfl rfl rfl
    refine g_calli hP hD hS hA (mixT mk_35) (mixF mk_35) hm.1 hm.2 (nd_F _) (dis_g _) (g_runV (As := [.int fJ, .int r_3]) (rest := []) C0 hP hD hS (mixT mk_35) hm.1 (nd_T _) 2 3 rfl rfl (c_X3_waySeconds l dC dI cI cC cZ cB cJ wJ tX jE mX pD oO oQ eG H.size fJ r_3 bZ bD bI aI nJ dQ _ hp) q_489 q_498 q_490 q_491 q_48 h_X3_waySeconds rfl rfl ⟨Nat.le_of_ble_eq_true rfl, Nat.le_of_ble_eq_true rfl⟩ rfl rfl hl.1 rfl (lv_room (Nat.le_of_ble_eq_true rfl)) eX9_route_30.2.2.2.2.2.2.2.1 ⟨Nat.zero_le _, Nat.zero_le _⟩) (fun r_4 u H locs hp hP hD hS => ?_)
    have hPD := PDm (ws' := (wd_X9_route cI cC cZ cB cJ a_x xG xD wY wJ wQ xI xK xJ tW xH tX jE mX pD oO oQ eG qT bZ bD bI aI nJ dQ jC eO eW dO fJ fY jD nG aAO jJ)) hP hD 8 rfl rfl rfl
    have hP := hPD.1
    have hD := hPD.2
    refine lv_istore (lv' := [(4, .int r_4), (3, .int fJ), (2, .int r_3), (0, .ref a_x), (1, .int p0)]) hx hb eX9_route_30.2.2.2.2.2.2.2.2.1 hl (by decide) rfl (fun ls hl => ?_)
    refine lv_iload hx hb eX9_route_30.2.2.2.2.2.2.2.2.2.1 (lv_at hl 0 rfl) ?_
    refine lv_istore (lv' := [(5, .int r_4), (4, .int r_4), (3, .int fJ), (2, .int r_3), (0, .ref a_x), (1, .int p0)]) hx hb eX9_route_30.2.2.2.2.2.2.2.2.2.2.1 hl (by decide) rfl (fun ls hl => ?_)
    refine lv_iconst (v := 0) hx hb eX9_route_30.2.2.2.2.2.2.2.2.2.2.2.1 ic_0 ?_
    refine lv_istore (lv' := [(6, .int 0), (5, .int r_4), (4, .int r_4), (3, .int fJ), (2, .int r_3), (0, .ref a_x), (1, .int p0)]) hx hb eX9_route_30.2.2.2.2.2.2.2.2.2.2.2.2.1 hl (by decide) rfl (fun ls hl => ?_)
    obtain ⟨n9, hp⟩ := hp
    exact kb_X9_route_55 C0 n9 r_3 fJ r_4 r_4 0 aAO jJ H locs ls hp hP hD hS (lv_sub hl [5, 4, 3, 2, 1, 0] rfl)
  · have hp := hp.2 hc
    refine lv_iconst (v := (-1)) hx hb eX9_route_0.2.2.2.2.2.1 ic_m1 ?_
    exact W.iret (v := (-1)) hx hb hr (fun t ht hW => ⟨⟨(-1), (qF, jJ), rfl, hp, by rw [ht]; exact hP, va_K.moved hW.alike hK, hD⟩, hS.F ht⟩) hS.2.2 eX9_route_0.2.2.2.2.2.2.1
noncomputable abbrev wd_X5_timeAll (cI cC cZ cB cJ : ClassId) (xD wY wJ uE qU uJ uL uI wQ xH tX jE mX pD oO oQ eG uS sW uR qY sY : Nat) (oX rJ pN rP : Int32) (rX rO : Nat → Int32) (bZ bD bI aI : Int32) (wD gF pE nJ nY : Nat → Int32) (jC eO eW dO fJ fY jD nG pG qB sH uP pQ mW : Int32) (qO qQ oF : Nat → Int32) : va_W := [(xD, .inr (5, [.ref wY, .ref wJ, .ref uE, .ref qU, .ref uJ, .ref uL, .ref uI, .int oX, .int rJ, .int pN, .int rP])), (uE, .inl (cI, 8, .inl rX)), (qU, .inl (cI, 128, .inl rO)), (wY, .inr (0, [.ref wJ, .ref wQ, .ref xH])), (wJ, .inr (3, [.ref tX, .ref jE, .ref mX, .ref pD, .ref oO, .ref oQ, .ref eG, .int bZ, .int bD, .int bI, .int aI])), (tX, .inl (cI, 16, .inl wD)), (jE, .inl (cI, 16, .inl gF)), (mX, .inl (cI, 16, .inl pE)), (oO, .inl (cI, 8, .inl nJ)), (oQ, .inl (cI, 8, .inl nY)), (wQ, .inr (2, [.int jC, .int eO, .int eW, .int dO, .int fJ, .int fY, .int jD, .int nG])), (xH, .inr (7, [.ref uS, .ref sW, .ref uR, .ref qY, .ref sY, .int pG, .int qB, .int sH, .int uP, .int pQ, .int mW])), (uS, .inl (cI, 7, .inl qO)), (uR, .inl (cI, 40, .inl qQ)), (qY, .inl (cI, 40, .inl oF))]
noncomputable abbrev q_X5_timeAll (dC : Nat → ClassId) (dI : Nat → Nat → Nat) (cI cC cZ cB cJ : ClassId) (A : Nat → Prop) (xD wY wJ uE qU uJ uL uI wQ xH tX jE mX pD oO oQ eG uS sW uR qY sY : Nat) (oX rJ pN rP : Int32) (rX : Nat → Int32) (bZ bD bI aI : Int32) (wD gF pE nJ nY : Nat → Int32) (jC eO eW dO fJ fY jD nG pG qB sH uP pQ mW : Int32) (oF : Nat → Int32) (post : (Nat → Int32) → (Nat → Int32) → (Nat → Int32) → Prop) : Array Value → State → Outcome → State → Prop := va_Qv (fun (u : (Nat → Int32) × (Nat → Int32) × (Nat → Int32)) => post u.1 u.2.1 u.2.2) (fun u t => gB (dC, dI) (tyl cI cC cZ cB cJ) A (wd_X5_timeAll cI cC cZ cB cJ xD wY wJ uE qU uJ uL uI wQ xH tX jE mX pD oO oQ eG uS sW uR qY sY oX rJ pN rP rX u.1 bZ bD bI aI wD gF pE nJ nY jC eO eW dO fJ fY jD nG pG qB sH uP pQ mW u.2.1 u.2.2 oF) t) A
noncomputable abbrev rm_X5_timeAll : Room := { frames := 3, cells := 0, slots := 0, locals := 73 }
section S_X5_timeAll
variable {p : Program} {l : Launch} {e : Env} {s : State} {m : MethodId} {args : Array Value} {below : List Frame} {meth : Method} {c : Code} {dC : Nat → ClassId} {dI : Nat → Nat → Nat} {cI cC cZ cB cJ : ClassId} {A : Nat → Prop} {xD wY wJ uE qU uJ uL uI wQ xH tX jE mX pD oO oQ eG uS sW uR qY sY : Nat} {oX rJ pN rP : Int32} {rX : Nat → Int32} {bZ bD bI aI : Int32} {wD gF pE nJ nY : Nat → Int32} {jC eO eW dO fJ fY jD nG pG qB sH uP pQ mW : Int32} {oF : Nat → Int32} {post : (Nat → Int32) → (Nat → Int32) → (Nat → Int32) → Prop}
noncomputable def ws_X5_timeAll_60 (post : (Nat → Int32) → (Nat → Int32) → (Nat → Int32) → Prop) (K2 : Int32 → (Nat → Int32) → (Nat → Int32) → (Nat → Int32) → Prop) (K15 : Int32 → Int32 → (Nat → Int32) → (Nat → Int32) → (Nat → Int32) → Prop) (oX : Int32) (rX : Nat → Int32) (bZ bD : Int32) (wD gF pE nJ nY : Nat → Int32) (dO pG : Int32) (oF : Nat → Int32) (x1 x2 : Int32) (rO qO qQ : Nat → Int32) : Prop := ∀ v_4 : Int32, v_4 = x2 + 1 → K15 x1 v_4 rO qO qQ
set_option maxHeartbeats 4000000 in
set_option maxRecDepth 100000 in
theorem ks_X5_timeAll_60 (C0 : gc cX5_timeAll none 3 RX5 (dC, dI) (tyl cI cC cZ cB cJ) A p s m args meth c) {K2 : Int32 → (Nat → Int32) → (Nat → Int32) → (Nat → Int32) → Prop} {K15 : Int32 → Int32 → (Nat → Int32) → (Nat → Int32) → (Nat → Int32) → Prop} (hK2 : ∀ (x1 : Int32) (rO : Nat → Int32) (qO : Nat → Int32) (qQ : Nat → Int32) (H : Heap) (locs : List Loc) (ls : Array Slot), K2 x1 rO qO qQ → va_P (dC, dI) classes (wd_X5_timeAll cI cC cZ cB cJ xD wY wJ uE qU uJ uL uI wQ xH tX jE mX pD oO oQ eG uS sW uR qY sY oX rJ pN rP rX rO bZ bD bI aI wD gF pE nJ nY jC eO eW dO fJ fY jD nG pG qB sH uP pQ mW qO qQ oF) H → va_D A (wd_X5_timeAll cI cC cZ cB cJ xD wY wJ uE qU uJ uL uI wQ xH tX jE mX pD oO oQ eG uS sW uR qY sY oX rJ pN rP rX rO bZ bD bI aI wD gF pE nJ nY jC eO eW dO fJ fY jD nG pG qB sH uP pQ mW qO qQ oF) → va_S A s.heap H locs → lv_has ls 3 [(0, .ref xD), (1, .int x1)] → W p l e rm_X5_timeAll s m args below meth c H locs 0 0 (MQ below (q_X5_timeAll dC dI cI cC cZ cB cJ A xD wY wJ uE qU uJ uL uI wQ xH tX jE mX pD oO oQ eG uS sW uR qY sY oX rJ pN rP rX bZ bD bI aI wD gF pE nJ nY jC eO eW dO fJ fY jD nG pG qB sH uP pQ mW oF post) args s 0 0 A) (F0 m 2 ls [])) (hK15 : ∀ (x1 : Int32) (x2 : Int32) (rO : Nat → Int32) (qO : Nat → Int32) (qQ : Nat → Int32) (H : Heap) (locs : List Loc) (ls : Array Slot), K15 x1 x2 rO qO qQ → va_P (dC, dI) classes (wd_X5_timeAll cI cC cZ cB cJ xD wY wJ uE qU uJ uL uI wQ xH tX jE mX pD oO oQ eG uS sW uR qY sY oX rJ pN rP rX rO bZ bD bI aI wD gF pE nJ nY jC eO eW dO fJ fY jD nG pG qB sH uP pQ mW qO qQ oF) H → va_D A (wd_X5_timeAll cI cC cZ cB cJ xD wY wJ uE qU uJ uL uI wQ xH tX jE mX pD oO oQ eG uS sW uR qY sY oX rJ pN rP rX rO bZ bD bI aI wD gF pE nJ nY jC eO eW dO fJ fY jD nG pG qB sH uP pQ mW qO qQ oF) → va_S A s.heap H locs → lv_has ls 3 [(0, .ref xD), (1, .int x1), (2, .int x2)] → W p l e rm_X5_timeAll s m args below meth c H locs 0 0 (MQ below (q_X5_timeAll dC dI cI cC cZ cB cJ A xD wY wJ uE qU uJ uL uI wQ xH tX jE mX pD oO oQ eG uS sW uR qY sY oX rJ pN rP rX bZ bD bI aI wD gF pE nJ nY jC eO eW dO fJ fY jD nG pG qB sH uP pQ mW oF post) args s 0 0 A) (F0 m 15 ls [])) : ∀ (x1 x2 : Int32) (rO qO qQ : Nat → Int32) (H : Heap) (locs : List Loc) (ls : Array Slot), (ws_X5_timeAll_60 post K2 K15 oX rX bZ bD wD gF pE nJ nY dO pG oF) x1 x2 rO qO qQ → va_P (dC, dI) classes (wd_X5_timeAll cI cC cZ cB cJ xD wY wJ uE qU uJ uL uI wQ xH tX jE mX pD oO oQ eG uS sW uR qY sY oX rJ pN rP rX rO bZ bD bI aI wD gF pE nJ nY jC eO eW dO fJ fY jD nG pG qB sH uP pQ mW qO qQ oF) H → va_D A (wd_X5_timeAll cI cC cZ cB cJ xD wY wJ uE qU uJ uL uI wQ xH tX jE mX pD oO oQ eG uS sW uR qY sY oX rJ pN rP rX rO bZ bD bI aI wD gF pE nJ nY jC eO eW dO fJ fY jD nG pG qB sH uP pQ mW qO qQ oF) → va_S A s.heap H locs → lv_has ls 3 [(0, .ref xD), (1, .int x1), (2, .int x2)] → W p l e rm_X5_timeAll s m args below meth c H locs 0 0 (MQ below (q_X5_timeAll dC dI cI cC cZ cB cJ A xD wY wJ uE qU uJ uL uI wQ xH tX jE mX pD oO oQ eG uS sW uR qY sY oX rJ pN rP rX bZ bD bI aI wD gF pE nJ nY jC eO eW dO fJ fY jD nG pG qB sH uP pQ mW oF post) args s 0 0 A) (F0 m 60 ls []) := by
  obtain ⟨hx, hb, hr, hml, hown, hts, hlocks, hA, hK, hN, tL, tM, hZL, hTL, hZM, hTM, hZX⟩ := id C0
  intro x1 x2 rO qO qQ H locs ls hp hP hD hS hl
  unfold ws_X5_timeAll_60 at hp
  obtain ⟨v_4, ev_4⟩ : ∃ y : Int32, y = x2 + 1 := ⟨_, rfl⟩
  refine lv_iinc (v := v_4) (lv' := [(2, .int v_4), (0, .ref xD), (1, .int x1)]) hx hb eX5_timeAll_53.2.2.2.2.2.1 hl (k := 2) rfl (by rw [ev_4]; rfl) (by decide) rfl (fun ls hl => ?_)
  have hp := hp v_4 ev_4
  refine lv_goto (tgt := 15) hx hb eX5_timeAll_53.2.2.2.2.2.2.1 (by decide) ?_
  exact hK15 x1 v_4 rO qO qQ H locs ls hp hP hD hS (lv_sub hl [1, 2, 0] rfl)
noncomputable def ws_X5_timeAll_15 (post : (Nat → Int32) → (Nat → Int32) → (Nat → Int32) → Prop) (K2 : Int32 → (Nat → Int32) → (Nat → Int32) → (Nat → Int32) → Prop) (next : Int32 → Int32 → (Nat → Int32) → (Nat → Int32) → (Nat → Int32) → Prop) (oX : Int32) (rX : Nat → Int32) (bZ bD : Int32) (wD gF pE nJ nY : Nat → Int32) (dO pG : Int32) (oF : Nat → Int32) (x1 x2 : Int32) (rO qO qQ : Nat → Int32) : Prop := (bD ≤ x2 → ∀ v_1 : Int32, v_1 = x1 + 1 → K2 v_1 rO qO qQ) ∧ (¬ bD ≤ x2 → wp_X5_wantedFrom (fun r_2 => ∀ v_3 : Int32, v_3 = r_2 >>> (x1 &&& 31) → ((v_3 &&& 1) = 0 → ws_X5_timeAll_60 post K2 next oX rX bZ bD wD gF pE nJ nY dO pG oF x1 x2 rO qO qQ) ∧ (¬ (v_3 &&& 1) = 0 → ∀ v_5 : Int32, v_5 = x1 * 8 → ∀ v_6 : Int32, v_6 = v_5 + x2 → wp_X0_pickSeconds (fun r_7 aCs aBI => vp_in v_6 128 ∧ (ws_X5_timeAll_60 post K2 next oX rX bZ bD wD gF pE nJ nY dO pG oF x1 x2 (upd rO v_6.toNatClampNeg r_7) aCs aBI)) x1 x2 0 0 bZ wD gF pE nJ nY dO pG qO qQ oF)) x2 oX rX)
noncomputable def wb_X5_timeAll_15 (post : (Nat → Int32) → (Nat → Int32) → (Nat → Int32) → Prop) (K2 : Int32 → (Nat → Int32) → (Nat → Int32) → (Nat → Int32) → Prop) (oX : Int32) (rX : Nat → Int32) (bZ bD : Int32) (wD gF pE nJ nY : Nat → Int32) (dO pG : Int32) (oF : Nat → Int32) : Nat → Int32 → Int32 → (Nat → Int32) → (Nat → Int32) → (Nat → Int32) → Prop := fun n => Nat.rec (motive := fun _ => Int32 → Int32 → (Nat → Int32) → (Nat → Int32) → (Nat → Int32) → Prop) (fun _ _ _ _ _ => False) (fun _ ih => ws_X5_timeAll_15 post K2 ih oX rX bZ bD wD gF pE nJ nY dO pG oF) n
set_option maxHeartbeats 4000000 in
set_option maxRecDepth 100000 in
theorem ks_X5_timeAll_15 (C0 : gc cX5_timeAll none 3 RX5 (dC, dI) (tyl cI cC cZ cB cJ) A p s m args meth c) {K2 : Int32 → (Nat → Int32) → (Nat → Int32) → (Nat → Int32) → Prop} {next : Int32 → Int32 → (Nat → Int32) → (Nat → Int32) → (Nat → Int32) → Prop} (hK2 : ∀ (x1 : Int32) (rO : Nat → Int32) (qO : Nat → Int32) (qQ : Nat → Int32) (H : Heap) (locs : List Loc) (ls : Array Slot), K2 x1 rO qO qQ → va_P (dC, dI) classes (wd_X5_timeAll cI cC cZ cB cJ xD wY wJ uE qU uJ uL uI wQ xH tX jE mX pD oO oQ eG uS sW uR qY sY oX rJ pN rP rX rO bZ bD bI aI wD gF pE nJ nY jC eO eW dO fJ fY jD nG pG qB sH uP pQ mW qO qQ oF) H → va_D A (wd_X5_timeAll cI cC cZ cB cJ xD wY wJ uE qU uJ uL uI wQ xH tX jE mX pD oO oQ eG uS sW uR qY sY oX rJ pN rP rX rO bZ bD bI aI wD gF pE nJ nY jC eO eW dO fJ fY jD nG pG qB sH uP pQ mW qO qQ oF) → va_S A s.heap H locs → lv_has ls 3 [(0, .ref xD), (1, .int x1)] → W p l e rm_X5_timeAll s m args below meth c H locs 0 0 (MQ below (q_X5_timeAll dC dI cI cC cZ cB cJ A xD wY wJ uE qU uJ uL uI wQ xH tX jE mX pD oO oQ eG uS sW uR qY sY oX rJ pN rP rX bZ bD bI aI wD gF pE nJ nY jC eO eW dO fJ fY jD nG pG qB sH uP pQ mW oF post) args s 0 0 A) (F0 m 2 ls [])) (hKn : ∀ (x1 : Int32) (x2 : Int32) (rO : Nat → Int32) (qO : Nat → Int32) (qQ : Nat → Int32) (H : Heap) (locs : List Loc) (ls : Array Slot), next x1 x2 rO qO qQ → va_P (dC, dI) classes (wd_X5_timeAll cI cC cZ cB cJ xD wY wJ uE qU uJ uL uI wQ xH tX jE mX pD oO oQ eG uS sW uR qY sY oX rJ pN rP rX rO bZ bD bI aI wD gF pE nJ nY jC eO eW dO fJ fY jD nG pG qB sH uP pQ mW qO qQ oF) H → va_D A (wd_X5_timeAll cI cC cZ cB cJ xD wY wJ uE qU uJ uL uI wQ xH tX jE mX pD oO oQ eG uS sW uR qY sY oX rJ pN rP rX rO bZ bD bI aI wD gF pE nJ nY jC eO eW dO fJ fY jD nG pG qB sH uP pQ mW qO qQ oF) → va_S A s.heap H locs → lv_has ls 3 [(0, .ref xD), (1, .int x1), (2, .int x2)] → W p l e rm_X5_timeAll s m args below meth c H locs 0 0 (MQ below (q_X5_timeAll dC dI cI cC cZ cB cJ A xD wY wJ uE qU uJ uL uI wQ xH tX jE mX pD oO oQ eG uS sW uR qY sY oX rJ pN rP rX bZ bD bI aI wD gF pE nJ nY jC eO eW dO fJ fY jD nG pG qB sH uP pQ mW oF post) args s 0 0 A) (F0 m 15 ls [])) : ∀ (x1 x2 : Int32) (rO qO qQ : Nat → Int32) (H : Heap) (locs : List Loc) (ls : Array Slot), (ws_X5_timeAll_15 post K2 next oX rX bZ bD wD gF pE nJ nY dO pG oF) x1 x2 rO qO qQ → va_P (dC, dI) classes (wd_X5_timeAll cI cC cZ cB cJ xD wY wJ uE qU uJ uL uI wQ xH tX jE mX pD oO oQ eG uS sW uR qY sY oX rJ pN rP rX rO bZ bD bI aI wD gF pE nJ nY jC eO eW dO fJ fY jD nG pG qB sH uP pQ mW qO qQ oF) H → va_D A (wd_X5_timeAll cI cC cZ cB cJ xD wY wJ uE qU uJ uL uI wQ xH tX jE mX pD oO oQ eG uS sW uR qY sY oX rJ pN rP rX rO bZ bD bI aI wD gF pE nJ nY jC eO eW dO fJ fY jD nG pG qB sH uP pQ mW qO qQ oF) → va_S A s.heap H locs → lv_has ls 3 [(0, .ref xD), (1, .int x1), (2, .int x2)] → W p l e rm_X5_timeAll s m args below meth c H locs 0 0 (MQ below (q_X5_timeAll dC dI cI cC cZ cB cJ A xD wY wJ uE qU uJ uL uI wQ xH tX jE mX pD oO oQ eG uS sW uR qY sY oX rJ pN rP rX bZ bD bI aI wD gF pE nJ nY jC eO eW dO fJ fY jD nG pG qB sH uP pQ mW oF post) args s 0 0 A) (F0 m 15 ls []) := by
  obtain ⟨hx, hb, hr, hml, hown, hts, hlocks, hA, hK, hN, tL, tM, hZL, hTL, hZM, hTM, hZX⟩ := id C0
  intro x1 x2 rO qO qQ H locs ls hp hP hD hS hl
  unfold ws_X5_timeAll_15 at hp
  refine lv_iload_n hx hb eX5_timeAll_0.2.2.2.2.2.2.2.2.2.1 rfl (lv_at hl 2 rfl) ?_
  refine lv_aload_n hx hb eX5_timeAll_0.2.2.2.2.2.2.2.2.2.2.1 rfl (lv_at hl 0 rfl) ?_
  refine va_get (D := (dC, dI)) (ci := 5) (v := .ref wJ) (C := RX5) (T := TX5) (N := 11) hx hb hts i_X5 hown hK hP 0 rfl rfl 1 (Nat.le_of_ble_eq_true rfl) (hts _ q_419) (fun _ h9 => h9) rfl eX5_timeAll_0.2.2.2.2.2.2.2.2.2.2.2.1 ?_
  refine va_get (D := (dC, dI)) (ci := 3) (v := .int bD) (C := RX3) (T := TX3) (N := 11) hx hb hts i_X3 hown hK hP 4 rfl rfl 8 (Nat.le_of_ble_eq_true rfl) (hts _ q_420) (fun _ h9 => h9) rfl eX5_timeAll_0.2.2.2.2.2.2.2.2.2.2.2.2.1 ?_
  refine lv_icmp_ge (tgt := 66) hx hb eX5_timeAll_0.2.2.2.2.2.2.2.2.2.2.2.2.2.1 (by decide) (fun hc => ?_) (fun hc => ?_)
  · have hp := hp.1 hc
    obtain ⟨v_1, ev_1⟩ : ∃ y : Int32, y = x1 + 1 := ⟨_, rfl⟩
    refine lv_iinc (v := v_1) (lv' := [(1, .int v_1), (0, .ref xD), (2, .int x2)]) hx hb eX5_timeAll_53.2.2.2.2.2.2.2.1 hl (k := 1) rfl (by rw [ev_1]; rfl) (by decide) rfl (fun ls hl => ?_)
    have hp := hp v_1 ev_1
    refine lv_goto (tgt := 2) hx hb eX5_timeAll_53.2.2.2.2.2.2.2.2.1 (by decide) ?_
    exact hK2 v_1 rO qO qQ H locs ls hp hP hD hS (lv_sub hl [1, 0] rfl)
  · have hp := hp.2 hc
    refine lv_aload_n hx hb eX5_timeAll_0.2.2.2.2.2.2.2.2.2.2.2.2.2.2.1 rfl (lv_at hl 0 rfl) ?_
    refine lv_iload_n hx hb eX5_timeAll_0.2.2.2.2.2.2.2.2.2.2.2.2.2.2.2 rfl (lv_at hl 2 rfl) ?_
    have hm := mgk (wc := (wd_X5_wantedFrom cI cC cZ cB cJ xD wY wJ uE qU uJ uL uI oX rJ pN rP rX)) hP mk_135 15 rfl rfl rfl
    refine g_calli hP hD hS hA (mixT mk_135) (mixF mk_135) hm.1 hm.2 (nd_F _) (dis_g _) (g_runV (As := [.int x2]) (rest := []) C0 hP hD hS (mixT mk_135) hm.1 (nd_T _) 0 5 rfl rfl (c_X5_wantedFrom l dC dI cI cC cZ cB cJ xD wY wJ uE qU uJ uL uI H.size x2 oX rJ pN rP rX _ hp) q_449 q_505 q_450 q_451 q_431 h_X5_wantedFrom rfl rfl ⟨Nat.le_of_ble_eq_true rfl, Nat.le_of_ble_eq_true rfl⟩ rfl rfl hl.1 rfl (lv_room (Nat.le_of_ble_eq_true rfl)) eX5_timeAll_28.1 ⟨Nat.zero_le _, Nat.zero_le _⟩) (fun r_2 u H locs hp hP hD hS => ?_)
    have hPD := PDm (ws' := (wd_X5_timeAll cI cC cZ cB cJ xD wY wJ uE qU uJ uL uI wQ xH tX jE mX pD oO oQ eG uS sW uR qY sY oX rJ pN rP rX rO bZ bD bI aI wD gF pE nJ nY jC eO eW dO fJ fY jD nG pG qB sH uP pQ mW qO qQ oF)) hP hD 15 rfl rfl rfl
    have hP := hPD.1
    have hD := hPD.2
    refine lv_iload_n hx hb eX5_timeAll_28.2.1 rfl (lv_at hl 1 rfl) ?_
    refine lv_ishr hx hb eX5_timeAll_28.2.2.1 ?_
    refine lv_topi (fun v_3 ev_3 => ?_)
    have hp := hp v_3 ev_3
    refine lv_iconst (v := 1) hx hb eX5_timeAll_28.2.2.2.1 ic_1 ?_
    refine lv_iand hx hb eX5_timeAll_28.2.2.2.2.1 ?_
    refine lv_if_eq (tgt := 60) hx hb eX5_timeAll_28.2.2.2.2.2.1 (by decide) (fun hc => ?_) (fun hc => ?_)
    · have hp := hp.1 hc
      exact ks_X5_timeAll_60 C0 hK2 hKn x1 x2 rO qO qQ H locs ls hp hP hD hS (lv_sub hl [0, 1, 2] rfl)
    · have hp := hp.2 hc
      refine lv_aload_n hx hb eX5_timeAll_28.2.2.2.2.2.2.1 rfl (lv_at hl 0 rfl) ?_
      refine va_get (D := (dC, dI)) (ci := 5) (v := .ref qU) (C := RX5) (T := TX5) (N := 11) hx hb hts i_X5 hown hK hP 0 rfl rfl 3 (Nat.le_of_ble_eq_true rfl) (hts _ q_506) (fun _ h9 => h9) rfl eX5_timeAll_28.2.2.2.2.2.2.2.1 ?_
      refine lv_iload_n hx hb eX5_timeAll_28.2.2.2.2.2.2.2.2.1 rfl (lv_at hl 1 rfl) ?_
      refine lv_bipush (v := 8) hx hb eX5_timeAll_28.2.2.2.2.2.2.2.2.2.1 bp_8 ?_
      refine lv_imul hx hb eX5_timeAll_28.2.2.2.2.2.2.2.2.2.2.1 ?_
      refine lv_topi (fun v_5 ev_5 => ?_)
      have hp := hp v_5 ev_5
      refine lv_iload_n hx hb eX5_timeAll_28.2.2.2.2.2.2.2.2.2.2.2.1 rfl (lv_at hl 2 rfl) ?_
      refine lv_iadd hx hb eX5_timeAll_28.2.2.2.2.2.2.2.2.2.2.2.2.1 ?_
      refine lv_topi (fun v_6 ev_6 => ?_)
      have hp := hp v_6 ev_6
      refine lv_aload_n hx hb eX5_timeAll_28.2.2.2.2.2.2.2.2.2.2.2.2.2.1 rfl (lv_at hl 0 rfl) ?_
      refine va_get (D := (dC, dI)) (ci := 5) (v := .ref wY) (C := RX5) (T := TX5) (N := 11) hx hb hts i_X5 hown hK hP 0 rfl rfl 0 (Nat.le_of_ble_eq_true rfl) (hts _ q_423) (fun _ h9 => h9) rfl eX5_timeAll_28.2.2.2.2.2.2.2.2.2.2.2.2.2.2.1 ?_
      refine lv_iload_n hx hb eX5_timeAll_28.2.2.2.2.2.2.2.2.2.2.2.2.2.2.2 rfl (lv_at hl 1 rfl) ?_
      refine lv_iload_n hx hb eX5_timeAll_53.1 rfl (lv_at hl 2 rfl) ?_
      refine lv_iconst (v := 0) hx hb eX5_timeAll_53.2.1 ic_0 ?_
      refine lv_iconst (v := 0) hx hb eX5_timeAll_53.2.2.1 ic_0 ?_
      have hm := mgk (wc := (wd_X0_pickSeconds cI cC cZ cB cJ wY wJ wQ xH tX jE mX pD oO oQ eG uS sW uR qY sY bZ bD bI aI wD gF pE nJ nY jC eO eW dO fJ fY jD nG pG qB sH uP pQ mW qO qQ oF)) hP mk_136 15 rfl rfl rfl
      refine g_calli hP hD hS hA (mixT mk_136) (mixF mk_136) hm.1 hm.2 (nd_F _) (dis_g _) (g_runV (As := [.int x1, .int x2, .int 0, .int 0]) (rest := [.int v_6, .ref qU]) C0 hP hD hS (mixT mk_136) hm.1 (nd_T _) 3 0 rfl rfl (c_X0_pickSeconds l dC dI cI cC cZ cB cJ wY wJ wQ xH tX jE mX pD oO oQ eG uS sW uR qY sY H.size x1 x2 0 0 bZ bD bI aI wD gF pE nJ nY jC eO eW dO fJ fY jD nG pG qB sH uP pQ mW qO qQ oF _ hp) q_325 q_507 q_326 q_327 q_187 h_X0_pickSeconds rfl rfl ⟨Nat.le_of_ble_eq_true rfl, Nat.le_of_ble_eq_true rfl⟩ rfl rfl hl.1 rfl (lv_room (Nat.le_of_ble_eq_true rfl)) eX5_timeAll_53.2.2.2.1 ⟨Nat.zero_le _, Nat.zero_le _⟩) (fun r_7 u H locs hp hP hD hS => ?_)
      obtain ⟨aCs, aBI⟩ := u
      have hPD := PDm (ws' := (wd_X5_timeAll cI cC cZ cB cJ xD wY wJ uE qU uJ uL uI wQ xH tX jE mX pD oO oQ eG uS sW uR qY sY oX rJ pN rP rX rO bZ bD bI aI wD gF pE nJ nY jC eO eW dO fJ fY jD nG pG qB sH uP pQ mW aCs aBI oF)) hP hD 15 rfl rfl rfl
      have hP := hPD.1
      have hD := hPD.2
      have hin := hp.1
      have hp := hp.2
      refine va_iast hx hb hK hP hD hS 2 0 rfl rfl hin eX5_timeAll_53.2.2.2.2.1 (fun H locs hP hD hS => ?_)
      have hP : va_P (dC, dI) classes (wd_X5_timeAll cI cC cZ cB cJ xD wY wJ uE qU uJ uL uI wQ xH tX jE mX pD oO oQ eG uS sW uR qY sY oX rJ pN rP rX (upd rO v_6.toNatClampNeg r_7) bZ bD bI aI wD gF pE nJ nY jC eO eW dO fJ fY jD nG pG qB sH uP pQ mW aCs aBI oF) H := hP
      have hD : va_D A (wd_X5_timeAll cI cC cZ cB cJ xD wY wJ uE qU uJ uL uI wQ xH tX jE mX pD oO oQ eG uS sW uR qY sY oX rJ pN rP rX (upd rO v_6.toNatClampNeg r_7) bZ bD bI aI wD gF pE nJ nY jC eO eW dO fJ fY jD nG pG qB sH uP pQ mW aCs aBI oF) := hD
      exact ks_X5_timeAll_60 C0 hK2 hKn x1 x2 (upd rO v_6.toNatClampNeg r_7) aCs aBI H locs ls hp hP hD hS (lv_sub hl [0, 1, 2] rfl)
set_option maxHeartbeats 4000000 in
set_option maxRecDepth 100000 in
theorem kb_X5_timeAll_15 (C0 : gc cX5_timeAll none 3 RX5 (dC, dI) (tyl cI cC cZ cB cJ) A p s m args meth c) {K2 : Int32 → (Nat → Int32) → (Nat → Int32) → (Nat → Int32) → Prop} (hK2 : ∀ (x1 : Int32) (rO : Nat → Int32) (qO : Nat → Int32) (qQ : Nat → Int32) (H : Heap) (locs : List Loc) (ls : Array Slot), K2 x1 rO qO qQ → va_P (dC, dI) classes (wd_X5_timeAll cI cC cZ cB cJ xD wY wJ uE qU uJ uL uI wQ xH tX jE mX pD oO oQ eG uS sW uR qY sY oX rJ pN rP rX rO bZ bD bI aI wD gF pE nJ nY jC eO eW dO fJ fY jD nG pG qB sH uP pQ mW qO qQ oF) H → va_D A (wd_X5_timeAll cI cC cZ cB cJ xD wY wJ uE qU uJ uL uI wQ xH tX jE mX pD oO oQ eG uS sW uR qY sY oX rJ pN rP rX rO bZ bD bI aI wD gF pE nJ nY jC eO eW dO fJ fY jD nG pG qB sH uP pQ mW qO qQ oF) → va_S A s.heap H locs → lv_has ls 3 [(0, .ref xD), (1, .int x1)] → W p l e rm_X5_timeAll s m args below meth c H locs 0 0 (MQ below (q_X5_timeAll dC dI cI cC cZ cB cJ A xD wY wJ uE qU uJ uL uI wQ xH tX jE mX pD oO oQ eG uS sW uR qY sY oX rJ pN rP rX bZ bD bI aI wD gF pE nJ nY jC eO eW dO fJ fY jD nG pG qB sH uP pQ mW oF post) args s 0 0 A) (F0 m 2 ls [])) : ∀ (n : Nat), ∀ (x1 x2 : Int32) (rO qO qQ : Nat → Int32) (H : Heap) (locs : List Loc) (ls : Array Slot), (wb_X5_timeAll_15 post K2 oX rX bZ bD wD gF pE nJ nY dO pG oF n) x1 x2 rO qO qQ → va_P (dC, dI) classes (wd_X5_timeAll cI cC cZ cB cJ xD wY wJ uE qU uJ uL uI wQ xH tX jE mX pD oO oQ eG uS sW uR qY sY oX rJ pN rP rX rO bZ bD bI aI wD gF pE nJ nY jC eO eW dO fJ fY jD nG pG qB sH uP pQ mW qO qQ oF) H → va_D A (wd_X5_timeAll cI cC cZ cB cJ xD wY wJ uE qU uJ uL uI wQ xH tX jE mX pD oO oQ eG uS sW uR qY sY oX rJ pN rP rX rO bZ bD bI aI wD gF pE nJ nY jC eO eW dO fJ fY jD nG pG qB sH uP pQ mW qO qQ oF) → va_S A s.heap H locs → lv_has ls 3 [(0, .ref xD), (1, .int x1), (2, .int x2)] → W p l e rm_X5_timeAll s m args below meth c H locs 0 0 (MQ below (q_X5_timeAll dC dI cI cC cZ cB cJ A xD wY wJ uE qU uJ uL uI wQ xH tX jE mX pD oO oQ eG uS sW uR qY sY oX rJ pN rP rX bZ bD bI aI wD gF pE nJ nY jC eO eW dO fJ fY jD nG pG qB sH uP pQ mW oF post) args s 0 0 A) (F0 m 15 ls []) := by
  intro n
  induction n with
  | zero =>
    intro x1 x2 rO qO qQ H locs ls hp
    exact False.elim hp
  | succ n ih =>
    intro x1 x2 rO qO qQ H locs ls hp
    exact ks_X5_timeAll_15 C0 hK2 ih x1 x2 rO qO qQ H locs ls hp
noncomputable def ws_X5_timeAll_2 (post : (Nat → Int32) → (Nat → Int32) → (Nat → Int32) → Prop) (next : Int32 → (Nat → Int32) → (Nat → Int32) → (Nat → Int32) → Prop) (oX : Int32) (rX : Nat → Int32) (bZ bD : Int32) (wD gF pE nJ nY : Nat → Int32) (dO pG : Int32) (oF : Nat → Int32) (x1 : Int32) (rO qO qQ : Nat → Int32) : Prop := (bZ ≤ x1 → post rO qO qQ) ∧ (¬ bZ ≤ x1 → ∃ n : Nat, wb_X5_timeAll_15 post next oX rX bZ bD wD gF pE nJ nY dO pG oF n x1 0 rO qO qQ)
noncomputable def wb_X5_timeAll_2 (post : (Nat → Int32) → (Nat → Int32) → (Nat → Int32) → Prop) (oX : Int32) (rX : Nat → Int32) (bZ bD : Int32) (wD gF pE nJ nY : Nat → Int32) (dO pG : Int32) (oF : Nat → Int32) : Nat → Int32 → (Nat → Int32) → (Nat → Int32) → (Nat → Int32) → Prop := fun n => Nat.rec (motive := fun _ => Int32 → (Nat → Int32) → (Nat → Int32) → (Nat → Int32) → Prop) (fun _ _ _ _ => False) (fun _ ih => ws_X5_timeAll_2 post ih oX rX bZ bD wD gF pE nJ nY dO pG oF) n
set_option maxHeartbeats 4000000 in
set_option maxRecDepth 100000 in
theorem ks_X5_timeAll_2 (C0 : gc cX5_timeAll none 3 RX5 (dC, dI) (tyl cI cC cZ cB cJ) A p s m args meth c) {next : Int32 → (Nat → Int32) → (Nat → Int32) → (Nat → Int32) → Prop} (hKn : ∀ (x1 : Int32) (rO : Nat → Int32) (qO : Nat → Int32) (qQ : Nat → Int32) (H : Heap) (locs : List Loc) (ls : Array Slot), next x1 rO qO qQ → va_P (dC, dI) classes (wd_X5_timeAll cI cC cZ cB cJ xD wY wJ uE qU uJ uL uI wQ xH tX jE mX pD oO oQ eG uS sW uR qY sY oX rJ pN rP rX rO bZ bD bI aI wD gF pE nJ nY jC eO eW dO fJ fY jD nG pG qB sH uP pQ mW qO qQ oF) H → va_D A (wd_X5_timeAll cI cC cZ cB cJ xD wY wJ uE qU uJ uL uI wQ xH tX jE mX pD oO oQ eG uS sW uR qY sY oX rJ pN rP rX rO bZ bD bI aI wD gF pE nJ nY jC eO eW dO fJ fY jD nG pG qB sH uP pQ mW qO qQ oF) → va_S A s.heap H locs → lv_has ls 3 [(0, .ref xD), (1, .int x1)] → W p l e rm_X5_timeAll s m args below meth c H locs 0 0 (MQ below (q_X5_timeAll dC dI cI cC cZ cB cJ A xD wY wJ uE qU uJ uL uI wQ xH tX jE mX pD oO oQ eG uS sW uR qY sY oX rJ pN rP rX bZ bD bI aI wD gF pE nJ nY jC eO eW dO fJ fY jD nG pG qB sH uP pQ mW oF post) args s 0 0 A) (F0 m 2 ls [])) : ∀ (x1 : Int32) (rO qO qQ : Nat → Int32) (H : Heap) (locs : List Loc) (ls : Array Slot), (ws_X5_timeAll_2 post next oX rX bZ bD wD gF pE nJ nY dO pG oF) x1 rO qO qQ → va_P (dC, dI) classes (wd_X5_timeAll cI cC cZ cB cJ xD wY wJ uE qU uJ uL uI wQ xH tX jE mX pD oO oQ eG uS sW uR qY sY oX rJ pN rP rX rO bZ bD bI aI wD gF pE nJ nY jC eO eW dO fJ fY jD nG pG qB sH uP pQ mW qO qQ oF) H → va_D A (wd_X5_timeAll cI cC cZ cB cJ xD wY wJ uE qU uJ uL uI wQ xH tX jE mX pD oO oQ eG uS sW uR qY sY oX rJ pN rP rX rO bZ bD bI aI wD gF pE nJ nY jC eO eW dO fJ fY jD nG pG qB sH uP pQ mW qO qQ oF) → va_S A s.heap H locs → lv_has ls 3 [(0, .ref xD), (1, .int x1)] → W p l e rm_X5_timeAll s m args below meth c H locs 0 0 (MQ below (q_X5_timeAll dC dI cI cC cZ cB cJ A xD wY wJ uE qU uJ uL uI wQ xH tX jE mX pD oO oQ eG uS sW uR qY sY oX rJ pN rP rX bZ bD bI aI wD gF pE nJ nY jC eO eW dO fJ fY jD nG pG qB sH uP pQ mW oF post) args s 0 0 A) (F0 m 2 ls []) := by
  obtain ⟨hx, hb, hr, hml, hown, hts, hlocks, hA, hK, hN, tL, tM, hZL, hTL, hZM, hTM, hZX⟩ := id C0
  intro x1 rO qO qQ H locs ls hp hP hD hS hl
  unfold ws_X5_timeAll_2 at hp
  refine lv_iload_n hx hb eX5_timeAll_0.2.2.1 rfl (lv_at hl 1 rfl) ?_
  refine lv_aload_n hx hb eX5_timeAll_0.2.2.2.1 rfl (lv_at hl 0 rfl) ?_
  refine va_get (D := (dC, dI)) (ci := 5) (v := .ref wJ) (C := RX5) (T := TX5) (N := 11) hx hb hts i_X5 hown hK hP 0 rfl rfl 1 (Nat.le_of_ble_eq_true rfl) (hts _ q_419) (fun _ h9 => h9) rfl eX5_timeAll_0.2.2.2.2.1 ?_
  refine va_get (D := (dC, dI)) (ci := 3) (v := .int bZ) (C := RX3) (T := TX3) (N := 11) hx hb hts i_X3 hown hK hP 4 rfl rfl 7 (Nat.le_of_ble_eq_true rfl) (hts _ q_504) (fun _ h9 => h9) rfl eX5_timeAll_0.2.2.2.2.2.1 ?_
  refine lv_icmp_ge (tgt := 72) hx hb eX5_timeAll_0.2.2.2.2.2.2.1 (by decide) (fun hc => ?_) (fun hc => ?_)
  · have hp := hp.1 hc
    exact W.vret hx hb hr (fun t ht hW => ⟨⟨(rO, qO, qQ), rfl, hp, by rw [ht]; exact hP, va_K.moved hW.alike hK, hD⟩, hS.F ht⟩) hS.2.2 eX5_timeAll_53.2.2.2.2.2.2.2.2.2
  · have hp := hp.2 hc
    refine lv_iconst (v := 0) hx hb eX5_timeAll_0.2.2.2.2.2.2.2.1 ic_0 ?_
    refine lv_istore_n (lv' := [(2, .int 0), (0, .ref xD), (1, .int x1)]) hx hb eX5_timeAll_0.2.2.2.2.2.2.2.2.1 rfl hl (by decide) rfl (fun ls hl => ?_)
    obtain ⟨n9, hp⟩ := hp
    exact kb_X5_timeAll_15 C0 hKn n9 x1 0 rO qO qQ H locs ls hp hP hD hS (lv_sub hl [1, 2, 0] rfl)
set_option maxHeartbeats 4000000 in
set_option maxRecDepth 100000 in
theorem kb_X5_timeAll_2 (C0 : gc cX5_timeAll none 3 RX5 (dC, dI) (tyl cI cC cZ cB cJ) A p s m args meth c) : ∀ (n : Nat), ∀ (x1 : Int32) (rO qO qQ : Nat → Int32) (H : Heap) (locs : List Loc) (ls : Array Slot), (wb_X5_timeAll_2 post oX rX bZ bD wD gF pE nJ nY dO pG oF n) x1 rO qO qQ → va_P (dC, dI) classes (wd_X5_timeAll cI cC cZ cB cJ xD wY wJ uE qU uJ uL uI wQ xH tX jE mX pD oO oQ eG uS sW uR qY sY oX rJ pN rP rX rO bZ bD bI aI wD gF pE nJ nY jC eO eW dO fJ fY jD nG pG qB sH uP pQ mW qO qQ oF) H → va_D A (wd_X5_timeAll cI cC cZ cB cJ xD wY wJ uE qU uJ uL uI wQ xH tX jE mX pD oO oQ eG uS sW uR qY sY oX rJ pN rP rX rO bZ bD bI aI wD gF pE nJ nY jC eO eW dO fJ fY jD nG pG qB sH uP pQ mW qO qQ oF) → va_S A s.heap H locs → lv_has ls 3 [(0, .ref xD), (1, .int x1)] → W p l e rm_X5_timeAll s m args below meth c H locs 0 0 (MQ below (q_X5_timeAll dC dI cI cC cZ cB cJ A xD wY wJ uE qU uJ uL uI wQ xH tX jE mX pD oO oQ eG uS sW uR qY sY oX rJ pN rP rX bZ bD bI aI wD gF pE nJ nY jC eO eW dO fJ fY jD nG pG qB sH uP pQ mW oF post) args s 0 0 A) (F0 m 2 ls []) := by
  intro n
  induction n with
  | zero =>
    intro x1 rO qO qQ H locs ls hp
    exact False.elim hp
  | succ n ih =>
    intro x1 rO qO qQ H locs ls hp
    exact ks_X5_timeAll_2 C0 ih x1 rO qO qQ H locs ls hp
end S_X5_timeAll
noncomputable def wp_X5_timeAll (post : (Nat → Int32) → (Nat → Int32) → (Nat → Int32) → Prop) (oX : Int32) (rX rO : Nat → Int32) (bZ bD : Int32) (wD gF pE nJ nY : Nat → Int32) (dO pG : Int32) (qO qQ oF : Nat → Int32) : Prop := ∃ n : Nat, wb_X5_timeAll_2 post oX rX bZ bD wD gF pE nJ nY dO pG oF n 0 rO qO qQ
set_option maxHeartbeats 4000000 in
set_option maxRecDepth 100000 in
theorem c_X5_timeAll (l : Launch) (dC : Nat → ClassId) (dI : Nat → Nat → Nat) (cI cC cZ cB cJ : ClassId) (xD wY wJ uE qU uJ uL uI wQ xH tX jE mX pD oO oQ eG uS sW uR qY sY sz : Nat) (oX rJ pN rP : Int32) (rX rO : Nat → Int32) (bZ bD bI aI : Int32) (wD gF pE nJ nY : Nat → Int32) (jC eO eW dO fJ fY jD nG pG qB sH uP pQ mW : Int32) (qO qQ oF : Nat → Int32) (post : (Nat → Int32) → (Nat → Int32) → (Nat → Int32) → Prop) (hw : wp_X5_timeAll post oX rX rO bZ bD wD gF pE nJ nY dO pG qO qQ oF) : Met l yX5_timeAll (gw yX5_timeAll cX5_timeAll 3 none) rm_X5_timeAll (va_Pc [.ref xD] (gPre (dC, dI) (tyl cI cC cZ cB cJ) (wd_X5_timeAll cI cC cZ cB cJ xD wY wJ uE qU uJ uL uI wQ xH tX jE mX pD oO oQ eG uS sW uR qY sY oX rJ pN rP rX rO bZ bD bI aI wD gF pE nJ nY jC eO eW dO fJ fY jD nG pG qB sH uP pQ mW qO qQ oF) sz)) (q_X5_timeAll dC dI cI cC cZ cB cJ (va_A (wd_X5_timeAll cI cC cZ cB cJ xD wY wJ uE qU uJ uL uI wQ xH tX jE mX pD oO oQ eG uS sW uR qY sY oX rJ pN rP rX rO bZ bD bI aI wD gF pE nJ nY jC eO eW dO fJ fY jD nG pG qB sH uP pQ mW qO qQ oF) sz) xD wY wJ uE qU uJ uL uI wQ xH tX jE mX pD oO oQ eG uS sW uR qY sY oX rJ pN rP rX bZ bD bI aI wD gF pE nJ nY jC eO eW dO fJ fY jD nG pG qB sH uP pQ mW oF post) 0 0 (va_A (wd_X5_timeAll cI cC cZ cB cJ xD wY wJ uE qU uJ uL uI wQ xH tX jE mX pD oO oQ eG uS sW uR qY sY oX rJ pN rP rX rO bZ bD bI aI wD gF pE nJ nY jC eO eW dO fJ fY jD nG pG qB sH uP pQ mW qO qQ oF) sz) := by
  refine g_enter (own := RX5) (dC, dI) (tyl cI cC cZ cB cJ) (wd_X5_timeAll cI cC cZ cB cJ xD wY wJ uE qU uJ uL uI wQ xH tX jE mX pD oO oQ eG uS sW uR qY sY oX rJ pN rP rX rO bZ bD bI aI wD gF pE nJ nY jC eO eW dO fJ fY jD nG pG qB sH uP pQ mW qO qQ oF) sz [.ref xD] (fun A => q_X5_timeAll dC dI cI cC cZ cB cJ A xD wY wJ uE qU uJ uL uI wQ xH tX jE mX pD oO oQ eG uS sW uR qY sY oX rJ pN rP rX bZ bD bI aI wD gF pE nJ nY jC eO eW dO fJ fY jD nG pG qB sH uP pQ mW oF post) pn_RX5 rfl (Nat.le_of_ble_eq_true rfl) ?_
  intro p e s m args below meth c A H locs ls C0 hP hD hS hl
  have hl : lv_has ls 3 [(0, .ref xD)] := hl
  obtain ⟨hx, hb, hr, hml, hown, hts, hlocks, hA, hK, hN, tL, tM, hZL, hTL, hZM, hTM, hZX⟩ := id C0
  have hp := hw
  unfold wp_X5_timeAll at hp
  refine lv_iconst (v := 0) hx hb eX5_timeAll_0.1 ic_0 ?_
  refine lv_istore_n (lv' := [(1, .int 0), (0, .ref xD)]) hx hb eX5_timeAll_0.2.1 rfl hl (by decide) rfl (fun ls hl => ?_)
  obtain ⟨n9, hp⟩ := hp
  exact kb_X5_timeAll_2 C0 n9 0 rO qO qQ H locs ls hp hP hD hS (lv_sub hl [1, 0] rfl)
noncomputable abbrev wd_X5_quickest (cI cC cZ cB cJ : ClassId) (xD wY wJ uE qU uJ uL uI tX jE mX pD oO oQ eG : Nat) (oX rJ pN rP : Int32) (rX rO : Nat → Int32) (bZ bD bI aI : Int32) : va_W := [(xD, .inr (5, [.ref wY, .ref wJ, .ref uE, .ref qU, .ref uJ, .ref uL, .ref uI, .int oX, .int rJ, .int pN, .int rP])), (uE, .inl (cI, 8, .inl rX)), (qU, .inl (cI, 128, .inl rO)), (wJ, .inr (3, [.ref tX, .ref jE, .ref mX, .ref pD, .ref oO, .ref oQ, .ref eG, .int bZ, .int bD, .int bI, .int aI]))]
noncomputable abbrev q_X5_quickest (dC : Nat → ClassId) (dI : Nat → Nat → Nat) (cI cC cZ cB cJ : ClassId) (A : Nat → Prop) (xD wY wJ uE qU uJ uL uI tX jE mX pD oO oQ eG : Nat) (oX rJ pN rP : Int32) (rX rO : Nat → Int32) (bZ bD bI aI : Int32) (post : Int32 → Prop) : Array Value → State → Outcome → State → Prop := va_Qi (fun (r : Int32) (u : Unit) => post r) (fun u t => gB (dC, dI) (tyl cI cC cZ cB cJ) A (wd_X5_quickest cI cC cZ cB cJ xD wY wJ uE qU uJ uL uI tX jE mX pD oO oQ eG oX rJ pN rP rX rO bZ bD bI aI) t) A
noncomputable abbrev rm_X5_quickest : Room := { frames := 0, cells := 0, slots := 0, locals := 0 }
section S_X5_quickest
variable {p : Program} {l : Launch} {e : Env} {s : State} {m : MethodId} {args : Array Value} {below : List Frame} {meth : Method} {c : Code} {dC : Nat → ClassId} {dI : Nat → Nat → Nat} {cI cC cZ cB cJ : ClassId} {A : Nat → Prop} {xD wY wJ uE qU uJ uL uI tX jE mX pD oO oQ eG : Nat} {oX rJ pN rP : Int32} {rX rO : Nat → Int32} {bZ bD bI aI : Int32} {post : Int32 → Prop}
noncomputable def ws_X5_quickest_76 (post : Int32 → Prop) (K8 : Int32 → Int32 → Int32 → Int32 → Int32 → Prop) (rX rO : Nat → Int32) (bD x1 x2 x3 x4 x5 : Int32) : Prop := ∀ v_2 : Int32, v_2 = x5 + 1 → K8 x1 x2 x3 x4 v_2
set_option maxHeartbeats 4000000 in
set_option maxRecDepth 100000 in
theorem ks_X5_quickest_76 (C0 : gc cX5_quickest (some .int) 7 RX5 (dC, dI) (tyl cI cC cZ cB cJ) A p s m args meth c) {K8 : Int32 → Int32 → Int32 → Int32 → Int32 → Prop} (hK8 : ∀ (x1 : Int32) (x2 : Int32) (x3 : Int32) (x4 : Int32) (x5 : Int32) (H : Heap) (locs : List Loc) (ls : Array Slot), K8 x1 x2 x3 x4 x5 → va_P (dC, dI) classes (wd_X5_quickest cI cC cZ cB cJ xD wY wJ uE qU uJ uL uI tX jE mX pD oO oQ eG oX rJ pN rP rX rO bZ bD bI aI) H → va_D A (wd_X5_quickest cI cC cZ cB cJ xD wY wJ uE qU uJ uL uI tX jE mX pD oO oQ eG oX rJ pN rP rX rO bZ bD bI aI) → va_S A s.heap H locs → lv_has ls 7 [(0, .ref xD), (1, .int x1), (2, .int x2), (3, .int x3), (4, .int x4), (5, .int x5)] → W p l e rm_X5_quickest s m args below meth c H locs 0 0 (MQ below (q_X5_quickest dC dI cI cC cZ cB cJ A xD wY wJ uE qU uJ uL uI tX jE mX pD oO oQ eG oX rJ pN rP rX rO bZ bD bI aI post) args s 0 0 A) (F0 m 8 ls [])) : ∀ (x1 x2 x3 x4 x5 : Int32) (H : Heap) (locs : List Loc) (ls : Array Slot), (ws_X5_quickest_76 post K8 rX rO bD) x1 x2 x3 x4 x5 → va_P (dC, dI) classes (wd_X5_quickest cI cC cZ cB cJ xD wY wJ uE qU uJ uL uI tX jE mX pD oO oQ eG oX rJ pN rP rX rO bZ bD bI aI) H → va_D A (wd_X5_quickest cI cC cZ cB cJ xD wY wJ uE qU uJ uL uI tX jE mX pD oO oQ eG oX rJ pN rP rX rO bZ bD bI aI) → va_S A s.heap H locs → lv_has ls 7 [(0, .ref xD), (1, .int x1), (2, .int x2), (3, .int x3), (4, .int x4), (5, .int x5)] → W p l e rm_X5_quickest s m args below meth c H locs 0 0 (MQ below (q_X5_quickest dC dI cI cC cZ cB cJ A xD wY wJ uE qU uJ uL uI tX jE mX pD oO oQ eG oX rJ pN rP rX rO bZ bD bI aI post) args s 0 0 A) (F0 m 76 ls []) := by
  obtain ⟨hx, hb, hr, hml, hown, hts, hlocks, hA, hK, hN, tL, tM, hZL, hTL, hZM, hTM, hZX⟩ := id C0
  intro x1 x2 x3 x4 x5 H locs ls hp hP hD hS hl
  unfold ws_X5_quickest_76 at hp
  obtain ⟨v_2, ev_2⟩ : ∃ y : Int32, y = x5 + 1 := ⟨_, rfl⟩
  refine lv_iinc (v := v_2) (lv' := [(5, .int v_2), (0, .ref xD), (1, .int x1), (2, .int x2), (3, .int x3), (4, .int x4)]) hx hb eX5_quickest_53.2.2.2.2.2.2.2.2.2.2.2.2.2.1 hl (k := 5) rfl (by rw [ev_2]; rfl) (by decide) rfl (fun ls hl => ?_)
  have hp := hp v_2 ev_2
  refine lv_goto (tgt := 8) hx hb eX5_quickest_53.2.2.2.2.2.2.2.2.2.2.2.2.2.2.1 (by decide) ?_
  exact hK8 x1 x2 x3 x4 v_2 H locs ls hp hP hD hS (lv_sub hl [1, 2, 3, 4, 5, 0] rfl)
noncomputable def ws_X5_quickest_69 (post : Int32 → Prop) (K8 : Int32 → Int32 → Int32 → Int32 → Int32 → Prop) (rX rO : Nat → Int32) (bD x1 x2 x5 x6 : Int32) : Prop := ws_X5_quickest_76 post K8 rX rO bD x1 x2 x5 x6 x5
set_option maxHeartbeats 4000000 in
set_option maxRecDepth 100000 in
theorem ks_X5_quickest_69 (C0 : gc cX5_quickest (some .int) 7 RX5 (dC, dI) (tyl cI cC cZ cB cJ) A p s m args meth c) {K8 : Int32 → Int32 → Int32 → Int32 → Int32 → Prop} (hK8 : ∀ (x1 : Int32) (x2 : Int32) (x3 : Int32) (x4 : Int32) (x5 : Int32) (H : Heap) (locs : List Loc) (ls : Array Slot), K8 x1 x2 x3 x4 x5 → va_P (dC, dI) classes (wd_X5_quickest cI cC cZ cB cJ xD wY wJ uE qU uJ uL uI tX jE mX pD oO oQ eG oX rJ pN rP rX rO bZ bD bI aI) H → va_D A (wd_X5_quickest cI cC cZ cB cJ xD wY wJ uE qU uJ uL uI tX jE mX pD oO oQ eG oX rJ pN rP rX rO bZ bD bI aI) → va_S A s.heap H locs → lv_has ls 7 [(0, .ref xD), (1, .int x1), (2, .int x2), (3, .int x3), (4, .int x4), (5, .int x5)] → W p l e rm_X5_quickest s m args below meth c H locs 0 0 (MQ below (q_X5_quickest dC dI cI cC cZ cB cJ A xD wY wJ uE qU uJ uL uI tX jE mX pD oO oQ eG oX rJ pN rP rX rO bZ bD bI aI post) args s 0 0 A) (F0 m 8 ls [])) : ∀ (x1 x2 x5 x6 : Int32) (H : Heap) (locs : List Loc) (ls : Array Slot), (ws_X5_quickest_69 post K8 rX rO bD) x1 x2 x5 x6 → va_P (dC, dI) classes (wd_X5_quickest cI cC cZ cB cJ xD wY wJ uE qU uJ uL uI tX jE mX pD oO oQ eG oX rJ pN rP rX rO bZ bD bI aI) H → va_D A (wd_X5_quickest cI cC cZ cB cJ xD wY wJ uE qU uJ uL uI tX jE mX pD oO oQ eG oX rJ pN rP rX rO bZ bD bI aI) → va_S A s.heap H locs → lv_has ls 7 [(0, .ref xD), (1, .int x1), (2, .int x2), (5, .int x5), (6, .int x6)] → W p l e rm_X5_quickest s m args below meth c H locs 0 0 (MQ below (q_X5_quickest dC dI cI cC cZ cB cJ A xD wY wJ uE qU uJ uL uI tX jE mX pD oO oQ eG oX rJ pN rP rX rO bZ bD bI aI post) args s 0 0 A) (F0 m 69 ls []) := by
  obtain ⟨hx, hb, hr, hml, hown, hts, hlocks, hA, hK, hN, tL, tM, hZL, hTL, hZM, hTM, hZX⟩ := id C0
  intro x1 x2 x5 x6 H locs ls hp hP hD hS hl
  unfold ws_X5_quickest_69 at hp
  refine lv_iload hx hb eX5_quickest_53.2.2.2.2.2.2.2.2.2.1 (lv_at hl 3 rfl) ?_
  refine lv_istore_n (lv' := [(3, .int x5), (0, .ref xD), (1, .int x1), (2, .int x2), (5, .int x5), (6, .int x6)]) hx hb eX5_quickest_53.2.2.2.2.2.2.2.2.2.2.1 rfl hl (by decide) rfl (fun ls hl => ?_)
  refine lv_iload hx hb eX5_quickest_53.2.2.2.2.2.2.2.2.2.2.2.1 (lv_at hl 5 rfl) ?_
  refine lv_istore (lv' := [(4, .int x6), (3, .int x5), (0, .ref xD), (1, .int x1), (2, .int x2), (5, .int x5), (6, .int x6)]) hx hb eX5_quickest_53.2.2.2.2.2.2.2.2.2.2.2.2.1 hl (by decide) rfl (fun ls hl => ?_)
  exact ks_X5_quickest_76 C0 hK8 x1 x2 x5 x6 x5 H locs ls hp hP hD hS (lv_sub hl [2, 3, 4, 1, 0, 5] rfl)
noncomputable def ws_X5_quickest_8 (post : Int32 → Prop) (next : Int32 → Int32 → Int32 → Int32 → Int32 → Prop) (rX rO : Nat → Int32) (bD x1 x2 x3 x4 x5 : Int32) : Prop := (bD ≤ x5 → post x3) ∧ (¬ bD ≤ x5 → ∀ v_1 : Int32, v_1 = x2 >>> (x5 &&& 31) → ((v_1 &&& 1) = 0 → ws_X5_quickest_76 post next rX rO bD x1 x2 x3 x4 x5) ∧ (¬ (v_1 &&& 1) = 0 → vp_in x5 8 ∧ (∀ v_3 : Int32, v_3 = rX x5.toNatClampNeg → ∀ v_4 : Int32, v_4 = v_3 >>> (x1 &&& 31) → ((v_4 &&& 1) = 0 → ws_X5_quickest_76 post next rX rO bD x1 x2 x3 x4 x5) ∧ (¬ (v_4 &&& 1) = 0 → ∀ v_5 : Int32, v_5 = x1 * 8 → ∀ v_6 : Int32, v_6 = v_5 + x5 → vp_in v_6 128 ∧ (∀ v_7 : Int32, v_7 = rO v_6.toNatClampNeg → (x3 = (-1) → ws_X5_quickest_69 post next rX rO bD x1 x2 x5 v_7) ∧ (¬ x3 = (-1) → (x4 ≤ v_7 → ws_X5_quickest_76 post next rX rO bD x1 x2 x3 x4 x5) ∧ (¬ x4 ≤ v_7 → ws_X5_quickest_69 post next rX rO bD x1 x2 x5 v_7)))))))
noncomputable def wb_X5_quickest_8 (post : Int32 → Prop) (rX rO : Nat → Int32) (bD : Int32) : Nat → Int32 → Int32 → Int32 → Int32 → Int32 → Prop := fun n => Nat.rec (motive := fun _ => Int32 → Int32 → Int32 → Int32 → Int32 → Prop) (fun _ _ _ _ _ => False) (fun _ ih => ws_X5_quickest_8 post ih rX rO bD) n
set_option maxHeartbeats 4000000 in
set_option maxRecDepth 100000 in
theorem ks_X5_quickest_8 (C0 : gc cX5_quickest (some .int) 7 RX5 (dC, dI) (tyl cI cC cZ cB cJ) A p s m args meth c) {next : Int32 → Int32 → Int32 → Int32 → Int32 → Prop} (hKn : ∀ (x1 : Int32) (x2 : Int32) (x3 : Int32) (x4 : Int32) (x5 : Int32) (H : Heap) (locs : List Loc) (ls : Array Slot), next x1 x2 x3 x4 x5 → va_P (dC, dI) classes (wd_X5_quickest cI cC cZ cB cJ xD wY wJ uE qU uJ uL uI tX jE mX pD oO oQ eG oX rJ pN rP rX rO bZ bD bI aI) H → va_D A (wd_X5_quickest cI cC cZ cB cJ xD wY wJ uE qU uJ uL uI tX jE mX pD oO oQ eG oX rJ pN rP rX rO bZ bD bI aI) → va_S A s.heap H locs → lv_has ls 7 [(0, .ref xD), (1, .int x1), (2, .int x2), (3, .int x3), (4, .int x4), (5, .int x5)] → W p l e rm_X5_quickest s m args below meth c H locs 0 0 (MQ below (q_X5_quickest dC dI cI cC cZ cB cJ A xD wY wJ uE qU uJ uL uI tX jE mX pD oO oQ eG oX rJ pN rP rX rO bZ bD bI aI post) args s 0 0 A) (F0 m 8 ls [])) : ∀ (x1 x2 x3 x4 x5 : Int32) (H : Heap) (locs : List Loc) (ls : Array Slot), (ws_X5_quickest_8 post next rX rO bD) x1 x2 x3 x4 x5 → va_P (dC, dI) classes (wd_X5_quickest cI cC cZ cB cJ xD wY wJ uE qU uJ uL uI tX jE mX pD oO oQ eG oX rJ pN rP rX rO bZ bD bI aI) H → va_D A (wd_X5_quickest cI cC cZ cB cJ xD wY wJ uE qU uJ uL uI tX jE mX pD oO oQ eG oX rJ pN rP rX rO bZ bD bI aI) → va_S A s.heap H locs → lv_has ls 7 [(0, .ref xD), (1, .int x1), (2, .int x2), (3, .int x3), (4, .int x4), (5, .int x5)] → W p l e rm_X5_quickest s m args below meth c H locs 0 0 (MQ below (q_X5_quickest dC dI cI cC cZ cB cJ A xD wY wJ uE qU uJ uL uI tX jE mX pD oO oQ eG oX rJ pN rP rX rO bZ bD bI aI post) args s 0 0 A) (F0 m 8 ls []) := by
  obtain ⟨hx, hb, hr, hml, hown, hts, hlocks, hA, hK, hN, tL, tM, hZL, hTL, hZM, hTM, hZX⟩ := id C0
  intro x1 x2 x3 x4 x5 H locs ls hp hP hD hS hl
  unfold ws_X5_quickest_8 at hp
  refine lv_iload hx hb eX5_quickest_0.2.2.2.2.2.2.1 (lv_at hl 5 rfl) ?_
  refine lv_aload_n hx hb eX5_quickest_0.2.2.2.2.2.2.2.1 rfl (lv_at hl 0 rfl) ?_
  refine va_get (D := (dC, dI)) (ci := 5) (v := .ref wJ) (C := RX5) (T := TX5) (N := 11) hx hb hts i_X5 hown hK hP 0 rfl rfl 1 (Nat.le_of_ble_eq_true rfl) (hts _ q_419) (fun _ h9 => h9) rfl eX5_quickest_0.2.2.2.2.2.2.2.2.1 ?_
  refine va_get (D := (dC, dI)) (ci := 3) (v := .int bD) (C := RX3) (T := TX3) (N := 11) hx hb hts i_X3 hown hK hP 3 rfl rfl 8 (Nat.le_of_ble_eq_true rfl) (hts _ q_420) (fun _ h9 => h9) rfl eX5_quickest_0.2.2.2.2.2.2.2.2.2.1 ?_
  refine lv_icmp_ge (tgt := 82) hx hb eX5_quickest_0.2.2.2.2.2.2.2.2.2.2.1 (by decide) (fun hc => ?_) (fun hc => ?_)
  · have hp := hp.1 hc
    refine lv_iload_n hx hb eX5_quickest_53.2.2.2.2.2.2.2.2.2.2.2.2.2.2.2 rfl (lv_at hl 3 rfl) ?_
    exact W.iret (v := x3) hx hb hr (fun t ht hW => ⟨⟨x3, (), rfl, hp, by rw [ht]; exact hP, va_K.moved hW.alike hK, hD⟩, hS.F ht⟩) hS.2.2 dX5_quickest_83
  · have hp := hp.2 hc
    refine lv_iload_n hx hb eX5_quickest_0.2.2.2.2.2.2.2.2.2.2.2.1 rfl (lv_at hl 2 rfl) ?_
    refine lv_iload hx hb eX5_quickest_0.2.2.2.2.2.2.2.2.2.2.2.2.1 (lv_at hl 5 rfl) ?_
    refine lv_ishr hx hb eX5_quickest_0.2.2.2.2.2.2.2.2.2.2.2.2.2.1 ?_
    refine lv_topi (fun v_1 ev_1 => ?_)
    have hp := hp v_1 ev_1
    refine lv_iconst (v := 1) hx hb eX5_quickest_0.2.2.2.2.2.2.2.2.2.2.2.2.2.2.1 ic_1 ?_
    refine lv_iand hx hb eX5_quickest_0.2.2.2.2.2.2.2.2.2.2.2.2.2.2.2 ?_
    refine lv_if_eq (tgt := 76) hx hb eX5_quickest_26.1 (by decide) (fun hc => ?_) (fun hc => ?_)
    · have hp := hp.1 hc
      exact ks_X5_quickest_76 C0 hKn x1 x2 x3 x4 x5 H locs ls hp hP hD hS (lv_sub hl [0, 1, 2, 3, 4, 5] rfl)
    · have hp := hp.2 hc
      refine lv_aload_n hx hb eX5_quickest_26.2.1 rfl (lv_at hl 0 rfl) ?_
      refine va_get (D := (dC, dI)) (ci := 5) (v := .ref uE) (C := RX5) (T := TX5) (N := 11) hx hb hts i_X5 hown hK hP 0 rfl rfl 2 (Nat.le_of_ble_eq_true rfl) (hts _ q_421) (fun _ h9 => h9) rfl eX5_quickest_26.2.2.1 ?_
      refine lv_iload hx hb eX5_quickest_26.2.2.2.1 (lv_at hl 5 rfl) ?_
      have hin := hp.1
      have hp := hp.2
      refine va_iald hx hb hK hP 1 0 rfl rfl hin eX5_quickest_26.2.2.2.2.1 ?_
      refine lv_topi (fun v_3 ev_3 => ?_)
      have hp := hp v_3 ev_3
      refine lv_iload_n hx hb eX5_quickest_26.2.2.2.2.2.1 rfl (lv_at hl 1 rfl) ?_
      refine lv_ishr hx hb eX5_quickest_26.2.2.2.2.2.2.1 ?_
      refine lv_topi (fun v_4 ev_4 => ?_)
      have hp := hp v_4 ev_4
      refine lv_iconst (v := 1) hx hb eX5_quickest_26.2.2.2.2.2.2.2.1 ic_1 ?_
      refine lv_iand hx hb eX5_quickest_26.2.2.2.2.2.2.2.2.1 ?_
      refine lv_if_eq (tgt := 76) hx hb eX5_quickest_26.2.2.2.2.2.2.2.2.2.1 (by decide) (fun hc => ?_) (fun hc => ?_)
      · have hp := hp.1 hc
        exact ks_X5_quickest_76 C0 hKn x1 x2 x3 x4 x5 H locs ls hp hP hD hS (lv_sub hl [0, 1, 2, 3, 4, 5] rfl)
      · have hp := hp.2 hc
        refine lv_aload_n hx hb eX5_quickest_26.2.2.2.2.2.2.2.2.2.2.1 rfl (lv_at hl 0 rfl) ?_
        refine va_get (D := (dC, dI)) (ci := 5) (v := .ref qU) (C := RX5) (T := TX5) (N := 11) hx hb hts i_X5 hown hK hP 0 rfl rfl 3 (Nat.le_of_ble_eq_true rfl) (hts _ q_506) (fun _ h9 => h9) rfl eX5_quickest_26.2.2.2.2.2.2.2.2.2.2.2.1 ?_
        refine lv_iload_n hx hb eX5_quickest_26.2.2.2.2.2.2.2.2.2.2.2.2.1 rfl (lv_at hl 1 rfl) ?_
        refine lv_bipush (v := 8) hx hb eX5_quickest_26.2.2.2.2.2.2.2.2.2.2.2.2.2.1 bp_8 ?_
        refine lv_imul hx hb eX5_quickest_26.2.2.2.2.2.2.2.2.2.2.2.2.2.2.1 ?_
        refine lv_topi (fun v_5 ev_5 => ?_)
        have hp := hp v_5 ev_5
        refine lv_iload hx hb eX5_quickest_26.2.2.2.2.2.2.2.2.2.2.2.2.2.2.2 (lv_at hl 5 rfl) ?_
        refine lv_iadd hx hb eX5_quickest_53.1 ?_
        refine lv_topi (fun v_6 ev_6 => ?_)
        have hp := hp v_6 ev_6
        have hin := hp.1
        have hp := hp.2
        refine va_iald hx hb hK hP 2 0 rfl rfl hin eX5_quickest_53.2.1 ?_
        refine lv_topi (fun v_7 ev_7 => ?_)
        have hp := hp v_7 ev_7
        refine lv_istore (lv' := [(6, .int v_7), (0, .ref xD), (1, .int x1), (2, .int x2), (3, .int x3), (4, .int x4), (5, .int x5)]) hx hb eX5_quickest_53.2.2.1 hl (by decide) rfl (fun ls hl => ?_)
        refine lv_iload_n hx hb eX5_quickest_53.2.2.2.1 rfl (lv_at hl 4 rfl) ?_
        refine lv_iconst (v := (-1)) hx hb eX5_quickest_53.2.2.2.2.1 ic_m1 ?_
        refine lv_icmp_eq (tgt := 69) hx hb eX5_quickest_53.2.2.2.2.2.1 (by decide) (fun hc => ?_) (fun hc => ?_)
        · have hp := hp.1 hc
          exact ks_X5_quickest_69 C0 hKn x1 x2 x5 v_7 H locs ls hp hP hD hS (lv_sub hl [1, 2, 3, 6, 0] rfl)
        · have hp := hp.2 hc
          refine lv_iload hx hb eX5_quickest_53.2.2.2.2.2.2.1 (lv_at hl 0 rfl) ?_
          refine lv_iload hx hb eX5_quickest_53.2.2.2.2.2.2.2.1 (lv_at hl 5 rfl) ?_
          refine lv_icmp_ge (tgt := 76) hx hb eX5_quickest_53.2.2.2.2.2.2.2.2.1 (by decide) (fun hc => ?_) (fun hc => ?_)
          · have hp := hp.1 hc
            exact ks_X5_quickest_76 C0 hKn x1 x2 x3 x4 x5 H locs ls hp hP hD hS (lv_sub hl [1, 2, 3, 4, 5, 6] rfl)
          · have hp := hp.2 hc
            exact ks_X5_quickest_69 C0 hKn x1 x2 x5 v_7 H locs ls hp hP hD hS (lv_sub hl [1, 2, 3, 6, 0] rfl)
set_option maxHeartbeats 4000000 in
set_option maxRecDepth 100000 in
theorem kb_X5_quickest_8 (C0 : gc cX5_quickest (some .int) 7 RX5 (dC, dI) (tyl cI cC cZ cB cJ) A p s m args meth c) : ∀ (n : Nat), ∀ (x1 x2 x3 x4 x5 : Int32) (H : Heap) (locs : List Loc) (ls : Array Slot), (wb_X5_quickest_8 post rX rO bD n) x1 x2 x3 x4 x5 → va_P (dC, dI) classes (wd_X5_quickest cI cC cZ cB cJ xD wY wJ uE qU uJ uL uI tX jE mX pD oO oQ eG oX rJ pN rP rX rO bZ bD bI aI) H → va_D A (wd_X5_quickest cI cC cZ cB cJ xD wY wJ uE qU uJ uL uI tX jE mX pD oO oQ eG oX rJ pN rP rX rO bZ bD bI aI) → va_S A s.heap H locs → lv_has ls 7 [(0, .ref xD), (1, .int x1), (2, .int x2), (3, .int x3), (4, .int x4), (5, .int x5)] → W p l e rm_X5_quickest s m args below meth c H locs 0 0 (MQ below (q_X5_quickest dC dI cI cC cZ cB cJ A xD wY wJ uE qU uJ uL uI tX jE mX pD oO oQ eG oX rJ pN rP rX rO bZ bD bI aI post) args s 0 0 A) (F0 m 8 ls []) := by
  intro n
  induction n with
  | zero =>
    intro x1 x2 x3 x4 x5 H locs ls hp
    exact False.elim hp
  | succ n ih =>
    intro x1 x2 x3 x4 x5 H locs ls hp
    exact ks_X5_quickest_8 C0 ih x1 x2 x3 x4 x5 H locs ls hp
end S_X5_quickest
noncomputable def wp_X5_quickest (post : Int32 → Prop) (p0 p1 : Int32) (rX rO : Nat → Int32) (bD : Int32) : Prop := ∃ n : Nat, wb_X5_quickest_8 post rX rO bD n p0 p1 (-1) 0 0
set_option maxHeartbeats 4000000 in
set_option maxRecDepth 100000 in
theorem c_X5_quickest (l : Launch) (dC : Nat → ClassId) (dI : Nat → Nat → Nat) (cI cC cZ cB cJ : ClassId) (xD wY wJ uE qU uJ uL uI tX jE mX pD oO oQ eG sz : Nat) (p0 p1 oX rJ pN rP : Int32) (rX rO : Nat → Int32) (bZ bD bI aI : Int32) (post : Int32 → Prop) (hw : wp_X5_quickest post p0 p1 rX rO bD) : Met l yX5_quickest (gw yX5_quickest cX5_quickest 7 (some .int)) rm_X5_quickest (va_Pc [.ref xD, .int p0, .int p1] (gPre (dC, dI) (tyl cI cC cZ cB cJ) (wd_X5_quickest cI cC cZ cB cJ xD wY wJ uE qU uJ uL uI tX jE mX pD oO oQ eG oX rJ pN rP rX rO bZ bD bI aI) sz)) (q_X5_quickest dC dI cI cC cZ cB cJ (va_A (wd_X5_quickest cI cC cZ cB cJ xD wY wJ uE qU uJ uL uI tX jE mX pD oO oQ eG oX rJ pN rP rX rO bZ bD bI aI) sz) xD wY wJ uE qU uJ uL uI tX jE mX pD oO oQ eG oX rJ pN rP rX rO bZ bD bI aI post) 0 0 (va_A (wd_X5_quickest cI cC cZ cB cJ xD wY wJ uE qU uJ uL uI tX jE mX pD oO oQ eG oX rJ pN rP rX rO bZ bD bI aI) sz) := by
  refine g_enter (own := RX5) (dC, dI) (tyl cI cC cZ cB cJ) (wd_X5_quickest cI cC cZ cB cJ xD wY wJ uE qU uJ uL uI tX jE mX pD oO oQ eG oX rJ pN rP rX rO bZ bD bI aI) sz [.ref xD, .int p0, .int p1] (fun A => q_X5_quickest dC dI cI cC cZ cB cJ A xD wY wJ uE qU uJ uL uI tX jE mX pD oO oQ eG oX rJ pN rP rX rO bZ bD bI aI post) pn_RX5 rfl (Nat.le_of_ble_eq_true rfl) ?_
  intro p e s m args below meth c A H locs ls C0 hP hD hS hl
  have hl : lv_has ls 7 [(0, .ref xD), (1, .int p0), (2, .int p1)] := hl
  obtain ⟨hx, hb, hr, hml, hown, hts, hlocks, hA, hK, hN, tL, tM, hZL, hTL, hZM, hTM, hZX⟩ := id C0
  have hp := hw
  unfold wp_X5_quickest at hp
  refine lv_iconst (v := (-1)) hx hb eX5_quickest_0.1 ic_m1 ?_
  refine lv_istore_n (lv' := [(3, .int (-1)), (0, .ref xD), (1, .int p0), (2, .int p1)]) hx hb eX5_quickest_0.2.1 rfl hl (by decide) rfl (fun ls hl => ?_)
  refine lv_iconst (v := 0) hx hb eX5_quickest_0.2.2.1 ic_0 ?_
  refine lv_istore (lv' := [(4, .int 0), (3, .int (-1)), (0, .ref xD), (1, .int p0), (2, .int p1)]) hx hb eX5_quickest_0.2.2.2.1 hl (by decide) rfl (fun ls hl => ?_)
  refine lv_iconst (v := 0) hx hb eX5_quickest_0.2.2.2.2.1 ic_0 ?_
  refine lv_istore (lv' := [(5, .int 0), (4, .int 0), (3, .int (-1)), (0, .ref xD), (1, .int p0), (2, .int p1)]) hx hb eX5_quickest_0.2.2.2.2.2.1 hl (by decide) rfl (fun ls hl => ?_)
  obtain ⟨n9, hp⟩ := hp
  exact kb_X5_quickest_8 C0 n9 p0 p1 (-1) 0 0 H locs ls hp hP hD hS (lv_sub hl [3, 4, 5, 2, 1, 0] rfl)
noncomputable abbrev wd_X3_downsSeconds (cI cC cZ cB cJ : ClassId) (wJ tX jE mX pD oO oQ eG : Nat) (bZ bD bI aI : Int32) (nY dQ : Nat → Int32) : va_W := [(wJ, .inr (3, [.ref tX, .ref jE, .ref mX, .ref pD, .ref oO, .ref oQ, .ref eG, .int bZ, .int bD, .int bI, .int aI])), (oQ, .inl (cI, 8, .inl nY)), (eG, .inl (cI, 5, .inl dQ))]
noncomputable abbrev q_X3_downsSeconds (dC : Nat → ClassId) (dI : Nat → Nat → Nat) (cI cC cZ cB cJ : ClassId) (A : Nat → Prop) (wJ tX jE mX pD oO oQ eG : Nat) (bZ bD bI aI : Int32) (nY dQ : Nat → Int32) (post : Int32 → Prop) : Array Value → State → Outcome → State → Prop := va_Qi (fun (r : Int32) (u : Unit) => post r) (fun u t => gB (dC, dI) (tyl cI cC cZ cB cJ) A (wd_X3_downsSeconds cI cC cZ cB cJ wJ tX jE mX pD oO oQ eG bZ bD bI aI nY dQ) t) A
noncomputable abbrev rm_X3_downsSeconds : Room := { frames := 1, cells := 0, slots := 0, locals := 21 }
noncomputable def wp_X3_downsSeconds (post : Int32 → Prop) (p0 p1 : Int32) (nY dQ : Nat → Int32) : Prop := ∀ v_1 : Int32, v_1 = dQ (4 : Int32).toNatClampNeg → ∀ v_2 : Int32, v_2 = (if 1 < v_1 then v_1 else 1) → ∀ v_3 : Int32, v_3 = p1 + v_2 → ∀ v_4 : Int32, v_4 = v_3 - 1 → ¬ v_2 = 0 ∧ (∀ v_5 : Int32, v_5 = v_4 / v_2 → wp_X3_downSeconds (fun r_6 => post (v_5 * r_6)) p0 nY)
set_option maxHeartbeats 4000000 in
set_option maxRecDepth 100000 in
theorem c_X3_downsSeconds (l : Launch) (dC : Nat → ClassId) (dI : Nat → Nat → Nat) (cI cC cZ cB cJ : ClassId) (wJ tX jE mX pD oO oQ eG sz : Nat) (p0 p1 bZ bD bI aI : Int32) (nY dQ : Nat → Int32) (post : Int32 → Prop) (hw : wp_X3_downsSeconds post p0 p1 nY dQ) : Met l yX3_downsSeconds (gw yX3_downsSeconds cX3_downsSeconds 4 (some .int)) rm_X3_downsSeconds (va_Pc [.ref wJ, .int p0, .int p1] (gPre (dC, dI) (tyl cI cC cZ cB cJ) (wd_X3_downsSeconds cI cC cZ cB cJ wJ tX jE mX pD oO oQ eG bZ bD bI aI nY dQ) sz)) (q_X3_downsSeconds dC dI cI cC cZ cB cJ (va_A (wd_X3_downsSeconds cI cC cZ cB cJ wJ tX jE mX pD oO oQ eG bZ bD bI aI nY dQ) sz) wJ tX jE mX pD oO oQ eG bZ bD bI aI nY dQ post) 0 0 (va_A (wd_X3_downsSeconds cI cC cZ cB cJ wJ tX jE mX pD oO oQ eG bZ bD bI aI nY dQ) sz) := by
  refine g_enter (own := RX3) (dC, dI) (tyl cI cC cZ cB cJ) (wd_X3_downsSeconds cI cC cZ cB cJ wJ tX jE mX pD oO oQ eG bZ bD bI aI nY dQ) sz [.ref wJ, .int p0, .int p1] (fun A => q_X3_downsSeconds dC dI cI cC cZ cB cJ A wJ tX jE mX pD oO oQ eG bZ bD bI aI nY dQ post) pn_RX3 rfl (Nat.le_of_ble_eq_true rfl) ?_
  intro p e s m args below meth c A H locs ls C0 hP hD hS hl
  have hl : lv_has ls 4 [(0, .ref wJ), (1, .int p0), (2, .int p1)] := hl
  obtain ⟨hx, hb, hr, hml, hown, hts, hlocks, hA, hK, hN, tL, tM, hZL, hTL, hZM, hTM, hZX⟩ := id C0
  have hp := hw
  unfold wp_X3_downsSeconds at hp
  refine lv_iconst (v := 1) hx hb eX3_downsSeconds_0.1 ic_1 ?_
  refine lv_aload_n hx hb eX3_downsSeconds_0.2.1 rfl (lv_at hl 0 rfl) ?_
  refine va_get (D := (dC, dI)) (ci := 3) (v := .ref eG) (C := RX3) (T := TX3) (N := 11) hx hb hts i_X3 hown hK hP 0 rfl rfl 6 (Nat.le_of_ble_eq_true rfl) (hts _ q_225) (fun _ h9 => h9) rfl eX3_downsSeconds_0.2.2.1 ?_
  refine lv_iconst (v := 4) hx hb eX3_downsSeconds_0.2.2.2.1 ic_4 ?_
  refine va_iald hx hb hK hP 2 0 rfl rfl (g_in rfl) eX3_downsSeconds_0.2.2.2.2.1 ?_
  refine lv_topi (fun v_1 ev_1 => ?_)
  have hp := hp v_1 ev_1
  refine va_mmax hx hb (by rw [hml]; exact hl.1.symm) hown (hts _ q_209) (hts _ q_134) (hts _ q_16) (hts _ q_135) (Nat.le_of_ble_eq_true rfl) (Nat.le_of_ble_eq_true rfl) (Nat.zero_le _) (Nat.zero_le _) eX3_downsSeconds_0.2.2.2.2.2.1 ?_
  refine lv_topi (fun v_2 ev_2 => ?_)
  have hp := hp v_2 ev_2
  refine lv_istore_n (lv' := [(3, .int v_2), (0, .ref wJ), (1, .int p0), (2, .int p1)]) hx hb eX3_downsSeconds_0.2.2.2.2.2.2.1 rfl hl (by decide) rfl (fun ls hl => ?_)
  refine lv_iload_n hx hb eX3_downsSeconds_0.2.2.2.2.2.2.2.1 rfl (lv_at hl 3 rfl) ?_
  refine lv_iload_n hx hb eX3_downsSeconds_0.2.2.2.2.2.2.2.2.1 rfl (lv_at hl 0 rfl) ?_
  refine lv_iadd hx hb eX3_downsSeconds_0.2.2.2.2.2.2.2.2.2.1 ?_
  refine lv_topi (fun v_3 ev_3 => ?_)
  have hp := hp v_3 ev_3
  refine lv_iconst (v := 1) hx hb eX3_downsSeconds_0.2.2.2.2.2.2.2.2.2.2.1 ic_1 ?_
  refine lv_isub hx hb eX3_downsSeconds_0.2.2.2.2.2.2.2.2.2.2.2.1 ?_
  refine lv_topi (fun v_4 ev_4 => ?_)
  have hp := hp v_4 ev_4
  refine lv_iload_n hx hb eX3_downsSeconds_0.2.2.2.2.2.2.2.2.2.2.2.2.1 rfl (lv_at hl 0 rfl) ?_
  have hne := hp.1
  have hp := hp.2
  refine lv_idiv hx hb eX3_downsSeconds_0.2.2.2.2.2.2.2.2.2.2.2.2.2.1 hne ?_
  refine lv_topi (fun v_5 ev_5 => ?_)
  have hp := hp v_5 ev_5
  refine lv_aload_n hx hb eX3_downsSeconds_0.2.2.2.2.2.2.2.2.2.2.2.2.2.2.1 rfl (lv_at hl 1 rfl) ?_
  refine lv_iload_n hx hb eX3_downsSeconds_0.2.2.2.2.2.2.2.2.2.2.2.2.2.2.2 rfl (lv_at hl 2 rfl) ?_
  have hm := mgk (wc := (wd_X3_downSeconds cI cC cZ cB cJ wJ tX jE mX pD oO oQ eG bZ bD bI aI nY)) hP aCj 3 rfl rfl rfl
  refine g_calli hP hD hS hA (mixT aCj) (mixF aCj) hm.1 hm.2 (nd_F _) (dis_g _) (g_runV (As := [.int p0]) (rest := [.int v_5]) C0 hP hD hS (mixT aCj) hm.1 (nd_T _) 0 3 rfl rfl (c_X3_downSeconds l dC dI cI cC cZ cB cJ wJ tX jE mX pD oO oQ eG H.size p0 bZ bD bI aI nY _ hp) q_201 q_508 q_202 q_203 q_48 h_X3_downSeconds rfl rfl ⟨Nat.le_of_ble_eq_true rfl, Nat.le_of_ble_eq_true rfl⟩ rfl rfl hl.1 rfl (lv_room (Nat.le_of_ble_eq_true rfl)) eX3_downsSeconds_20.1 ⟨Nat.zero_le _, Nat.zero_le _⟩) (fun r_6 u H locs hp hP hD hS => ?_)
  have hPD := PDm (ws' := (wd_X3_downsSeconds cI cC cZ cB cJ wJ tX jE mX pD oO oQ eG bZ bD bI aI nY dQ)) hP hD 3 rfl rfl rfl
  have hP := hPD.1
  have hD := hPD.2
  refine lv_imul hx hb eX3_downsSeconds_20.2.1 ?_
  exact W.iret (v := v_5 * r_6) hx hb hr (fun t ht hW => ⟨⟨v_5 * r_6, (), rfl, hp, by rw [ht]; exact hP, va_K.moved hW.alike hK, hD⟩, hS.F ht⟩) hS.2.2 eX3_downsSeconds_20.2.2
noncomputable abbrev wd_X5_workSeconds (cI cC cZ cB cJ : ClassId) (xD wY wJ uE qU uJ uL uI wQ xH tX jE mX pD oO oQ eG : Nat) (oX rJ pN rP : Int32) (rX rO vI : Nat → Int32) (bZ bD bI aI : Int32) (nJ nY dQ : Nat → Int32) (jC eO eW dO fJ fY jD nG : Int32) : va_W := [(xD, .inr (5, [.ref wY, .ref wJ, .ref uE, .ref qU, .ref uJ, .ref uL, .ref uI, .int oX, .int rJ, .int pN, .int rP])), (uE, .inl (cI, 8, .inl rX)), (qU, .inl (cI, 128, .inl rO)), (uJ, .inl (cI, 8, .inl vI)), (wY, .inr (0, [.ref wJ, .ref wQ, .ref xH])), (wJ, .inr (3, [.ref tX, .ref jE, .ref mX, .ref pD, .ref oO, .ref oQ, .ref eG, .int bZ, .int bD, .int bI, .int aI])), (oO, .inl (cI, 8, .inl nJ)), (oQ, .inl (cI, 8, .inl nY)), (eG, .inl (cI, 5, .inl dQ)), (wQ, .inr (2, [.int jC, .int eO, .int eW, .int dO, .int fJ, .int fY, .int jD, .int nG]))]
noncomputable abbrev q_X5_workSeconds (dC : Nat → ClassId) (dI : Nat → Nat → Nat) (cI cC cZ cB cJ : ClassId) (A : Nat → Prop) (xD wY wJ uE qU uJ uL uI wQ xH tX jE mX pD oO oQ eG : Nat) (oX : Int32) (rX rO : Nat → Int32) (bZ bD bI aI : Int32) (nJ nY dQ : Nat → Int32) (jC eO eW dO fJ fY jD nG : Int32) (post : Int32 → Int32 → Int32 → Int32 → (Nat → Int32) → Prop) : Array Value → State → Outcome → State → Prop := va_Qi (fun (r : Int32) (u : Int32 × Int32 × Int32 × (Nat → Int32)) => post r u.1 u.2.1 u.2.2.1 u.2.2.2) (fun u t => gB (dC, dI) (tyl cI cC cZ cB cJ) A (wd_X5_workSeconds cI cC cZ cB cJ xD wY wJ uE qU uJ uL uI wQ xH tX jE mX pD oO oQ eG oX u.1 u.2.1 u.2.2.1 rX rO u.2.2.2 bZ bD bI aI nJ nY dQ jC eO eW dO fJ fY jD nG) t) A
noncomputable abbrev rm_X5_workSeconds : Room := { frames := 2, cells := 0, slots := 0, locals := 47 }
section S_X5_workSeconds
variable {p : Program} {l : Launch} {e : Env} {s : State} {m : MethodId} {args : Array Value} {below : List Frame} {meth : Method} {c : Code} {dC : Nat → ClassId} {dI : Nat → Nat → Nat} {cI cC cZ cB cJ : ClassId} {A : Nat → Prop} {xD wY wJ uE qU uJ uL uI wQ xH tX jE mX pD oO oQ eG : Nat} {oX : Int32} {rX rO : Nat → Int32} {bZ bD bI aI : Int32} {nJ nY dQ : Nat → Int32} {jC eO eW dO fJ fY jD nG : Int32} {post : Int32 → Int32 → Int32 → Int32 → (Nat → Int32) → Prop}
noncomputable def ws_X5_workSeconds_109 (post : Int32 → Int32 → Int32 → Int32 → (Nat → Int32) → Prop) (next : Int32 → Int32 → Int32 → Int32 → Int32 → (Nat → Int32) → Prop) (oX : Int32) (rX rO : Nat → Int32) (bZ bD : Int32) (nJ nY dQ : Nat → Int32) (fJ x1 x2 rJ pN rP : Int32) (vI : Nat → Int32) : Prop := (bD ≤ x2 → wp_X0_withoutLadder (fun r_1 => wp_X3_waySeconds (fun r_2 => ∀ v_3 : Int32, v_3 = r_2 + pN → post (v_3 + rP) r_2 pN rP vI) fJ r_1 bD nJ dQ) x1 fJ) ∧ (¬ bD ≤ x2 → vp_in x2 8 ∧ (∀ v_4 : Int32, v_4 = vI x2.toNatClampNeg → wp_X3_downsSeconds (fun r_5 => ∀ v_6 : Int32, v_6 = rP + r_5 → ∀ v_7 : Int32, v_7 = x2 + 1 → next x1 v_7 rJ pN v_6 vI) x2 v_4 nY dQ))
noncomputable def wb_X5_workSeconds_109 (post : Int32 → Int32 → Int32 → Int32 → (Nat → Int32) → Prop) (oX : Int32) (rX rO : Nat → Int32) (bZ bD : Int32) (nJ nY dQ : Nat → Int32) (fJ : Int32) : Nat → Int32 → Int32 → Int32 → Int32 → Int32 → (Nat → Int32) → Prop := fun n => Nat.rec (motive := fun _ => Int32 → Int32 → Int32 → Int32 → Int32 → (Nat → Int32) → Prop) (fun _ _ _ _ _ _ => False) (fun _ ih => ws_X5_workSeconds_109 post ih oX rX rO bZ bD nJ nY dQ fJ) n
set_option maxHeartbeats 4000000 in
set_option maxRecDepth 100000 in
theorem ks_X5_workSeconds_109 (C0 : gc cX5_workSeconds (some .int) 4 RX5 (dC, dI) (tyl cI cC cZ cB cJ) A p s m args meth c) {next : Int32 → Int32 → Int32 → Int32 → Int32 → (Nat → Int32) → Prop} (hKn : ∀ (x1 : Int32) (x2 : Int32) (rJ : Int32) (pN : Int32) (rP : Int32) (vI : Nat → Int32) (H : Heap) (locs : List Loc) (ls : Array Slot), next x1 x2 rJ pN rP vI → va_P (dC, dI) classes (wd_X5_workSeconds cI cC cZ cB cJ xD wY wJ uE qU uJ uL uI wQ xH tX jE mX pD oO oQ eG oX rJ pN rP rX rO vI bZ bD bI aI nJ nY dQ jC eO eW dO fJ fY jD nG) H → va_D A (wd_X5_workSeconds cI cC cZ cB cJ xD wY wJ uE qU uJ uL uI wQ xH tX jE mX pD oO oQ eG oX rJ pN rP rX rO vI bZ bD bI aI nJ nY dQ jC eO eW dO fJ fY jD nG) → va_S A s.heap H locs → lv_has ls 4 [(0, .ref xD), (1, .int x1), (2, .int x2)] → W p l e rm_X5_workSeconds s m args below meth c H locs 0 0 (MQ below (q_X5_workSeconds dC dI cI cC cZ cB cJ A xD wY wJ uE qU uJ uL uI wQ xH tX jE mX pD oO oQ eG oX rX rO bZ bD bI aI nJ nY dQ jC eO eW dO fJ fY jD nG post) args s 0 0 A) (F0 m 109 ls [])) : ∀ (x1 x2 rJ pN rP : Int32) (vI : Nat → Int32) (H : Heap) (locs : List Loc) (ls : Array Slot), (ws_X5_workSeconds_109 post next oX rX rO bZ bD nJ nY dQ fJ) x1 x2 rJ pN rP vI → va_P (dC, dI) classes (wd_X5_workSeconds cI cC cZ cB cJ xD wY wJ uE qU uJ uL uI wQ xH tX jE mX pD oO oQ eG oX rJ pN rP rX rO vI bZ bD bI aI nJ nY dQ jC eO eW dO fJ fY jD nG) H → va_D A (wd_X5_workSeconds cI cC cZ cB cJ xD wY wJ uE qU uJ uL uI wQ xH tX jE mX pD oO oQ eG oX rJ pN rP rX rO vI bZ bD bI aI nJ nY dQ jC eO eW dO fJ fY jD nG) → va_S A s.heap H locs → lv_has ls 4 [(0, .ref xD), (1, .int x1), (2, .int x2)] → W p l e rm_X5_workSeconds s m args below meth c H locs 0 0 (MQ below (q_X5_workSeconds dC dI cI cC cZ cB cJ A xD wY wJ uE qU uJ uL uI wQ xH tX jE mX pD oO oQ eG oX rX rO bZ bD bI aI nJ nY dQ jC eO eW dO fJ fY jD nG post) args s 0 0 A) (F0 m 109 ls []) := by
  obtain ⟨hx, hb, hr, hml, hown, hts, hlocks, hA, hK, hN, tL, tM, hZL, hTL, hZM, hTM, hZX⟩ := id C0
  intro x1 x2 rJ pN rP vI H locs ls hp hP hD hS hl
  unfold ws_X5_workSeconds_109 at hp
  refine lv_iload_n hx hb eX5_workSeconds_104.2.2.2.1 rfl (lv_at hl 2 rfl) ?_
  refine lv_aload_n hx hb eX5_workSeconds_104.2.2.2.2.1 rfl (lv_at hl 0 rfl) ?_
  refine va_get (D := (dC, dI)) (ci := 5) (v := .ref wJ) (C := RX5) (T := TX5) (N := 11) hx hb hts i_X5 hown hK hP 0 rfl rfl 1 (Nat.le_of_ble_eq_true rfl) (hts _ q_419) (fun _ h9 => h9) rfl eX5_workSeconds_104.2.2.2.2.2.1 ?_
  refine va_get (D := (dC, dI)) (ci := 3) (v := .int bD) (C := RX3) (T := TX3) (N := 11) hx hb hts i_X3 hown hK hP 5 rfl rfl 8 (Nat.le_of_ble_eq_true rfl) (hts _ q_420) (fun _ h9 => h9) rfl eX5_workSeconds_104.2.2.2.2.2.2.1 ?_
  refine lv_icmp_ge (tgt := 149) hx hb eX5_workSeconds_104.2.2.2.2.2.2.2.1 (by decide) (fun hc => ?_) (fun hc => ?_)
  · have hp := hp.1 hc
    refine lv_aload_n hx hb eX5_workSeconds_134.2.2.2.2.2.2.2.1 rfl (lv_at hl 0 rfl) ?_
    refine lv_aload_n hx hb eX5_workSeconds_134.2.2.2.2.2.2.2.2.1 rfl (lv_at hl 0 rfl) ?_
    refine va_get (D := (dC, dI)) (ci := 5) (v := .ref wJ) (C := RX5) (T := TX5) (N := 11) hx hb hts i_X5 hown hK hP 0 rfl rfl 1 (Nat.le_of_ble_eq_true rfl) (hts _ q_419) (fun _ h9 => h9) rfl eX5_workSeconds_134.2.2.2.2.2.2.2.2.2.1 ?_
    refine lv_aload_n hx hb eX5_workSeconds_134.2.2.2.2.2.2.2.2.2.2.1 rfl (lv_at hl 0 rfl) ?_
    refine va_get (D := (dC, dI)) (ci := 5) (v := .ref wY) (C := RX5) (T := TX5) (N := 11) hx hb hts i_X5 hown hK hP 0 rfl rfl 0 (Nat.le_of_ble_eq_true rfl) (hts _ q_423) (fun _ h9 => h9) rfl eX5_workSeconds_134.2.2.2.2.2.2.2.2.2.2.2.1 ?_
    refine va_get (D := (dC, dI)) (ci := 0) (v := .ref wQ) (C := RX0) (T := TX0) (N := 3) hx hb hts i_X0 hown hK hP 4 rfl rfl 1 (Nat.le_of_ble_eq_true rfl) (hts _ q_437) (fun _ h9 => h9) rfl eX5_workSeconds_134.2.2.2.2.2.2.2.2.2.2.2.2.1 ?_
    refine va_get (D := (dC, dI)) (ci := 2) (v := .int fJ) (C := RX2) (T := TX2) (N := 8) hx hb hts i_X2 hown hK hP 9 rfl rfl 4 (Nat.le_of_ble_eq_true rfl) (hts _ q_511) (fun _ h9 => h9) rfl eX5_workSeconds_134.2.2.2.2.2.2.2.2.2.2.2.2.2.1 ?_
    refine lv_aload_n hx hb eX5_workSeconds_134.2.2.2.2.2.2.2.2.2.2.2.2.2.2.1 rfl (lv_at hl 0 rfl) ?_
    refine va_get (D := (dC, dI)) (ci := 5) (v := .ref wY) (C := RX5) (T := TX5) (N := 11) hx hb hts i_X5 hown hK hP 0 rfl rfl 0 (Nat.le_of_ble_eq_true rfl) (hts _ q_423) (fun _ h9 => h9) rfl eX5_workSeconds_134.2.2.2.2.2.2.2.2.2.2.2.2.2.2.2 ?_
    refine lv_iload_n hx hb eX5_workSeconds_168.1 rfl (lv_at hl 1 rfl) ?_
    have hm := mgk (wc := (wd_X0_withoutLadder cI cC cZ cB cJ wY wJ wQ xH jC eO eW dO fJ fY jD nG)) hP mk_138 10 rfl rfl rfl
    refine g_calli hP hD hS hA (mixT mk_138) (mixF mk_138) hm.1 hm.2 (nd_F _) (dis_g _) (g_runV (As := [.int x1]) (rest := [.int fJ, .ref wJ, .ref xD]) C0 hP hD hS (mixT mk_138) hm.1 (nd_T _) 4 0 rfl rfl (c_X0_withoutLadder l dC dI cI cC cZ cB cJ wY wJ wQ xH H.size x1 jC eO eW dO fJ fY jD nG _ hp) q_493 q_512 q_494 q_495 q_187 h_X0_withoutLadder rfl rfl ⟨Nat.le_of_ble_eq_true rfl, Nat.le_of_ble_eq_true rfl⟩ rfl rfl hl.1 rfl (lv_room (Nat.le_of_ble_eq_true rfl)) eX5_workSeconds_168.2.1 ⟨Nat.zero_le _, Nat.zero_le _⟩) (fun r_1 u H locs hp hP hD hS => ?_)
    have hPD := PDm (ws' := (wd_X5_workSeconds cI cC cZ cB cJ xD wY wJ uE qU uJ uL uI wQ xH tX jE mX pD oO oQ eG oX rJ pN rP rX rO vI bZ bD bI aI nJ nY dQ jC eO eW dO fJ fY jD nG)) hP hD 10 rfl rfl rfl
    have hP := hPD.1
    have hD := hPD.2
    have hm := mgk (wc := (wd_X3_waySeconds cI cC cZ cB cJ wJ tX jE mX pD oO oQ eG bZ bD bI aI nJ dQ)) hP mk_139 10 rfl rfl rfl
    refine g_calli hP hD hS hA (mixT mk_139) (mixF mk_139) hm.1 hm.2 (nd_F _) (dis_g _) (g_runV (As := [.int fJ, .int r_1]) (rest := [.ref xD]) C0 hP hD hS (mixT mk_139) hm.1 (nd_T _) 5 3 rfl rfl (c_X3_waySeconds l dC dI cI cC cZ cB cJ wJ tX jE mX pD oO oQ eG H.size fJ r_1 bZ bD bI aI nJ dQ _ hp) q_489 q_513 q_490 q_491 q_48 h_X3_waySeconds rfl rfl ⟨Nat.le_of_ble_eq_true rfl, Nat.le_of_ble_eq_true rfl⟩ rfl rfl hl.1 rfl (lv_room (Nat.le_of_ble_eq_true rfl)) eX5_workSeconds_168.2.2.1 ⟨Nat.zero_le _, Nat.zero_le _⟩) (fun r_2 u H locs hp hP hD hS => ?_)
    have hPD := PDm (ws' := (wd_X5_workSeconds cI cC cZ cB cJ xD wY wJ uE qU uJ uL uI wQ xH tX jE mX pD oO oQ eG oX rJ pN rP rX rO vI bZ bD bI aI nJ nY dQ jC eO eW dO fJ fY jD nG)) hP hD 10 rfl rfl rfl
    have hP := hPD.1
    have hD := hPD.2
    refine va_put (D := (dC, dI)) (ci := 5) (v := .int r_2) (ty := .int) (C := RX5) (T := TX5) (N := 11) hx hb hts i_X5 tyX5 tyX5_ok nmX5 hown hK hP hD hS 0 rfl rfl 8 (Nat.le_of_ble_eq_true rfl) (hts _ q_514) (fun _ h9 => h9) rfl (tyX5_ok 8 (Nat.le_of_ble_eq_true rfl)) rfl rfl (Nat.le_of_ble_eq_true rfl) eX5_workSeconds_168.2.2.2.1 (fun H locs hP hD hS => ?_)
    have hP : va_P (dC, dI) classes (wd_X5_workSeconds cI cC cZ cB cJ xD wY wJ uE qU uJ uL uI wQ xH tX jE mX pD oO oQ eG oX r_2 pN rP rX rO vI bZ bD bI aI nJ nY dQ jC eO eW dO fJ fY jD nG) H := hP
    have hD : va_D A (wd_X5_workSeconds cI cC cZ cB cJ xD wY wJ uE qU uJ uL uI wQ xH tX jE mX pD oO oQ eG oX r_2 pN rP rX rO vI bZ bD bI aI nJ nY dQ jC eO eW dO fJ fY jD nG) := hD
    refine lv_aload_n hx hb eX5_workSeconds_168.2.2.2.2.1 rfl (lv_at hl 0 rfl) ?_
    refine va_get (D := (dC, dI)) (ci := 5) (v := .int r_2) (C := RX5) (T := TX5) (N := 11) hx hb hts i_X5 hown hK hP 0 rfl rfl 8 (Nat.le_of_ble_eq_true rfl) (hts _ q_514) (fun _ h9 => h9) rfl eX5_workSeconds_168.2.2.2.2.2.1 ?_
    refine lv_aload_n hx hb eX5_workSeconds_168.2.2.2.2.2.2.1 rfl (lv_at hl 0 rfl) ?_
    refine va_get (D := (dC, dI)) (ci := 5) (v := .int pN) (C := RX5) (T := TX5) (N := 11) hx hb hts i_X5 hown hK hP 0 rfl rfl 9 (Nat.le_of_ble_eq_true rfl) (hts _ q_509) (fun _ h9 => h9) rfl eX5_workSeconds_168.2.2.2.2.2.2.2.1 ?_
    refine lv_iadd hx hb eX5_workSeconds_168.2.2.2.2.2.2.2.2.1 ?_
    refine lv_topi (fun v_3 ev_3 => ?_)
    have hp := hp v_3 ev_3
    refine lv_aload_n hx hb eX5_workSeconds_168.2.2.2.2.2.2.2.2.2.1 rfl (lv_at hl 0 rfl) ?_
    refine va_get (D := (dC, dI)) (ci := 5) (v := .int rP) (C := RX5) (T := TX5) (N := 11) hx hb hts i_X5 hown hK hP 0 rfl rfl 10 (Nat.le_of_ble_eq_true rfl) (hts _ q_510) (fun _ h9 => h9) rfl eX5_workSeconds_168.2.2.2.2.2.2.2.2.2.2.1 ?_
    refine lv_iadd hx hb eX5_workSeconds_168.2.2.2.2.2.2.2.2.2.2.2.1 ?_
    exact W.iret (v := v_3 + rP) hx hb hr (fun t ht hW => ⟨⟨v_3 + rP, (r_2, pN, rP, vI), rfl, hp, by rw [ht]; exact hP, va_K.moved hW.alike hK, hD⟩, hS.F ht⟩) hS.2.2 eX5_workSeconds_168.2.2.2.2.2.2.2.2.2.2.2.2
  · have hp := hp.2 hc
    refine lv_aload_n hx hb eX5_workSeconds_104.2.2.2.2.2.2.2.2.1 rfl (lv_at hl 0 rfl) ?_
    refine lv_dup hx hb eX5_workSeconds_104.2.2.2.2.2.2.2.2.2.1 rfl ?_
    refine va_get (D := (dC, dI)) (ci := 5) (v := .int rP) (C := RX5) (T := TX5) (N := 11) hx hb hts i_X5 hown hK hP 0 rfl rfl 10 (Nat.le_of_ble_eq_true rfl) (hts _ q_510) (fun _ h9 => h9) rfl eX5_workSeconds_104.2.2.2.2.2.2.2.2.2.2.1 ?_
    refine lv_aload_n hx hb eX5_workSeconds_104.2.2.2.2.2.2.2.2.2.2.2.1 rfl (lv_at hl 0 rfl) ?_
    refine va_get (D := (dC, dI)) (ci := 5) (v := .ref wJ) (C := RX5) (T := TX5) (N := 11) hx hb hts i_X5 hown hK hP 0 rfl rfl 1 (Nat.le_of_ble_eq_true rfl) (hts _ q_419) (fun _ h9 => h9) rfl eX5_workSeconds_104.2.2.2.2.2.2.2.2.2.2.2.2.1 ?_
    refine lv_iload_n hx hb eX5_workSeconds_104.2.2.2.2.2.2.2.2.2.2.2.2.2.1 rfl (lv_at hl 2 rfl) ?_
    refine lv_aload_n hx hb eX5_workSeconds_104.2.2.2.2.2.2.2.2.2.2.2.2.2.2.1 rfl (lv_at hl 0 rfl) ?_
    refine va_get (D := (dC, dI)) (ci := 5) (v := .ref uJ) (C := RX5) (T := TX5) (N := 11) hx hb hts i_X5 hown hK hP 0 rfl rfl 4 (Nat.le_of_ble_eq_true rfl) (hts _ q_515) (fun _ h9 => h9) rfl eX5_workSeconds_104.2.2.2.2.2.2.2.2.2.2.2.2.2.2.2 ?_
    refine lv_iload_n hx hb eX5_workSeconds_134.1 rfl (lv_at hl 2 rfl) ?_
    have hin := hp.1
    have hp := hp.2
    refine va_iald hx hb hK hP 3 0 rfl rfl hin eX5_workSeconds_134.2.1 ?_
    refine lv_topi (fun v_4 ev_4 => ?_)
    have hp := hp v_4 ev_4
    have hm := mgk (wc := (wd_X3_downsSeconds cI cC cZ cB cJ wJ tX jE mX pD oO oQ eG bZ bD bI aI nY dQ)) hP mk_140 10 rfl rfl rfl
    refine g_calli hP hD hS hA (mixT mk_140) (mixF mk_140) hm.1 hm.2 (nd_F _) (dis_g _) (g_runV (As := [.int x2, .int v_4]) (rest := [.int rP, .ref xD]) C0 hP hD hS (mixT mk_140) hm.1 (nd_T _) 5 3 rfl rfl (c_X3_downsSeconds l dC dI cI cC cZ cB cJ wJ tX jE mX pD oO oQ eG H.size x2 v_4 bZ bD bI aI nY dQ _ hp) q_516 q_519 q_517 q_518 q_48 h_X3_downsSeconds rfl rfl ⟨Nat.le_of_ble_eq_true rfl, Nat.le_of_ble_eq_true rfl⟩ rfl rfl hl.1 rfl (lv_room (Nat.le_of_ble_eq_true rfl)) eX5_workSeconds_134.2.2.1 ⟨Nat.zero_le _, Nat.zero_le _⟩) (fun r_5 u H locs hp hP hD hS => ?_)
    have hPD := PDm (ws' := (wd_X5_workSeconds cI cC cZ cB cJ xD wY wJ uE qU uJ uL uI wQ xH tX jE mX pD oO oQ eG oX rJ pN rP rX rO vI bZ bD bI aI nJ nY dQ jC eO eW dO fJ fY jD nG)) hP hD 10 rfl rfl rfl
    have hP := hPD.1
    have hD := hPD.2
    refine lv_iadd hx hb eX5_workSeconds_134.2.2.2.1 ?_
    refine lv_topi (fun v_6 ev_6 => ?_)
    have hp := hp v_6 ev_6
    refine va_put (D := (dC, dI)) (ci := 5) (v := .int v_6) (ty := .int) (C := RX5) (T := TX5) (N := 11) hx hb hts i_X5 tyX5 tyX5_ok nmX5 hown hK hP hD hS 0 rfl rfl 10 (Nat.le_of_ble_eq_true rfl) (hts _ q_510) (fun _ h9 => h9) rfl (tyX5_ok 10 (Nat.le_of_ble_eq_true rfl)) rfl rfl (Nat.le_of_ble_eq_true rfl) eX5_workSeconds_134.2.2.2.2.1 (fun H locs hP hD hS => ?_)
    have hP : va_P (dC, dI) classes (wd_X5_workSeconds cI cC cZ cB cJ xD wY wJ uE qU uJ uL uI wQ xH tX jE mX pD oO oQ eG oX rJ pN v_6 rX rO vI bZ bD bI aI nJ nY dQ jC eO eW dO fJ fY jD nG) H := hP
    have hD : va_D A (wd_X5_workSeconds cI cC cZ cB cJ xD wY wJ uE qU uJ uL uI wQ xH tX jE mX pD oO oQ eG oX rJ pN v_6 rX rO vI bZ bD bI aI nJ nY dQ jC eO eW dO fJ fY jD nG) := hD
    obtain ⟨v_7, ev_7⟩ : ∃ y : Int32, y = x2 + 1 := ⟨_, rfl⟩
    refine lv_iinc (v := v_7) (lv' := [(2, .int v_7), (0, .ref xD), (1, .int x1)]) hx hb eX5_workSeconds_134.2.2.2.2.2.1 hl (k := 2) rfl (by rw [ev_7]; rfl) (by decide) rfl (fun ls hl => ?_)
    have hp := hp v_7 ev_7
    refine lv_goto (tgt := 109) hx hb eX5_workSeconds_134.2.2.2.2.2.2.1 (by decide) ?_
    exact hKn x1 v_7 rJ pN v_6 vI H locs ls hp hP hD hS (lv_sub hl [1, 2, 0] rfl)
set_option maxHeartbeats 4000000 in
set_option maxRecDepth 100000 in
theorem kb_X5_workSeconds_109 (C0 : gc cX5_workSeconds (some .int) 4 RX5 (dC, dI) (tyl cI cC cZ cB cJ) A p s m args meth c) : ∀ (n : Nat), ∀ (x1 x2 rJ pN rP : Int32) (vI : Nat → Int32) (H : Heap) (locs : List Loc) (ls : Array Slot), (wb_X5_workSeconds_109 post oX rX rO bZ bD nJ nY dQ fJ n) x1 x2 rJ pN rP vI → va_P (dC, dI) classes (wd_X5_workSeconds cI cC cZ cB cJ xD wY wJ uE qU uJ uL uI wQ xH tX jE mX pD oO oQ eG oX rJ pN rP rX rO vI bZ bD bI aI nJ nY dQ jC eO eW dO fJ fY jD nG) H → va_D A (wd_X5_workSeconds cI cC cZ cB cJ xD wY wJ uE qU uJ uL uI wQ xH tX jE mX pD oO oQ eG oX rJ pN rP rX rO vI bZ bD bI aI nJ nY dQ jC eO eW dO fJ fY jD nG) → va_S A s.heap H locs → lv_has ls 4 [(0, .ref xD), (1, .int x1), (2, .int x2)] → W p l e rm_X5_workSeconds s m args below meth c H locs 0 0 (MQ below (q_X5_workSeconds dC dI cI cC cZ cB cJ A xD wY wJ uE qU uJ uL uI wQ xH tX jE mX pD oO oQ eG oX rX rO bZ bD bI aI nJ nY dQ jC eO eW dO fJ fY jD nG post) args s 0 0 A) (F0 m 109 ls []) := by
  intro n
  induction n with
  | zero =>
    intro x1 x2 rJ pN rP vI H locs ls hp
    exact False.elim hp
  | succ n ih =>
    intro x1 x2 rJ pN rP vI H locs ls hp
    exact ks_X5_workSeconds_109 C0 ih x1 x2 rJ pN rP vI H locs ls hp
noncomputable def ws_X5_workSeconds_96 (post : Int32 → Int32 → Int32 → Int32 → (Nat → Int32) → Prop) (K28 : Int32 → Int32 → Int32 → Int32 → Int32 → (Nat → Int32) → Prop) (oX : Int32) (rX rO : Nat → Int32) (bZ bD : Int32) (nJ nY dQ : Nat → Int32) (fJ x1 x2 rJ pN rP : Int32) (vI : Nat → Int32) : Prop := ∀ v_9 : Int32, v_9 = x2 + 1 → K28 x1 v_9 rJ pN rP vI
set_option maxHeartbeats 4000000 in
set_option maxRecDepth 100000 in
theorem ks_X5_workSeconds_96 (C0 : gc cX5_workSeconds (some .int) 4 RX5 (dC, dI) (tyl cI cC cZ cB cJ) A p s m args meth c) {K28 : Int32 → Int32 → Int32 → Int32 → Int32 → (Nat → Int32) → Prop} (hK28 : ∀ (x1 : Int32) (x2 : Int32) (rJ : Int32) (pN : Int32) (rP : Int32) (vI : Nat → Int32) (H : Heap) (locs : List Loc) (ls : Array Slot), K28 x1 x2 rJ pN rP vI → va_P (dC, dI) classes (wd_X5_workSeconds cI cC cZ cB cJ xD wY wJ uE qU uJ uL uI wQ xH tX jE mX pD oO oQ eG oX rJ pN rP rX rO vI bZ bD bI aI nJ nY dQ jC eO eW dO fJ fY jD nG) H → va_D A (wd_X5_workSeconds cI cC cZ cB cJ xD wY wJ uE qU uJ uL uI wQ xH tX jE mX pD oO oQ eG oX rJ pN rP rX rO vI bZ bD bI aI nJ nY dQ jC eO eW dO fJ fY jD nG) → va_S A s.heap H locs → lv_has ls 4 [(0, .ref xD), (1, .int x1), (2, .int x2)] → W p l e rm_X5_workSeconds s m args below meth c H locs 0 0 (MQ below (q_X5_workSeconds dC dI cI cC cZ cB cJ A xD wY wJ uE qU uJ uL uI wQ xH tX jE mX pD oO oQ eG oX rX rO bZ bD bI aI nJ nY dQ jC eO eW dO fJ fY jD nG post) args s 0 0 A) (F0 m 28 ls [])) : ∀ (x1 x2 rJ pN rP : Int32) (vI : Nat → Int32) (H : Heap) (locs : List Loc) (ls : Array Slot), (ws_X5_workSeconds_96 post K28 oX rX rO bZ bD nJ nY dQ fJ) x1 x2 rJ pN rP vI → va_P (dC, dI) classes (wd_X5_workSeconds cI cC cZ cB cJ xD wY wJ uE qU uJ uL uI wQ xH tX jE mX pD oO oQ eG oX rJ pN rP rX rO vI bZ bD bI aI nJ nY dQ jC eO eW dO fJ fY jD nG) H → va_D A (wd_X5_workSeconds cI cC cZ cB cJ xD wY wJ uE qU uJ uL uI wQ xH tX jE mX pD oO oQ eG oX rJ pN rP rX rO vI bZ bD bI aI nJ nY dQ jC eO eW dO fJ fY jD nG) → va_S A s.heap H locs → lv_has ls 4 [(0, .ref xD), (1, .int x1), (2, .int x2)] → W p l e rm_X5_workSeconds s m args below meth c H locs 0 0 (MQ below (q_X5_workSeconds dC dI cI cC cZ cB cJ A xD wY wJ uE qU uJ uL uI wQ xH tX jE mX pD oO oQ eG oX rX rO bZ bD bI aI nJ nY dQ jC eO eW dO fJ fY jD nG post) args s 0 0 A) (F0 m 96 ls []) := by
  obtain ⟨hx, hb, hr, hml, hown, hts, hlocks, hA, hK, hN, tL, tM, hZL, hTL, hZM, hTM, hZX⟩ := id C0
  intro x1 x2 rJ pN rP vI H locs ls hp hP hD hS hl
  unfold ws_X5_workSeconds_96 at hp
  obtain ⟨v_9, ev_9⟩ : ∃ y : Int32, y = x2 + 1 := ⟨_, rfl⟩
  refine lv_iinc (v := v_9) (lv' := [(2, .int v_9), (0, .ref xD), (1, .int x1)]) hx hb eX5_workSeconds_80.2.2.2.2.2.2.2.2.2.2.2.2.1 hl (k := 2) rfl (by rw [ev_9]; rfl) (by decide) rfl (fun ls hl => ?_)
  have hp := hp v_9 ev_9
  refine lv_goto (tgt := 28) hx hb eX5_workSeconds_80.2.2.2.2.2.2.2.2.2.2.2.2.2.1 (by decide) ?_
  exact hK28 x1 v_9 rJ pN rP vI H locs ls hp hP hD hS (lv_sub hl [1, 2, 0] rfl)
noncomputable def ws_X5_workSeconds_60 (post : Int32 → Int32 → Int32 → Int32 → (Nat → Int32) → Prop) (K28 : Int32 → Int32 → Int32 → Int32 → Int32 → (Nat → Int32) → Prop) (oX : Int32) (rX rO : Nat → Int32) (bZ bD : Int32) (nJ nY dQ : Nat → Int32) (fJ x1 x2 k0 rJ pN rP : Int32) (vI : Nat → Int32) : Prop := (k0 = (-1) → ws_X5_workSeconds_96 post K28 oX rX rO bZ bD nJ nY dQ fJ x1 x2 rJ pN rP vI) ∧ (¬ k0 = (-1) → ∀ v_10 : Int32, v_10 = x2 * 8 → ∀ v_11 : Int32, v_11 = v_10 + k0 → vp_in v_11 128 ∧ (∀ v_12 : Int32, v_12 = pN + (rO v_11.toNatClampNeg) → vp_in k0 8 ∧ (∀ v_13 : Int32, v_13 = vI k0.toNatClampNeg → ∀ v_14 : Int32, v_14 = v_13 + 1 → vp_in k0 8 ∧ (ws_X5_workSeconds_96 post K28 oX rX rO bZ bD nJ nY dQ fJ x1 x2 rJ v_12 rP (upd vI k0.toNatClampNeg v_14)))))
set_option maxHeartbeats 4000000 in
set_option maxRecDepth 100000 in
theorem ks_X5_workSeconds_60 (C0 : gc cX5_workSeconds (some .int) 4 RX5 (dC, dI) (tyl cI cC cZ cB cJ) A p s m args meth c) {K28 : Int32 → Int32 → Int32 → Int32 → Int32 → (Nat → Int32) → Prop} (hK28 : ∀ (x1 : Int32) (x2 : Int32) (rJ : Int32) (pN : Int32) (rP : Int32) (vI : Nat → Int32) (H : Heap) (locs : List Loc) (ls : Array Slot), K28 x1 x2 rJ pN rP vI → va_P (dC, dI) classes (wd_X5_workSeconds cI cC cZ cB cJ xD wY wJ uE qU uJ uL uI wQ xH tX jE mX pD oO oQ eG oX rJ pN rP rX rO vI bZ bD bI aI nJ nY dQ jC eO eW dO fJ fY jD nG) H → va_D A (wd_X5_workSeconds cI cC cZ cB cJ xD wY wJ uE qU uJ uL uI wQ xH tX jE mX pD oO oQ eG oX rJ pN rP rX rO vI bZ bD bI aI nJ nY dQ jC eO eW dO fJ fY jD nG) → va_S A s.heap H locs → lv_has ls 4 [(0, .ref xD), (1, .int x1), (2, .int x2)] → W p l e rm_X5_workSeconds s m args below meth c H locs 0 0 (MQ below (q_X5_workSeconds dC dI cI cC cZ cB cJ A xD wY wJ uE qU uJ uL uI wQ xH tX jE mX pD oO oQ eG oX rX rO bZ bD bI aI nJ nY dQ jC eO eW dO fJ fY jD nG post) args s 0 0 A) (F0 m 28 ls [])) : ∀ (x1 x2 k0 rJ pN rP : Int32) (vI : Nat → Int32) (H : Heap) (locs : List Loc) (ls : Array Slot), (ws_X5_workSeconds_60 post K28 oX rX rO bZ bD nJ nY dQ fJ) x1 x2 k0 rJ pN rP vI → va_P (dC, dI) classes (wd_X5_workSeconds cI cC cZ cB cJ xD wY wJ uE qU uJ uL uI wQ xH tX jE mX pD oO oQ eG oX rJ pN rP rX rO vI bZ bD bI aI nJ nY dQ jC eO eW dO fJ fY jD nG) H → va_D A (wd_X5_workSeconds cI cC cZ cB cJ xD wY wJ uE qU uJ uL uI wQ xH tX jE mX pD oO oQ eG oX rJ pN rP rX rO vI bZ bD bI aI nJ nY dQ jC eO eW dO fJ fY jD nG) → va_S A s.heap H locs → lv_has ls 4 [(0, .ref xD), (1, .int x1), (2, .int x2)] → W p l e rm_X5_workSeconds s m args below meth c H locs 0 0 (MQ below (q_X5_workSeconds dC dI cI cC cZ cB cJ A xD wY wJ uE qU uJ uL uI wQ xH tX jE mX pD oO oQ eG oX rX rO bZ bD bI aI nJ nY dQ jC eO eW dO fJ fY jD nG post) args s 0 0 A) (F0 m 60 ls [.int k0]) := by
  obtain ⟨hx, hb, hr, hml, hown, hts, hlocks, hA, hK, hN, tL, tM, hZL, hTL, hZM, hTM, hZX⟩ := id C0
  intro x1 x2 k0 rJ pN rP vI H locs ls hp hP hD hS hl
  unfold ws_X5_workSeconds_60 at hp
  refine lv_istore_n (lv' := [(3, .int k0), (0, .ref xD), (1, .int x1), (2, .int x2)]) hx hb eX5_workSeconds_53.2.2.2.1 rfl hl (by decide) rfl (fun ls hl => ?_)
  refine lv_iload_n hx hb eX5_workSeconds_53.2.2.2.2.1 rfl (lv_at hl 0 rfl) ?_
  refine lv_iconst (v := (-1)) hx hb eX5_workSeconds_53.2.2.2.2.2.1 ic_m1 ?_
  refine lv_icmp_eq (tgt := 96) hx hb eX5_workSeconds_53.2.2.2.2.2.2.1 (by decide) (fun hc => ?_) (fun hc => ?_)
  · have hp := hp.1 hc
    exact ks_X5_workSeconds_96 C0 hK28 x1 x2 rJ pN rP vI H locs ls hp hP hD hS (lv_sub hl [1, 2, 3] rfl)
  · have hp := hp.2 hc
    refine lv_aload_n hx hb eX5_workSeconds_53.2.2.2.2.2.2.2.1 rfl (lv_at hl 1 rfl) ?_
    refine lv_dup hx hb eX5_workSeconds_53.2.2.2.2.2.2.2.2.1 rfl ?_
    refine va_get (D := (dC, dI)) (ci := 5) (v := .int pN) (C := RX5) (T := TX5) (N := 11) hx hb hts i_X5 hown hK hP 0 rfl rfl 9 (Nat.le_of_ble_eq_true rfl) (hts _ q_509) (fun _ h9 => h9) rfl eX5_workSeconds_53.2.2.2.2.2.2.2.2.2.1 ?_
    refine lv_aload_n hx hb eX5_workSeconds_53.2.2.2.2.2.2.2.2.2.2.1 rfl (lv_at hl 1 rfl) ?_
    refine va_get (D := (dC, dI)) (ci := 5) (v := .ref qU) (C := RX5) (T := TX5) (N := 11) hx hb hts i_X5 hown hK hP 0 rfl rfl 3 (Nat.le_of_ble_eq_true rfl) (hts _ q_506) (fun _ h9 => h9) rfl eX5_workSeconds_53.2.2.2.2.2.2.2.2.2.2.2.1 ?_
    refine lv_iload_n hx hb eX5_workSeconds_53.2.2.2.2.2.2.2.2.2.2.2.2.1 rfl (lv_at hl 3 rfl) ?_
    refine lv_bipush (v := 8) hx hb eX5_workSeconds_53.2.2.2.2.2.2.2.2.2.2.2.2.2.1 bp_8 ?_
    refine lv_imul hx hb eX5_workSeconds_53.2.2.2.2.2.2.2.2.2.2.2.2.2.2.1 ?_
    refine lv_topi (fun v_10 ev_10 => ?_)
    have hp := hp v_10 ev_10
    refine lv_iload_n hx hb eX5_workSeconds_53.2.2.2.2.2.2.2.2.2.2.2.2.2.2.2 rfl (lv_at hl 0 rfl) ?_
    refine lv_iadd hx hb eX5_workSeconds_80.1 ?_
    refine lv_topi (fun v_11 ev_11 => ?_)
    have hp := hp v_11 ev_11
    have hin := hp.1
    have hp := hp.2
    refine va_iald hx hb hK hP 2 0 rfl rfl hin eX5_workSeconds_80.2.1 ?_
    refine lv_iadd hx hb eX5_workSeconds_80.2.2.1 ?_
    refine lv_topi (fun v_12 ev_12 => ?_)
    have hp := hp v_12 ev_12
    refine va_put (D := (dC, dI)) (ci := 5) (v := .int v_12) (ty := .int) (C := RX5) (T := TX5) (N := 11) hx hb hts i_X5 tyX5 tyX5_ok nmX5 hown hK hP hD hS 0 rfl rfl 9 (Nat.le_of_ble_eq_true rfl) (hts _ q_509) (fun _ h9 => h9) rfl (tyX5_ok 9 (Nat.le_of_ble_eq_true rfl)) rfl rfl (Nat.le_of_ble_eq_true rfl) eX5_workSeconds_80.2.2.2.1 (fun H locs hP hD hS => ?_)
    have hP : va_P (dC, dI) classes (wd_X5_workSeconds cI cC cZ cB cJ xD wY wJ uE qU uJ uL uI wQ xH tX jE mX pD oO oQ eG oX rJ v_12 rP rX rO vI bZ bD bI aI nJ nY dQ jC eO eW dO fJ fY jD nG) H := hP
    have hD : va_D A (wd_X5_workSeconds cI cC cZ cB cJ xD wY wJ uE qU uJ uL uI wQ xH tX jE mX pD oO oQ eG oX rJ v_12 rP rX rO vI bZ bD bI aI nJ nY dQ jC eO eW dO fJ fY jD nG) := hD
    refine lv_aload_n hx hb eX5_workSeconds_80.2.2.2.2.1 rfl (lv_at hl 1 rfl) ?_
    refine va_get (D := (dC, dI)) (ci := 5) (v := .ref uJ) (C := RX5) (T := TX5) (N := 11) hx hb hts i_X5 hown hK hP 0 rfl rfl 4 (Nat.le_of_ble_eq_true rfl) (hts _ q_515) (fun _ h9 => h9) rfl eX5_workSeconds_80.2.2.2.2.2.1 ?_
    refine lv_iload_n hx hb eX5_workSeconds_80.2.2.2.2.2.2.1 rfl (lv_at hl 0 rfl) ?_
    refine lv_dup2_11 hx hb eX5_workSeconds_80.2.2.2.2.2.2.2.1 rfl rfl ?_
    have hin := hp.1
    have hp := hp.2
    refine va_iald hx hb hK hP 3 0 rfl rfl hin eX5_workSeconds_80.2.2.2.2.2.2.2.2.1 ?_
    refine lv_topi (fun v_13 ev_13 => ?_)
    have hp := hp v_13 ev_13
    refine lv_iconst (v := 1) hx hb eX5_workSeconds_80.2.2.2.2.2.2.2.2.2.1 ic_1 ?_
    refine lv_iadd hx hb eX5_workSeconds_80.2.2.2.2.2.2.2.2.2.2.1 ?_
    refine lv_topi (fun v_14 ev_14 => ?_)
    have hp := hp v_14 ev_14
    have hin := hp.1
    have hp := hp.2
    refine va_iast hx hb hK hP hD hS 3 0 rfl rfl hin eX5_workSeconds_80.2.2.2.2.2.2.2.2.2.2.2.1 (fun H locs hP hD hS => ?_)
    have hP : va_P (dC, dI) classes (wd_X5_workSeconds cI cC cZ cB cJ xD wY wJ uE qU uJ uL uI wQ xH tX jE mX pD oO oQ eG oX rJ v_12 rP rX rO (upd vI k0.toNatClampNeg v_14) bZ bD bI aI nJ nY dQ jC eO eW dO fJ fY jD nG) H := hP
    have hD : va_D A (wd_X5_workSeconds cI cC cZ cB cJ xD wY wJ uE qU uJ uL uI wQ xH tX jE mX pD oO oQ eG oX rJ v_12 rP rX rO (upd vI k0.toNatClampNeg v_14) bZ bD bI aI nJ nY dQ jC eO eW dO fJ fY jD nG) := hD
    exact ks_X5_workSeconds_96 C0 hK28 x1 x2 rJ v_12 rP (upd vI k0.toNatClampNeg v_14) H locs ls hp hP hD hS (lv_sub hl [1, 2, 3] rfl)
noncomputable def ws_X5_workSeconds_28 (post : Int32 → Int32 → Int32 → Int32 → (Nat → Int32) → Prop) (next : Int32 → Int32 → Int32 → Int32 → Int32 → (Nat → Int32) → Prop) (oX : Int32) (rX rO : Nat → Int32) (bZ bD : Int32) (nJ nY dQ : Nat → Int32) (fJ x1 x2 rJ pN rP : Int32) (vI : Nat → Int32) : Prop := (bZ ≤ x2 → ∃ n : Nat, wb_X5_workSeconds_109 post oX rX rO bZ bD nJ nY dQ fJ n x1 0 rJ pN 0 vI) ∧ (¬ bZ ≤ x2 → ∀ v_8 : Int32, v_8 = oX >>> (x2 &&& 31) → ((v_8 &&& 1) = 0 → ws_X5_workSeconds_60 post next oX rX rO bZ bD nJ nY dQ fJ x1 x2 (-1) rJ pN rP vI) ∧ (¬ (v_8 &&& 1) = 0 → wp_X5_quickest (fun r_15 => ws_X5_workSeconds_60 post next oX rX rO bZ bD nJ nY dQ fJ x1 x2 r_15 rJ pN rP vI) x2 x1 rX rO bD))
noncomputable def wb_X5_workSeconds_28 (post : Int32 → Int32 → Int32 → Int32 → (Nat → Int32) → Prop) (oX : Int32) (rX rO : Nat → Int32) (bZ bD : Int32) (nJ nY dQ : Nat → Int32) (fJ : Int32) : Nat → Int32 → Int32 → Int32 → Int32 → Int32 → (Nat → Int32) → Prop := fun n => Nat.rec (motive := fun _ => Int32 → Int32 → Int32 → Int32 → Int32 → (Nat → Int32) → Prop) (fun _ _ _ _ _ _ => False) (fun _ ih => ws_X5_workSeconds_28 post ih oX rX rO bZ bD nJ nY dQ fJ) n
set_option maxHeartbeats 4000000 in
set_option maxRecDepth 100000 in
theorem ks_X5_workSeconds_28 (C0 : gc cX5_workSeconds (some .int) 4 RX5 (dC, dI) (tyl cI cC cZ cB cJ) A p s m args meth c) {next : Int32 → Int32 → Int32 → Int32 → Int32 → (Nat → Int32) → Prop} (hKn : ∀ (x1 : Int32) (x2 : Int32) (rJ : Int32) (pN : Int32) (rP : Int32) (vI : Nat → Int32) (H : Heap) (locs : List Loc) (ls : Array Slot), next x1 x2 rJ pN rP vI → va_P (dC, dI) classes (wd_X5_workSeconds cI cC cZ cB cJ xD wY wJ uE qU uJ uL uI wQ xH tX jE mX pD oO oQ eG oX rJ pN rP rX rO vI bZ bD bI aI nJ nY dQ jC eO eW dO fJ fY jD nG) H → va_D A (wd_X5_workSeconds cI cC cZ cB cJ xD wY wJ uE qU uJ uL uI wQ xH tX jE mX pD oO oQ eG oX rJ pN rP rX rO vI bZ bD bI aI nJ nY dQ jC eO eW dO fJ fY jD nG) → va_S A s.heap H locs → lv_has ls 4 [(0, .ref xD), (1, .int x1), (2, .int x2)] → W p l e rm_X5_workSeconds s m args below meth c H locs 0 0 (MQ below (q_X5_workSeconds dC dI cI cC cZ cB cJ A xD wY wJ uE qU uJ uL uI wQ xH tX jE mX pD oO oQ eG oX rX rO bZ bD bI aI nJ nY dQ jC eO eW dO fJ fY jD nG post) args s 0 0 A) (F0 m 28 ls [])) : ∀ (x1 x2 rJ pN rP : Int32) (vI : Nat → Int32) (H : Heap) (locs : List Loc) (ls : Array Slot), (ws_X5_workSeconds_28 post next oX rX rO bZ bD nJ nY dQ fJ) x1 x2 rJ pN rP vI → va_P (dC, dI) classes (wd_X5_workSeconds cI cC cZ cB cJ xD wY wJ uE qU uJ uL uI wQ xH tX jE mX pD oO oQ eG oX rJ pN rP rX rO vI bZ bD bI aI nJ nY dQ jC eO eW dO fJ fY jD nG) H → va_D A (wd_X5_workSeconds cI cC cZ cB cJ xD wY wJ uE qU uJ uL uI wQ xH tX jE mX pD oO oQ eG oX rJ pN rP rX rO vI bZ bD bI aI nJ nY dQ jC eO eW dO fJ fY jD nG) → va_S A s.heap H locs → lv_has ls 4 [(0, .ref xD), (1, .int x1), (2, .int x2)] → W p l e rm_X5_workSeconds s m args below meth c H locs 0 0 (MQ below (q_X5_workSeconds dC dI cI cC cZ cB cJ A xD wY wJ uE qU uJ uL uI wQ xH tX jE mX pD oO oQ eG oX rX rO bZ bD bI aI nJ nY dQ jC eO eW dO fJ fY jD nG post) args s 0 0 A) (F0 m 28 ls []) := by
  obtain ⟨hx, hb, hr, hml, hown, hts, hlocks, hA, hK, hN, tL, tM, hZL, hTL, hZM, hTM, hZX⟩ := id C0
  intro x1 x2 rJ pN rP vI H locs ls hp hP hD hS hl
  unfold ws_X5_workSeconds_28 at hp
  refine lv_iload_n hx hb eX5_workSeconds_27.2.1 rfl (lv_at hl 2 rfl) ?_
  refine lv_aload_n hx hb eX5_workSeconds_27.2.2.1 rfl (lv_at hl 0 rfl) ?_
  refine va_get (D := (dC, dI)) (ci := 5) (v := .ref wJ) (C := RX5) (T := TX5) (N := 11) hx hb hts i_X5 hown hK hP 0 rfl rfl 1 (Nat.le_of_ble_eq_true rfl) (hts _ q_419) (fun _ h9 => h9) rfl eX5_workSeconds_27.2.2.2.1 ?_
  refine va_get (D := (dC, dI)) (ci := 3) (v := .int bZ) (C := RX3) (T := TX3) (N := 11) hx hb hts i_X3 hown hK hP 5 rfl rfl 7 (Nat.le_of_ble_eq_true rfl) (hts _ q_504) (fun _ h9 => h9) rfl eX5_workSeconds_27.2.2.2.2.1 ?_
  refine lv_icmp_ge (tgt := 102) hx hb eX5_workSeconds_27.2.2.2.2.2.1 (by decide) (fun hc => ?_) (fun hc => ?_)
  · have hp := hp.1 hc
    refine lv_aload_n hx hb eX5_workSeconds_80.2.2.2.2.2.2.2.2.2.2.2.2.2.2.1 rfl (lv_at hl 0 rfl) ?_
    refine lv_iconst (v := 0) hx hb eX5_workSeconds_80.2.2.2.2.2.2.2.2.2.2.2.2.2.2.2 ic_0 ?_
    refine va_put (D := (dC, dI)) (ci := 5) (v := .int 0) (ty := .int) (C := RX5) (T := TX5) (N := 11) hx hb hts i_X5 tyX5 tyX5_ok nmX5 hown hK hP hD hS 0 rfl rfl 10 (Nat.le_of_ble_eq_true rfl) (hts _ q_510) (fun _ h9 => h9) rfl (tyX5_ok 10 (Nat.le_of_ble_eq_true rfl)) rfl rfl (Nat.le_of_ble_eq_true rfl) eX5_workSeconds_104.1 (fun H locs hP hD hS => ?_)
    have hP : va_P (dC, dI) classes (wd_X5_workSeconds cI cC cZ cB cJ xD wY wJ uE qU uJ uL uI wQ xH tX jE mX pD oO oQ eG oX rJ pN 0 rX rO vI bZ bD bI aI nJ nY dQ jC eO eW dO fJ fY jD nG) H := hP
    have hD : va_D A (wd_X5_workSeconds cI cC cZ cB cJ xD wY wJ uE qU uJ uL uI wQ xH tX jE mX pD oO oQ eG oX rJ pN 0 rX rO vI bZ bD bI aI nJ nY dQ jC eO eW dO fJ fY jD nG) := hD
    refine lv_iconst (v := 0) hx hb eX5_workSeconds_104.2.1 ic_0 ?_
    refine lv_istore_n (lv' := [(2, .int 0), (0, .ref xD), (1, .int x1)]) hx hb eX5_workSeconds_104.2.2.1 rfl hl (by decide) rfl (fun ls hl => ?_)
    obtain ⟨n9, hp⟩ := hp
    exact kb_X5_workSeconds_109 C0 n9 x1 0 rJ pN 0 vI H locs ls hp hP hD hS (lv_sub hl [1, 2, 0] rfl)
  · have hp := hp.2 hc
    refine lv_aload_n hx hb eX5_workSeconds_27.2.2.2.2.2.2.1 rfl (lv_at hl 0 rfl) ?_
    refine va_get (D := (dC, dI)) (ci := 5) (v := .int oX) (C := RX5) (T := TX5) (N := 11) hx hb hts i_X5 hown hK hP 0 rfl rfl 7 (Nat.le_of_ble_eq_true rfl) (hts _ q_435) (fun _ h9 => h9) rfl eX5_workSeconds_27.2.2.2.2.2.2.2.1 ?_
    refine lv_iload_n hx hb eX5_workSeconds_27.2.2.2.2.2.2.2.2.1 rfl (lv_at hl 2 rfl) ?_
    refine lv_ishr hx hb eX5_workSeconds_27.2.2.2.2.2.2.2.2.2.1 ?_
    refine lv_topi (fun v_8 ev_8 => ?_)
    have hp := hp v_8 ev_8
    refine lv_iconst (v := 1) hx hb eX5_workSeconds_27.2.2.2.2.2.2.2.2.2.2.1 ic_1 ?_
    refine lv_iand hx hb eX5_workSeconds_27.2.2.2.2.2.2.2.2.2.2.2.1 ?_
    refine lv_if_eq (tgt := 59) hx hb eX5_workSeconds_27.2.2.2.2.2.2.2.2.2.2.2.2.1 (by decide) (fun hc => ?_) (fun hc => ?_)
    · have hp := hp.1 hc
      refine lv_iconst (v := (-1)) hx hb eX5_workSeconds_53.2.2.1 ic_m1 ?_
      exact ks_X5_workSeconds_60 C0 hKn x1 x2 (-1) rJ pN rP vI H locs ls hp hP hD hS (lv_sub hl [0, 1, 2] rfl)
    · have hp := hp.2 hc
      refine lv_aload_n hx hb eX5_workSeconds_27.2.2.2.2.2.2.2.2.2.2.2.2.2.1 rfl (lv_at hl 0 rfl) ?_
      refine lv_iload_n hx hb eX5_workSeconds_27.2.2.2.2.2.2.2.2.2.2.2.2.2.2.1 rfl (lv_at hl 2 rfl) ?_
      refine lv_iload_n hx hb eX5_workSeconds_27.2.2.2.2.2.2.2.2.2.2.2.2.2.2.2 rfl (lv_at hl 1 rfl) ?_
      have hm := mgk (wc := (wd_X5_quickest cI cC cZ cB cJ xD wY wJ uE qU uJ uL uI tX jE mX pD oO oQ eG oX rJ pN rP rX rO bZ bD bI aI)) hP mk_141 10 rfl rfl rfl
      refine g_calli hP hD hS hA (mixT mk_141) (mixF mk_141) hm.1 hm.2 (nd_F _) (dis_g _) (g_runV (As := [.int x2, .int x1]) (rest := []) C0 hP hD hS (mixT mk_141) hm.1 (nd_T _) 0 5 rfl rfl (c_X5_quickest l dC dI cI cC cZ cB cJ xD wY wJ uE qU uJ uL uI tX jE mX pD oO oQ eG H.size x2 x1 oX rJ pN rP rX rO bZ bD bI aI _ hp) q_520 q_523 q_521 q_522 q_431 h_X5_quickest rfl rfl ⟨Nat.le_of_ble_eq_true rfl, Nat.le_of_ble_eq_true rfl⟩ rfl rfl hl.1 rfl (lv_room (Nat.le_of_ble_eq_true rfl)) eX5_workSeconds_53.1 ⟨Nat.zero_le _, Nat.zero_le _⟩) (fun r_15 u H locs hp hP hD hS => ?_)
      have hPD := PDm (ws' := (wd_X5_workSeconds cI cC cZ cB cJ xD wY wJ uE qU uJ uL uI wQ xH tX jE mX pD oO oQ eG oX rJ pN rP rX rO vI bZ bD bI aI nJ nY dQ jC eO eW dO fJ fY jD nG)) hP hD 10 rfl rfl rfl
      have hP := hPD.1
      have hD := hPD.2
      refine lv_goto (tgt := 60) hx hb eX5_workSeconds_53.2.1 (by decide) ?_
      exact ks_X5_workSeconds_60 C0 hKn x1 x2 r_15 rJ pN rP vI H locs ls hp hP hD hS (lv_sub hl [0, 1, 2] rfl)
set_option maxHeartbeats 4000000 in
set_option maxRecDepth 100000 in
theorem kb_X5_workSeconds_28 (C0 : gc cX5_workSeconds (some .int) 4 RX5 (dC, dI) (tyl cI cC cZ cB cJ) A p s m args meth c) : ∀ (n : Nat), ∀ (x1 x2 rJ pN rP : Int32) (vI : Nat → Int32) (H : Heap) (locs : List Loc) (ls : Array Slot), (wb_X5_workSeconds_28 post oX rX rO bZ bD nJ nY dQ fJ n) x1 x2 rJ pN rP vI → va_P (dC, dI) classes (wd_X5_workSeconds cI cC cZ cB cJ xD wY wJ uE qU uJ uL uI wQ xH tX jE mX pD oO oQ eG oX rJ pN rP rX rO vI bZ bD bI aI nJ nY dQ jC eO eW dO fJ fY jD nG) H → va_D A (wd_X5_workSeconds cI cC cZ cB cJ xD wY wJ uE qU uJ uL uI wQ xH tX jE mX pD oO oQ eG oX rJ pN rP rX rO vI bZ bD bI aI nJ nY dQ jC eO eW dO fJ fY jD nG) → va_S A s.heap H locs → lv_has ls 4 [(0, .ref xD), (1, .int x1), (2, .int x2)] → W p l e rm_X5_workSeconds s m args below meth c H locs 0 0 (MQ below (q_X5_workSeconds dC dI cI cC cZ cB cJ A xD wY wJ uE qU uJ uL uI wQ xH tX jE mX pD oO oQ eG oX rX rO bZ bD bI aI nJ nY dQ jC eO eW dO fJ fY jD nG post) args s 0 0 A) (F0 m 28 ls []) := by
  intro n
  induction n with
  | zero =>
    intro x1 x2 rJ pN rP vI H locs ls hp
    exact False.elim hp
  | succ n ih =>
    intro x1 x2 rJ pN rP vI H locs ls hp
    exact ks_X5_workSeconds_28 C0 ih x1 x2 rJ pN rP vI H locs ls hp
noncomputable def ws_X5_workSeconds_2 (post : Int32 → Int32 → Int32 → Int32 → (Nat → Int32) → Prop) (next : Int32 → Int32 → Int32 → Int32 → Int32 → (Nat → Int32) → Prop) (oX : Int32) (rX rO : Nat → Int32) (bZ bD : Int32) (nJ nY dQ : Nat → Int32) (fJ x1 x2 rJ pN rP : Int32) (vI : Nat → Int32) : Prop := (8 ≤ x2 → ∃ n : Nat, wb_X5_workSeconds_28 post oX rX rO bZ bD nJ nY dQ fJ n x1 0 rJ 0 rP vI) ∧ (¬ 8 ≤ x2 → vp_in x2 8 ∧ (∀ v_16 : Int32, v_16 = x2 + 1 → next x1 v_16 rJ pN rP (upd vI x2.toNatClampNeg 0)))
noncomputable def wb_X5_workSeconds_2 (post : Int32 → Int32 → Int32 → Int32 → (Nat → Int32) → Prop) (oX : Int32) (rX rO : Nat → Int32) (bZ bD : Int32) (nJ nY dQ : Nat → Int32) (fJ : Int32) : Nat → Int32 → Int32 → Int32 → Int32 → Int32 → (Nat → Int32) → Prop := fun n => Nat.rec (motive := fun _ => Int32 → Int32 → Int32 → Int32 → Int32 → (Nat → Int32) → Prop) (fun _ _ _ _ _ _ => False) (fun _ ih => ws_X5_workSeconds_2 post ih oX rX rO bZ bD nJ nY dQ fJ) n
set_option maxHeartbeats 4000000 in
set_option maxRecDepth 100000 in
theorem ks_X5_workSeconds_2 (C0 : gc cX5_workSeconds (some .int) 4 RX5 (dC, dI) (tyl cI cC cZ cB cJ) A p s m args meth c) {next : Int32 → Int32 → Int32 → Int32 → Int32 → (Nat → Int32) → Prop} (hKn : ∀ (x1 : Int32) (x2 : Int32) (rJ : Int32) (pN : Int32) (rP : Int32) (vI : Nat → Int32) (H : Heap) (locs : List Loc) (ls : Array Slot), next x1 x2 rJ pN rP vI → va_P (dC, dI) classes (wd_X5_workSeconds cI cC cZ cB cJ xD wY wJ uE qU uJ uL uI wQ xH tX jE mX pD oO oQ eG oX rJ pN rP rX rO vI bZ bD bI aI nJ nY dQ jC eO eW dO fJ fY jD nG) H → va_D A (wd_X5_workSeconds cI cC cZ cB cJ xD wY wJ uE qU uJ uL uI wQ xH tX jE mX pD oO oQ eG oX rJ pN rP rX rO vI bZ bD bI aI nJ nY dQ jC eO eW dO fJ fY jD nG) → va_S A s.heap H locs → lv_has ls 4 [(0, .ref xD), (1, .int x1), (2, .int x2)] → W p l e rm_X5_workSeconds s m args below meth c H locs 0 0 (MQ below (q_X5_workSeconds dC dI cI cC cZ cB cJ A xD wY wJ uE qU uJ uL uI wQ xH tX jE mX pD oO oQ eG oX rX rO bZ bD bI aI nJ nY dQ jC eO eW dO fJ fY jD nG post) args s 0 0 A) (F0 m 2 ls [])) : ∀ (x1 x2 rJ pN rP : Int32) (vI : Nat → Int32) (H : Heap) (locs : List Loc) (ls : Array Slot), (ws_X5_workSeconds_2 post next oX rX rO bZ bD nJ nY dQ fJ) x1 x2 rJ pN rP vI → va_P (dC, dI) classes (wd_X5_workSeconds cI cC cZ cB cJ xD wY wJ uE qU uJ uL uI wQ xH tX jE mX pD oO oQ eG oX rJ pN rP rX rO vI bZ bD bI aI nJ nY dQ jC eO eW dO fJ fY jD nG) H → va_D A (wd_X5_workSeconds cI cC cZ cB cJ xD wY wJ uE qU uJ uL uI wQ xH tX jE mX pD oO oQ eG oX rJ pN rP rX rO vI bZ bD bI aI nJ nY dQ jC eO eW dO fJ fY jD nG) → va_S A s.heap H locs → lv_has ls 4 [(0, .ref xD), (1, .int x1), (2, .int x2)] → W p l e rm_X5_workSeconds s m args below meth c H locs 0 0 (MQ below (q_X5_workSeconds dC dI cI cC cZ cB cJ A xD wY wJ uE qU uJ uL uI wQ xH tX jE mX pD oO oQ eG oX rX rO bZ bD bI aI nJ nY dQ jC eO eW dO fJ fY jD nG post) args s 0 0 A) (F0 m 2 ls []) := by
  obtain ⟨hx, hb, hr, hml, hown, hts, hlocks, hA, hK, hN, tL, tM, hZL, hTL, hZM, hTM, hZX⟩ := id C0
  intro x1 x2 rJ pN rP vI H locs ls hp hP hD hS hl
  unfold ws_X5_workSeconds_2 at hp
  refine lv_iload_n hx hb eX5_workSeconds_0.2.2.1 rfl (lv_at hl 2 rfl) ?_
  refine lv_bipush (v := 8) hx hb eX5_workSeconds_0.2.2.2.1 bp_8 ?_
  refine lv_icmp_ge (tgt := 21) hx hb eX5_workSeconds_0.2.2.2.2.1 (by decide) (fun hc => ?_) (fun hc => ?_)
  · have hp := hp.1 hc
    refine lv_aload_n hx hb eX5_workSeconds_0.2.2.2.2.2.2.2.2.2.2.2.2.1 rfl (lv_at hl 0 rfl) ?_
    refine lv_iconst (v := 0) hx hb eX5_workSeconds_0.2.2.2.2.2.2.2.2.2.2.2.2.2.1 ic_0 ?_
    refine va_put (D := (dC, dI)) (ci := 5) (v := .int 0) (ty := .int) (C := RX5) (T := TX5) (N := 11) hx hb hts i_X5 tyX5 tyX5_ok nmX5 hown hK hP hD hS 0 rfl rfl 9 (Nat.le_of_ble_eq_true rfl) (hts _ q_509) (fun _ h9 => h9) rfl (tyX5_ok 9 (Nat.le_of_ble_eq_true rfl)) rfl rfl (Nat.le_of_ble_eq_true rfl) eX5_workSeconds_0.2.2.2.2.2.2.2.2.2.2.2.2.2.2.1 (fun H locs hP hD hS => ?_)
    have hP : va_P (dC, dI) classes (wd_X5_workSeconds cI cC cZ cB cJ xD wY wJ uE qU uJ uL uI wQ xH tX jE mX pD oO oQ eG oX rJ 0 rP rX rO vI bZ bD bI aI nJ nY dQ jC eO eW dO fJ fY jD nG) H := hP
    have hD : va_D A (wd_X5_workSeconds cI cC cZ cB cJ xD wY wJ uE qU uJ uL uI wQ xH tX jE mX pD oO oQ eG oX rJ 0 rP rX rO vI bZ bD bI aI nJ nY dQ jC eO eW dO fJ fY jD nG) := hD
    refine lv_iconst (v := 0) hx hb eX5_workSeconds_0.2.2.2.2.2.2.2.2.2.2.2.2.2.2.2 ic_0 ?_
    refine lv_istore_n (lv' := [(2, .int 0), (0, .ref xD), (1, .int x1)]) hx hb eX5_workSeconds_27.1 rfl hl (by decide) rfl (fun ls hl => ?_)
    obtain ⟨n9, hp⟩ := hp
    exact kb_X5_workSeconds_28 C0 n9 x1 0 rJ 0 rP vI H locs ls hp hP hD hS (lv_sub hl [1, 2, 0] rfl)
  · have hp := hp.2 hc
    refine lv_aload_n hx hb eX5_workSeconds_0.2.2.2.2.2.1 rfl (lv_at hl 0 rfl) ?_
    refine va_get (D := (dC, dI)) (ci := 5) (v := .ref uJ) (C := RX5) (T := TX5) (N := 11) hx hb hts i_X5 hown hK hP 0 rfl rfl 4 (Nat.le_of_ble_eq_true rfl) (hts _ q_515) (fun _ h9 => h9) rfl eX5_workSeconds_0.2.2.2.2.2.2.1 ?_
    refine lv_iload_n hx hb eX5_workSeconds_0.2.2.2.2.2.2.2.1 rfl (lv_at hl 2 rfl) ?_
    refine lv_iconst (v := 0) hx hb eX5_workSeconds_0.2.2.2.2.2.2.2.2.1 ic_0 ?_
    have hin := hp.1
    have hp := hp.2
    refine va_iast hx hb hK hP hD hS 3 0 rfl rfl hin eX5_workSeconds_0.2.2.2.2.2.2.2.2.2.1 (fun H locs hP hD hS => ?_)
    have hP : va_P (dC, dI) classes (wd_X5_workSeconds cI cC cZ cB cJ xD wY wJ uE qU uJ uL uI wQ xH tX jE mX pD oO oQ eG oX rJ pN rP rX rO (upd vI x2.toNatClampNeg 0) bZ bD bI aI nJ nY dQ jC eO eW dO fJ fY jD nG) H := hP
    have hD : va_D A (wd_X5_workSeconds cI cC cZ cB cJ xD wY wJ uE qU uJ uL uI wQ xH tX jE mX pD oO oQ eG oX rJ pN rP rX rO (upd vI x2.toNatClampNeg 0) bZ bD bI aI nJ nY dQ jC eO eW dO fJ fY jD nG) := hD
    obtain ⟨v_16, ev_16⟩ : ∃ y : Int32, y = x2 + 1 := ⟨_, rfl⟩
    refine lv_iinc (v := v_16) (lv' := [(2, .int v_16), (0, .ref xD), (1, .int x1)]) hx hb eX5_workSeconds_0.2.2.2.2.2.2.2.2.2.2.1 hl (k := 2) rfl (by rw [ev_16]; rfl) (by decide) rfl (fun ls hl => ?_)
    have hp := hp v_16 ev_16
    refine lv_goto (tgt := 2) hx hb eX5_workSeconds_0.2.2.2.2.2.2.2.2.2.2.2.1 (by decide) ?_
    exact hKn x1 v_16 rJ pN rP (upd vI x2.toNatClampNeg 0) H locs ls hp hP hD hS (lv_sub hl [1, 2, 0] rfl)
set_option maxHeartbeats 4000000 in
set_option maxRecDepth 100000 in
theorem kb_X5_workSeconds_2 (C0 : gc cX5_workSeconds (some .int) 4 RX5 (dC, dI) (tyl cI cC cZ cB cJ) A p s m args meth c) : ∀ (n : Nat), ∀ (x1 x2 rJ pN rP : Int32) (vI : Nat → Int32) (H : Heap) (locs : List Loc) (ls : Array Slot), (wb_X5_workSeconds_2 post oX rX rO bZ bD nJ nY dQ fJ n) x1 x2 rJ pN rP vI → va_P (dC, dI) classes (wd_X5_workSeconds cI cC cZ cB cJ xD wY wJ uE qU uJ uL uI wQ xH tX jE mX pD oO oQ eG oX rJ pN rP rX rO vI bZ bD bI aI nJ nY dQ jC eO eW dO fJ fY jD nG) H → va_D A (wd_X5_workSeconds cI cC cZ cB cJ xD wY wJ uE qU uJ uL uI wQ xH tX jE mX pD oO oQ eG oX rJ pN rP rX rO vI bZ bD bI aI nJ nY dQ jC eO eW dO fJ fY jD nG) → va_S A s.heap H locs → lv_has ls 4 [(0, .ref xD), (1, .int x1), (2, .int x2)] → W p l e rm_X5_workSeconds s m args below meth c H locs 0 0 (MQ below (q_X5_workSeconds dC dI cI cC cZ cB cJ A xD wY wJ uE qU uJ uL uI wQ xH tX jE mX pD oO oQ eG oX rX rO bZ bD bI aI nJ nY dQ jC eO eW dO fJ fY jD nG post) args s 0 0 A) (F0 m 2 ls []) := by
  intro n
  induction n with
  | zero =>
    intro x1 x2 rJ pN rP vI H locs ls hp
    exact False.elim hp
  | succ n ih =>
    intro x1 x2 rJ pN rP vI H locs ls hp
    exact ks_X5_workSeconds_2 C0 ih x1 x2 rJ pN rP vI H locs ls hp
end S_X5_workSeconds
noncomputable def wp_X5_workSeconds (post : Int32 → Int32 → Int32 → Int32 → (Nat → Int32) → Prop) (p0 oX rJ pN rP : Int32) (rX rO vI : Nat → Int32) (bZ bD : Int32) (nJ nY dQ : Nat → Int32) (fJ : Int32) : Prop := ∃ n : Nat, wb_X5_workSeconds_2 post oX rX rO bZ bD nJ nY dQ fJ n p0 0 rJ pN rP vI
set_option maxHeartbeats 4000000 in
set_option maxRecDepth 100000 in
theorem c_X5_workSeconds (l : Launch) (dC : Nat → ClassId) (dI : Nat → Nat → Nat) (cI cC cZ cB cJ : ClassId) (xD wY wJ uE qU uJ uL uI wQ xH tX jE mX pD oO oQ eG sz : Nat) (p0 oX rJ pN rP : Int32) (rX rO vI : Nat → Int32) (bZ bD bI aI : Int32) (nJ nY dQ : Nat → Int32) (jC eO eW dO fJ fY jD nG : Int32) (post : Int32 → Int32 → Int32 → Int32 → (Nat → Int32) → Prop) (hw : wp_X5_workSeconds post p0 oX rJ pN rP rX rO vI bZ bD nJ nY dQ fJ) : Met l yX5_workSeconds (gw yX5_workSeconds cX5_workSeconds 4 (some .int)) rm_X5_workSeconds (va_Pc [.ref xD, .int p0] (gPre (dC, dI) (tyl cI cC cZ cB cJ) (wd_X5_workSeconds cI cC cZ cB cJ xD wY wJ uE qU uJ uL uI wQ xH tX jE mX pD oO oQ eG oX rJ pN rP rX rO vI bZ bD bI aI nJ nY dQ jC eO eW dO fJ fY jD nG) sz)) (q_X5_workSeconds dC dI cI cC cZ cB cJ (va_A (wd_X5_workSeconds cI cC cZ cB cJ xD wY wJ uE qU uJ uL uI wQ xH tX jE mX pD oO oQ eG oX rJ pN rP rX rO vI bZ bD bI aI nJ nY dQ jC eO eW dO fJ fY jD nG) sz) xD wY wJ uE qU uJ uL uI wQ xH tX jE mX pD oO oQ eG oX rX rO bZ bD bI aI nJ nY dQ jC eO eW dO fJ fY jD nG post) 0 0 (va_A (wd_X5_workSeconds cI cC cZ cB cJ xD wY wJ uE qU uJ uL uI wQ xH tX jE mX pD oO oQ eG oX rJ pN rP rX rO vI bZ bD bI aI nJ nY dQ jC eO eW dO fJ fY jD nG) sz) := by
  refine g_enter (own := RX5) (dC, dI) (tyl cI cC cZ cB cJ) (wd_X5_workSeconds cI cC cZ cB cJ xD wY wJ uE qU uJ uL uI wQ xH tX jE mX pD oO oQ eG oX rJ pN rP rX rO vI bZ bD bI aI nJ nY dQ jC eO eW dO fJ fY jD nG) sz [.ref xD, .int p0] (fun A => q_X5_workSeconds dC dI cI cC cZ cB cJ A xD wY wJ uE qU uJ uL uI wQ xH tX jE mX pD oO oQ eG oX rX rO bZ bD bI aI nJ nY dQ jC eO eW dO fJ fY jD nG post) pn_RX5 rfl (Nat.le_of_ble_eq_true rfl) ?_
  intro p e s m args below meth c A H locs ls C0 hP hD hS hl
  have hl : lv_has ls 4 [(0, .ref xD), (1, .int p0)] := hl
  obtain ⟨hx, hb, hr, hml, hown, hts, hlocks, hA, hK, hN, tL, tM, hZL, hTL, hZM, hTM, hZX⟩ := id C0
  have hp := hw
  unfold wp_X5_workSeconds at hp
  refine lv_iconst (v := 0) hx hb eX5_workSeconds_0.1 ic_0 ?_
  refine lv_istore_n (lv' := [(2, .int 0), (0, .ref xD), (1, .int p0)]) hx hb eX5_workSeconds_0.2.1 rfl hl (by decide) rfl (fun ls hl => ?_)
  obtain ⟨n9, hp⟩ := hp
  exact kb_X5_workSeconds_2 C0 n9 p0 0 rJ pN rP vI H locs ls hp hP hD hS (lv_sub hl [1, 2, 0] rfl)
