abbrev aFh (cI cC cZ cB cJ : ClassId) (xH xB vI uJ rW uQ uP uO tJ jJ mY pG pD pE eO : Nat) (oY rJ pX rO : Int32) (rD : Nat -> Int32) (dN bD bJ aI : Int32) : va_W := [(xH, .inr (5, [.ref xB, .ref vI, .ref uJ, .ref rW, .ref uQ, .ref uP, .ref uO, .int oY, .int rJ, .int pX, .int rO])), (uJ, .inl (cI, 8, .inl rD)), (vI, .inr (3, [.ref tJ, .ref jJ, .ref mY, .ref pG, .ref pD, .ref pE, .ref eO, .int dN, .int bD, .int bJ, .int aI]))]
abbrev q_X5_smallestCover (dC : Nat -> ClassId) (dI : Nat -> Nat -> Nat) (cI cC cZ cB cJ : ClassId) (A : Nat -> Prop) (xH xB vI uJ rW uQ uP uO tJ jJ mY pG pD pE eO : Nat) (oY rJ pX rO : Int32) (rD : Nat -> Int32) (dN bD bJ aI : Int32) (post : Int32 -> Prop) : Array Value -> State -> Outcome -> State -> Prop := va_Qi (fun (r : Int32) (u : Unit) => post r) (fun u t => gB (dC, dI) (tyl cI cC cZ cB cJ) A (aFh cI cC cZ cB cJ xH xB vI uJ rW uQ uP uO tJ jJ mY pG pD pE eO oY rJ pX rO rD dN bD bJ aI) t) A
abbrev rm_X5_smallestCover : Room := { frames := 2, cells := 0, slots := 0, locals := 43 }
section S_X5_smallestCover
variable {p : Program} {l : Launch} {e : Env} {s : State} {m : MethodId} {args : Array Value} {below : List Frame} {meth : Method} {c : Code} {dC : Nat -> ClassId} {dI : Nat -> Nat -> Nat} {cI cC cZ cB cJ : ClassId} {A : Nat -> Prop} {xH xB vI uJ rW uQ uP uO tJ jJ mY pG pD pE eO : Nat} {oY rJ pX rO : Int32} {rD : Nat -> Int32} {dN bD bJ aI : Int32} {post : Int32 -> Prop}
def aYj (post : Int32 -> Prop) (K5 : Int32 -> Int32 -> Int32 -> Int32 -> Prop) (rD : Nat -> Int32) (bD x1 x2 x3 x4 : Int32) : Prop := ∀ v_1 : Int32, v_1 = x4 + 1 -> K5 x1 x2 x3 v_1
set_option maxHeartbeats 4000000 in
set_option maxRecDepth 100000 in
theorem ks_X5_smallestCover_45 (C0 : gc aDa (some .int) 5 RX5 (dC, dI) (tyl cI cC cZ cB cJ) A p s m args meth c) {K5 : Int32 -> Int32 -> Int32 -> Int32 -> Prop} (hK5 : ∀ (x1 : Int32) (x2 : Int32) (x3 : Int32) (x4 : Int32) (H : Heap) (locs : List Loc) (ls : Array Slot), K5 x1 x2 x3 x4 -> va_P (dC, dI) classes (aFh cI cC cZ cB cJ xH xB vI uJ rW uQ uP uO tJ jJ mY pG pD pE eO oY rJ pX rO rD dN bD bJ aI) H -> va_D A (aFh cI cC cZ cB cJ xH xB vI uJ rW uQ uP uO tJ jJ mY pG pD pE eO oY rJ pX rO rD dN bD bJ aI) -> va_S A s.heap H locs -> lv_has ls 5 [(0, .ref xH), (1, .int x1), (2, .int x2), (3, .int x3), (4, .int x4)] -> W p l e rm_X5_smallestCover s m args below meth c H locs 0 0 (MQ below (q_X5_smallestCover dC dI cI cC cZ cB cJ A xH xB vI uJ rW uQ uP uO tJ jJ mY pG pD pE eO oY rJ pX rO rD dN bD bJ aI post) args s 0 0 A) (F0 m 5 ls [])) : ∀ (x1 x2 x3 x4 : Int32) (H : Heap) (locs : List Loc) (ls : Array Slot), (aYj post K5 rD bD) x1 x2 x3 x4 -> va_P (dC, dI) classes (aFh cI cC cZ cB cJ xH xB vI uJ rW uQ uP uO tJ jJ mY pG pD pE eO oY rJ pX rO rD dN bD bJ aI) H -> va_D A (aFh cI cC cZ cB cJ xH xB vI uJ rW uQ uP uO tJ jJ mY pG pD pE eO oY rJ pX rO rD dN bD bJ aI) -> va_S A s.heap H locs -> lv_has ls 5 [(0, .ref xH), (1, .int x1), (2, .int x2), (3, .int x3), (4, .int x4)] -> W p l e rm_X5_smallestCover s m args below meth c H locs 0 0 (MQ below (q_X5_smallestCover dC dI cI cC cZ cB cJ A xH xB vI uJ rW uQ uP uO tJ jJ mY pG pD pE eO oY rJ pX rO rD dN bD bJ aI post) args s 0 0 A) (F0 m 45 ls []) := by
  obtain ⟨hx, hb, hr, hml, hown, hts, hlocks, hA, hK, hN, tL, tM, hZL, hTL, hZM, hTM, hZX⟩ := id C0
  intro x1 x2 x3 x4 H locs ls hp hP hD hS hl
  unfold aYj at hp
  obtain ⟨v_1, aFJ⟩ : ∃ y : Int32, y = x4 + 1 := ⟨_, rfl⟩
  refine lv_iinc (v := v_1) (lv' := [(4, .int v_1), (0, .ref xH), (1, .int x1), (2, .int x2), (3, .int x3)]) hx hb aI1.2.2.2.2.2.2.2.2.2.2.2.1 hl (k := 4) rfl (by rw [aFJ]; rfl) (by decide) rfl (fun ls hl => ?_)
  have hp := hp v_1 aFJ
  refine lv_goto (tgt := 5) hx hb aI1.2.2.2.2.2.2.2.2.2.2.2.2.1 (by decide) ?_
  exact hK5 x1 x2 x3 v_1 H locs ls hp hP hD hS (lv_sub hl [1, 2, 3, 4, 0] rfl)
def ws_X5_smallestCover_5 (post : Int32 -> Prop) (next : Int32 -> Int32 -> Int32 -> Int32 -> Prop) (rD : Nat -> Int32) (bD x1 x2 x3 x4 : Int32) : Prop := (x2 <= x4 -> post x3) /\ (¬ x2 <= x4 -> (¬ (x4 &&& (x2 ^^^ (-1))) = 0 -> aYj post next rD bD x1 x2 x3 x4) /\ ((x4 &&& (x2 ^^^ (-1))) = 0 -> aPV (fun r_2 => (¬ (x1 &&& (r_2 ^^^ (-1))) = 0 -> aYj post next rD bD x1 x2 x3 x4) /\ ((x1 &&& (r_2 ^^^ (-1))) = 0 -> wp_X5_isEarlier (fun r_3 => (r_3 = 0 -> aYj post next rD bD x1 x2 x3 x4) /\ (¬ r_3 = 0 -> aYj post next rD bD x1 x2 x4 x4)) x4 x3)) x4 rD bD))
noncomputable def wb_X5_smallestCover_5 (post : Int32 -> Prop) (rD : Nat -> Int32) (bD : Int32) : Nat -> Int32 -> Int32 -> Int32 -> Int32 -> Prop := fun n => Nat.rec (motive := fun _ => Int32 -> Int32 -> Int32 -> Int32 -> Prop) (fun _ _ _ _ => False) (fun _ ih => ws_X5_smallestCover_5 post ih rD bD) n
set_option maxHeartbeats 4000000 in
set_option maxRecDepth 100000 in
theorem ks_X5_smallestCover_5 (C0 : gc aDa (some .int) 5 RX5 (dC, dI) (tyl cI cC cZ cB cJ) A p s m args meth c) {next : Int32 -> Int32 -> Int32 -> Int32 -> Prop} (hKn : ∀ (x1 : Int32) (x2 : Int32) (x3 : Int32) (x4 : Int32) (H : Heap) (locs : List Loc) (ls : Array Slot), next x1 x2 x3 x4 -> va_P (dC, dI) classes (aFh cI cC cZ cB cJ xH xB vI uJ rW uQ uP uO tJ jJ mY pG pD pE eO oY rJ pX rO rD dN bD bJ aI) H -> va_D A (aFh cI cC cZ cB cJ xH xB vI uJ rW uQ uP uO tJ jJ mY pG pD pE eO oY rJ pX rO rD dN bD bJ aI) -> va_S A s.heap H locs -> lv_has ls 5 [(0, .ref xH), (1, .int x1), (2, .int x2), (3, .int x3), (4, .int x4)] -> W p l e rm_X5_smallestCover s m args below meth c H locs 0 0 (MQ below (q_X5_smallestCover dC dI cI cC cZ cB cJ A xH xB vI uJ rW uQ uP uO tJ jJ mY pG pD pE eO oY rJ pX rO rD dN bD bJ aI post) args s 0 0 A) (F0 m 5 ls [])) : ∀ (x1 x2 x3 x4 : Int32) (H : Heap) (locs : List Loc) (ls : Array Slot), (ws_X5_smallestCover_5 post next rD bD) x1 x2 x3 x4 -> va_P (dC, dI) classes (aFh cI cC cZ cB cJ xH xB vI uJ rW uQ uP uO tJ jJ mY pG pD pE eO oY rJ pX rO rD dN bD bJ aI) H -> va_D A (aFh cI cC cZ cB cJ xH xB vI uJ rW uQ uP uO tJ jJ mY pG pD pE eO oY rJ pX rO rD dN bD bJ aI) -> va_S A s.heap H locs -> lv_has ls 5 [(0, .ref xH), (1, .int x1), (2, .int x2), (3, .int x3), (4, .int x4)] -> W p l e rm_X5_smallestCover s m args below meth c H locs 0 0 (MQ below (q_X5_smallestCover dC dI cI cC cZ cB cJ A xH xB vI uJ rW uQ uP uO tJ jJ mY pG pD pE eO oY rJ pX rO rD dN bD bJ aI post) args s 0 0 A) (F0 m 5 ls []) := by
  obtain ⟨hx, hb, hr, hml, hown, hts, hlocks, hA, hK, hN, tL, tM, hZL, hTL, hZM, hTM, hZX⟩ := id C0
  intro x1 x2 x3 x4 H locs ls hp hP hD hS hl
  unfold ws_X5_smallestCover_5 at hp
  refine lv_iload hx hb aIw.2.2.2.2.1 (lv_at hl 4 rfl) ?_
  refine lv_iload_n hx hb aIw.2.2.2.2.2.1 rfl (lv_at hl 2 rfl) ?_
  refine lv_icmp_ge (tgt := 51) hx hb aIw.2.2.2.2.2.2.1 (by decide) (fun hc => ?_) (fun hc => ?_)
  · have hp := hp.1 hc
    refine lv_iload_n hx hb aI1.2.2.2.2.2.2.2.2.2.2.2.2.2.1 rfl (lv_at hl 3 rfl) ?_
    exact W.iret (v := x3) hx hb hr (fun t ht hW => ⟨⟨x3, (), rfl, hp, by rw [ht]; exact hP, va_K.moved hW.alike hK, hD⟩, hS.F ht⟩) hS.2.2 aI1.2.2.2.2.2.2.2.2.2.2.2.2.2.2
  · have hp := hp.2 hc
    refine lv_iload hx hb aIw.2.2.2.2.2.2.2.1 (lv_at hl 4 rfl) ?_
    refine lv_iload_n hx hb aIw.2.2.2.2.2.2.2.2.1 rfl (lv_at hl 2 rfl) ?_
    refine lv_iconst (v := (-1)) hx hb aIw.2.2.2.2.2.2.2.2.2.1 aEJ ?_
    refine lv_ixor hx hb aIw.2.2.2.2.2.2.2.2.2.2.1 ?_
    refine lv_iand hx hb aIw.2.2.2.2.2.2.2.2.2.2.2.1 ?_
    refine lv_if_ne (tgt := 45) hx hb aIw.2.2.2.2.2.2.2.2.2.2.2.2.1 (by decide) (fun hc => ?_) (fun hc => ?_)
    · have hp := hp.1 hc
      exact ks_X5_smallestCover_45 C0 hKn x1 x2 x3 x4 H locs ls hp hP hD hS (lv_sub hl [0, 1, 2, 3, 4] rfl)
    · have hp := hp.2 hc
      refine lv_iload_n hx hb aIw.2.2.2.2.2.2.2.2.2.2.2.2.2.1 rfl (lv_at hl 1 rfl) ?_
      refine lv_aload_n hx hb aIw.2.2.2.2.2.2.2.2.2.2.2.2.2.2.1 rfl (lv_at hl 0 rfl) ?_
      refine lv_iload hx hb aIw.2.2.2.2.2.2.2.2.2.2.2.2.2.2.2 (lv_at hl 4 rfl) ?_
      have hm := mgk (wc := (aHK cI cC cZ cB cJ xH xB vI uJ rW uQ uP uO tJ jJ mY pG pD pE eO oY rJ pX rO rD dN bD bJ aI)) hP mk_85 3 rfl rfl rfl
      refine yW hP hD hS hA (yS mk_85) (aAi mk_85) hm.1 hm.2 (aAk _) (zW _) (zF (As := [.int x4]) (rest := [.int x1]) C0 hP hD hS (yS mk_85) hm.1 (aAl _) 0 5 rfl rfl (c_X5_reachedBy l dC dI cI cC cZ cB cJ xH xB vI uJ rW uQ uP uO tJ jJ mY pG pD pE eO H.size x4 oY rJ pX rO rD dN bD bJ aI _ hp) q_430 q_434 q_432 q_433 aRn h_X5_reachedBy rfl rfl ⟨lbz rfl, lbz rfl⟩ rfl rfl hl.1 rfl (lv_room (lbz rfl)) aI1.1 ⟨Nat.zero_le _, Nat.zero_le _⟩) (fun r_2 u H locs hp hP hD hS => ?_)
      have hPD := PDm (ws' := (aFh cI cC cZ cB cJ xH xB vI uJ rW uQ uP uO tJ jJ mY pG pD pE eO oY rJ pX rO rD dN bD bJ aI)) hP hD 3 rfl rfl rfl
      have hP := hPD.1
      have hD := hPD.2
      refine lv_iconst (v := (-1)) hx hb aI1.2.1 aEJ ?_
      refine lv_ixor hx hb aI1.2.2.1 ?_
      refine lv_iand hx hb aI1.2.2.2.1 ?_
      refine lv_if_ne (tgt := 45) hx hb aI1.2.2.2.2.1 (by decide) (fun hc => ?_) (fun hc => ?_)
      · have hp := hp.1 hc
        exact ks_X5_smallestCover_45 C0 hKn x1 x2 x3 x4 H locs ls hp hP hD hS (lv_sub hl [0, 1, 2, 3, 4] rfl)
      · have hp := hp.2 hc
        refine lv_iload hx hb aI1.2.2.2.2.2.1 (lv_at hl 4 rfl) ?_
        refine lv_iload_n hx hb aI1.2.2.2.2.2.2.1 rfl (lv_at hl 3 rfl) ?_
        have hm := mgk (wc := (wd_X5_isEarlier cI cC cZ cB cJ)) hP mk_20 3 rfl rfl rfl
        refine yW hP hD hS hA (yS mk_20) (aAi mk_20) hm.1 hm.2 (aAk _) (zW _) (aDn (As := [.int x4, .int x3]) (rest := []) C0 hP hD hS (yS mk_20) hm.1 (aAl _) (c_X5_isEarlier l dC dI cI cC cZ cB cJ H.size x4 x3 _ hp) q_458 q_460 q_459 aRn h_X5_isEarlier rfl rfl ⟨lbz rfl, lbz rfl⟩ rfl rfl hl.1 rfl (lv_room (lbz rfl)) aI1.2.2.2.2.2.2.2.1 ⟨Nat.zero_le _, Nat.zero_le _⟩) (fun r_3 u H locs hp hP hD hS => ?_)
        have hPD := PDm (ws' := (aFh cI cC cZ cB cJ xH xB vI uJ rW uQ uP uO tJ jJ mY pG pD pE eO oY rJ pX rO rD dN bD bJ aI)) hP hD 3 rfl rfl rfl
        have hP := hPD.1
        have hD := hPD.2
        refine lv_if_eq (tgt := 45) hx hb aI1.2.2.2.2.2.2.2.2.1 (by decide) (fun hc => ?_) (fun hc => ?_)
        · have hp := hp.1 hc
          exact ks_X5_smallestCover_45 C0 hKn x1 x2 x3 x4 H locs ls hp hP hD hS (lv_sub hl [0, 1, 2, 3, 4] rfl)
        · have hp := hp.2 hc
          refine lv_iload hx hb aI1.2.2.2.2.2.2.2.2.2.1 (lv_at hl 4 rfl) ?_
          refine lv_istore_n (lv' := [(3, .int x4), (0, .ref xH), (1, .int x1), (2, .int x2), (4, .int x4)]) hx hb aI1.2.2.2.2.2.2.2.2.2.2.1 rfl hl (by decide) rfl (fun ls hl => ?_)
          exact ks_X5_smallestCover_45 C0 hKn x1 x2 x4 x4 H locs ls hp hP hD hS (lv_sub hl [1, 2, 3, 0, 4] rfl)
set_option maxHeartbeats 4000000 in
set_option maxRecDepth 100000 in
theorem kb_X5_smallestCover_5 (C0 : gc aDa (some .int) 5 RX5 (dC, dI) (tyl cI cC cZ cB cJ) A p s m args meth c) : ∀ (n : Nat), ∀ (x1 x2 x3 x4 : Int32) (H : Heap) (locs : List Loc) (ls : Array Slot), (wb_X5_smallestCover_5 post rD bD n) x1 x2 x3 x4 -> va_P (dC, dI) classes (aFh cI cC cZ cB cJ xH xB vI uJ rW uQ uP uO tJ jJ mY pG pD pE eO oY rJ pX rO rD dN bD bJ aI) H -> va_D A (aFh cI cC cZ cB cJ xH xB vI uJ rW uQ uP uO tJ jJ mY pG pD pE eO oY rJ pX rO rD dN bD bJ aI) -> va_S A s.heap H locs -> lv_has ls 5 [(0, .ref xH), (1, .int x1), (2, .int x2), (3, .int x3), (4, .int x4)] -> W p l e rm_X5_smallestCover s m args below meth c H locs 0 0 (MQ below (q_X5_smallestCover dC dI cI cC cZ cB cJ A xH xB vI uJ rW uQ uP uO tJ jJ mY pG pD pE eO oY rJ pX rO rD dN bD bJ aI post) args s 0 0 A) (F0 m 5 ls []) := by
  intro n
  induction n with
  | zero =>
    intro x1 x2 x3 x4 H locs ls hp
    exact False.elim hp
  | succ n ih =>
    intro x1 x2 x3 x4 H locs ls hp
    exact ks_X5_smallestCover_5 C0 ih x1 x2 x3 x4 H locs ls hp
end S_X5_smallestCover
def aXB (post : Int32 -> Prop) (p0 p1 : Int32) (rD : Nat -> Int32) (bD : Int32) : Prop := ∃ n : Nat, wb_X5_smallestCover_5 post rD bD n p0 p1 p1 0
set_option maxHeartbeats 4000000 in
set_option maxRecDepth 100000 in
theorem c_X5_smallestCover (l : Launch) (dC : Nat -> ClassId) (dI : Nat -> Nat -> Nat) (cI cC cZ cB cJ : ClassId) (xH xB vI uJ rW uQ uP uO tJ jJ mY pG pD pE eO sz : Nat) (p0 p1 oY rJ pX rO : Int32) (rD : Nat -> Int32) (dN bD bJ aI : Int32) (post : Int32 -> Prop) (hw : aXB post p0 p1 rD bD) : Met l aYI (gw aYI aDa 5 (some .int)) rm_X5_smallestCover (va_Pc [.ref xH, .int p0, .int p1] (gPre (dC, dI) (tyl cI cC cZ cB cJ) (aFh cI cC cZ cB cJ xH xB vI uJ rW uQ uP uO tJ jJ mY pG pD pE eO oY rJ pX rO rD dN bD bJ aI) sz)) (q_X5_smallestCover dC dI cI cC cZ cB cJ (va_A (aFh cI cC cZ cB cJ xH xB vI uJ rW uQ uP uO tJ jJ mY pG pD pE eO oY rJ pX rO rD dN bD bJ aI) sz) xH xB vI uJ rW uQ uP uO tJ jJ mY pG pD pE eO oY rJ pX rO rD dN bD bJ aI post) 0 0 (va_A (aFh cI cC cZ cB cJ xH xB vI uJ rW uQ uP uO tJ jJ mY pG pD pE eO oY rJ pX rO rD dN bD bJ aI) sz) := by
  refine aBJ (own := RX5) (dC, dI) (tyl cI cC cZ cB cJ) (aFh cI cC cZ cB cJ xH xB vI uJ rW uQ uP uO tJ jJ mY pG pD pE eO oY rJ pX rO rD dN bD bJ aI) sz [.ref xH, .int p0, .int p1] (fun A => q_X5_smallestCover dC dI cI cC cZ cB cJ A xH xB vI uJ rW uQ uP uO tJ jJ mY pG pD pE eO oY rJ pX rO rD dN bD bJ aI post) pn_RX5 rfl (lbz rfl) ?_
  intro p e s m args below meth c A H locs ls C0 hP hD hS hl
  have hl : lv_has ls 5 [(0, .ref xH), (1, .int p0), (2, .int p1)] := hl
  obtain ⟨hx, hb, hr, hml, hown, hts, hlocks, hA, hK, hN, tL, tM, hZL, hTL, hZM, hTM, hZX⟩ := id C0
  have hp := hw
  unfold aXB at hp
  refine lv_iload_n hx hb aIw.1 rfl (lv_at hl 2 rfl) ?_
  refine lv_istore_n (lv' := [(3, .int p1), (0, .ref xH), (1, .int p0), (2, .int p1)]) hx hb aIw.2.1 rfl hl (by decide) rfl (fun ls hl => ?_)
  refine lv_iconst (v := 0) hx hb aIw.2.2.1 aCi ?_
  refine lv_istore (lv' := [(4, .int 0), (3, .int p1), (0, .ref xH), (1, .int p0), (2, .int p1)]) hx hb aIw.2.2.2.1 hl (by decide) rfl (fun ls hl => ?_)
  obtain ⟨n9, hp⟩ := hp
  exact kb_X5_smallestCover_5 C0 n9 p0 p1 p1 0 H locs ls hp hP hD hS (lv_sub hl [2, 3, 4, 1, 0] rfl)
abbrev aIc (cI cC cZ cB cJ : ClassId) (a_x xI xH xB vI wY xX yA xY uD rG : Nat) (qB : Int32) (jK : Nat -> Int32) : va_W := [(a_x, .inr (9, [.ref xI, .ref xH, .ref xB, .ref vI, .ref wY, .ref xX, .ref yA, .ref xY, .ref uD])), (yA, .inr (6, [.ref rG, .int qB])), (rG, .inl (cI, 16, .inl jK))]
abbrev q_X9_tellMembers (dC : Nat -> ClassId) (dI : Nat -> Nat -> Nat) (cI cC cZ cB cJ : ClassId) (A : Nat -> Prop) (a_x xI xH xB vI wY xX yA xY uD rG : Nat) (post : Int32 -> Int32 -> (Nat -> Int32) -> Prop) : Array Value -> State -> Outcome -> State -> Prop := va_Qi (fun (r : Int32) (u : Int32 × (Nat -> Int32)) => post r u.1 u.2) (fun u t => gB (dC, dI) (tyl cI cC cZ cB cJ) A (aIc cI cC cZ cB cJ a_x xI xH xB vI wY xX yA xY uD rG u.1 u.2) t) A
abbrev rm_X9_tellMembers : Room := { frames := 1, cells := 0, slots := 0, locals := 21 }
section S_X9_tellMembers
variable {p : Program} {l : Launch} {e : Env} {s : State} {m : MethodId} {args : Array Value} {below : List Frame} {meth : Method} {c : Code} {dC : Nat -> ClassId} {dI : Nat -> Nat -> Nat} {cI cC cZ cB cJ : ClassId} {A : Nat -> Prop} {a_x xI xH xB vI wY xX yA xY uD rG : Nat} {post : Int32 -> Int32 -> (Nat -> Int32) -> Prop}
def ws_X9_tellMembers_31 (post : Int32 -> Int32 -> (Nat -> Int32) -> Prop) (K9 : Int32 -> Int32 -> Int32 -> (Nat -> Int32) -> Prop) (x1 x2 qB : Int32) (jK : Nat -> Int32) : Prop := ∀ v_3 : Int32, v_3 = x2 + 1 -> K9 x1 v_3 qB jK
set_option maxHeartbeats 4000000 in
set_option maxRecDepth 100000 in
theorem ks_X9_tellMembers_31 (C0 : gc aF2 (some .int) 3 RX9 (dC, dI) (tyl cI cC cZ cB cJ) A p s m args meth c) {K9 : Int32 -> Int32 -> Int32 -> (Nat -> Int32) -> Prop} (hK9 : ∀ (x1 : Int32) (x2 : Int32) (qB : Int32) (jK : Nat -> Int32) (H : Heap) (locs : List Loc) (ls : Array Slot), K9 x1 x2 qB jK -> va_P (dC, dI) classes (aIc cI cC cZ cB cJ a_x xI xH xB vI wY xX yA xY uD rG qB jK) H -> va_D A (aIc cI cC cZ cB cJ a_x xI xH xB vI wY xX yA xY uD rG qB jK) -> va_S A s.heap H locs -> lv_has ls 3 [(0, .ref a_x), (1, .int x1), (2, .int x2)] -> W p l e rm_X9_tellMembers s m args below meth c H locs 0 0 (MQ below (q_X9_tellMembers dC dI cI cC cZ cB cJ A a_x xI xH xB vI wY xX yA xY uD rG post) args s 0 0 A) (F0 m 9 ls [])) : ∀ (x1 x2 qB : Int32) (jK : Nat -> Int32) (H : Heap) (locs : List Loc) (ls : Array Slot), (ws_X9_tellMembers_31 post K9) x1 x2 qB jK -> va_P (dC, dI) classes (aIc cI cC cZ cB cJ a_x xI xH xB vI wY xX yA xY uD rG qB jK) H -> va_D A (aIc cI cC cZ cB cJ a_x xI xH xB vI wY xX yA xY uD rG qB jK) -> va_S A s.heap H locs -> lv_has ls 3 [(0, .ref a_x), (1, .int x1), (2, .int x2)] -> W p l e rm_X9_tellMembers s m args below meth c H locs 0 0 (MQ below (q_X9_tellMembers dC dI cI cC cZ cB cJ A a_x xI xH xB vI wY xX yA xY uD rG post) args s 0 0 A) (F0 m 31 ls []) := by
  obtain ⟨hx, hb, hr, hml, hown, hts, hlocks, hA, hK, hN, tL, tM, hZL, hTL, hZM, hTM, hZX⟩ := id C0
  intro x1 x2 qB jK H locs ls hp hP hD hS hl
  unfold ws_X9_tellMembers_31 at hp
  obtain ⟨v_3, aGW⟩ : ∃ y : Int32, y = x2 + 1 := ⟨_, rfl⟩
  refine lv_iinc (v := v_3) (lv' := [(2, .int v_3), (0, .ref a_x), (1, .int x1)]) hx hb bBg.2.2.1 hl (k := 2) rfl (by rw [aGW]; rfl) (by decide) rfl (fun ls hl => ?_)
  have hp := hp v_3 aGW
  refine lv_goto (tgt := 9) hx hb bBg.2.2.2.1 (by decide) ?_
  exact hK9 x1 v_3 qB jK H locs ls hp hP hD hS (lv_sub hl [1, 2, 0] rfl)
def ws_X9_tellMembers_9 (post : Int32 -> Int32 -> (Nat -> Int32) -> Prop) (next : Int32 -> Int32 -> Int32 -> (Nat -> Int32) -> Prop) (x1 x2 qB : Int32) (jK : Nat -> Int32) : Prop := (8 <= x2 -> post qB qB jK) /\ (¬ 8 <= x2 -> ∀ v_2 : Int32, v_2 = x1 >>> (x2 &&& 31) -> ((v_2 &&& 1) = 0 -> ws_X9_tellMembers_31 post next x1 x2 qB jK) /\ (¬ (v_2 &&& 1) = 0 -> wp_X6_add (fun ro_size_4 ro_numbers_5 => ws_X9_tellMembers_31 post next x1 x2 ro_size_4 ro_numbers_5) x2 qB jK))
noncomputable def wb_X9_tellMembers_9 (post : Int32 -> Int32 -> (Nat -> Int32) -> Prop) : Nat -> Int32 -> Int32 -> Int32 -> (Nat -> Int32) -> Prop := fun n => Nat.rec (motive := fun _ => Int32 -> Int32 -> Int32 -> (Nat -> Int32) -> Prop) (fun _ _ _ _ => False) (fun _ ih => ws_X9_tellMembers_9 post ih) n
set_option maxHeartbeats 4000000 in
set_option maxRecDepth 100000 in
theorem ks_X9_tellMembers_9 (C0 : gc aF2 (some .int) 3 RX9 (dC, dI) (tyl cI cC cZ cB cJ) A p s m args meth c) {next : Int32 -> Int32 -> Int32 -> (Nat -> Int32) -> Prop} (hKn : ∀ (x1 : Int32) (x2 : Int32) (qB : Int32) (jK : Nat -> Int32) (H : Heap) (locs : List Loc) (ls : Array Slot), next x1 x2 qB jK -> va_P (dC, dI) classes (aIc cI cC cZ cB cJ a_x xI xH xB vI wY xX yA xY uD rG qB jK) H -> va_D A (aIc cI cC cZ cB cJ a_x xI xH xB vI wY xX yA xY uD rG qB jK) -> va_S A s.heap H locs -> lv_has ls 3 [(0, .ref a_x), (1, .int x1), (2, .int x2)] -> W p l e rm_X9_tellMembers s m args below meth c H locs 0 0 (MQ below (q_X9_tellMembers dC dI cI cC cZ cB cJ A a_x xI xH xB vI wY xX yA xY uD rG post) args s 0 0 A) (F0 m 9 ls [])) : ∀ (x1 x2 qB : Int32) (jK : Nat -> Int32) (H : Heap) (locs : List Loc) (ls : Array Slot), (ws_X9_tellMembers_9 post next) x1 x2 qB jK -> va_P (dC, dI) classes (aIc cI cC cZ cB cJ a_x xI xH xB vI wY xX yA xY uD rG qB jK) H -> va_D A (aIc cI cC cZ cB cJ a_x xI xH xB vI wY xX yA xY uD rG qB jK) -> va_S A s.heap H locs -> lv_has ls 3 [(0, .ref a_x), (1, .int x1), (2, .int x2)] -> W p l e rm_X9_tellMembers s m args below meth c H locs 0 0 (MQ below (q_X9_tellMembers dC dI cI cC cZ cB cJ A a_x xI xH xB vI wY xX yA xY uD rG post) args s 0 0 A) (F0 m 9 ls []) := by
  obtain ⟨hx, hb, hr, hml, hown, hts, hlocks, hA, hK, hN, tL, tM, hZL, hTL, hZM, hTM, hZX⟩ := id C0
  intro x1 x2 qB jK H locs ls hp hP hD hS hl
  unfold ws_X9_tellMembers_9 at hp
  refine lv_iload_n hx hb aK4.2.2.2.2.2.1 rfl (lv_at hl 2 rfl) ?_
  refine lv_bipush (v := 8) hx hb aK4.2.2.2.2.2.2.1 bp_8 ?_
  refine lv_icmp_ge (tgt := 37) hx hb aK4.2.2.2.2.2.2.2.1 (by decide) (fun hc => ?_) (fun hc => ?_)
  · have hp := hp.1 hc
    refine lv_aload_n hx hb bBg.2.2.2.2.1 rfl (lv_at hl 0 rfl) ?_
    refine va_get (D := (dC, dI)) (ci := 9) (v := .ref yA) (C := RX9) (T := TX9) (N := 9) hx hb hts aC3 hown hK hP 0 rfl rfl 6 (lbz rfl) (hts _ q_363) (fun _ h9 => h9) rfl bBg.2.2.2.2.2.1 ?_
    refine va_get (D := (dC, dI)) (ci := 6) (v := .int qB) (C := RX6) (T := TX6) (N := 2) hx hb hts i_X6 hown hK hP 1 rfl rfl 1 (lbz rfl) (hts _ q_461) (fun _ h9 => h9) rfl bBg.2.2.2.2.2.2.1 ?_
    exact W.iret (v := qB) hx hb hr (fun t ht hW => ⟨⟨qB, (qB, jK), rfl, hp, by rw [ht]; exact hP, va_K.moved hW.alike hK, hD⟩, hS.F ht⟩) hS.2.2 bBg.2.2.2.2.2.2.2
  · have hp := hp.2 hc
    refine lv_iload_n hx hb aK4.2.2.2.2.2.2.2.2.1 rfl (lv_at hl 1 rfl) ?_
    refine lv_iload_n hx hb aK4.2.2.2.2.2.2.2.2.2.1 rfl (lv_at hl 2 rfl) ?_
    refine lv_ishr hx hb aK4.2.2.2.2.2.2.2.2.2.2.1 ?_
    refine lv_topi (fun v_2 aGO => ?_)
    have hp := hp v_2 aGO
    refine lv_iconst (v := 1) hx hb aK4.2.2.2.2.2.2.2.2.2.2.2.1 aDx ?_
    refine lv_iand hx hb aK4.2.2.2.2.2.2.2.2.2.2.2.2.1 ?_
    refine lv_if_eq (tgt := 31) hx hb aK4.2.2.2.2.2.2.2.2.2.2.2.2.2.1 (by decide) (fun hc => ?_) (fun hc => ?_)
    · have hp := hp.1 hc
      exact ks_X9_tellMembers_31 C0 hKn x1 x2 qB jK H locs ls hp hP hD hS (lv_sub hl [0, 1, 2] rfl)
    · have hp := hp.2 hc
      refine lv_aload_n hx hb aK4.2.2.2.2.2.2.2.2.2.2.2.2.2.2.1 rfl (lv_at hl 0 rfl) ?_
      refine va_get (D := (dC, dI)) (ci := 9) (v := .ref yA) (C := RX9) (T := TX9) (N := 9) hx hb hts aC3 hown hK hP 0 rfl rfl 6 (lbz rfl) (hts _ q_363) (fun _ h9 => h9) rfl aK4.2.2.2.2.2.2.2.2.2.2.2.2.2.2.2 ?_
      refine lv_iload_n hx hb bBg.1 rfl (lv_at hl 2 rfl) ?_
      have hm := mgk (wc := (wd_X6_add cI cC cZ cB cJ yA rG qB jK)) hP mk_0 3 rfl rfl rfl
      refine aBn hP hD hS hA (yS mk_0) (aAi mk_0) hm.1 hm.2 (aAk _) (zW _) (zF (As := [.int x2]) (rest := []) C0 hP hD hS (yS mk_0) hm.1 (aAl _) 1 6 rfl rfl (c_X6_add l dC dI cI cC cZ cB cJ yA rG H.size x2 qB jK _ hp) q_369 q_372 q_370 q_371 q_365 h_X6_add rfl rfl ⟨lbz rfl, lbz rfl⟩ rfl rfl hl.1 rfl (lv_room (lbz rfl)) bBg.2.1 ⟨Nat.zero_le _, Nat.zero_le _⟩) (fun u H locs hp hP hD hS => ?_)
      obtain ⟨ro_size_4, ro_numbers_5⟩ := u
      have hPD := PDm (ws' := (aIc cI cC cZ cB cJ a_x xI xH xB vI wY xX yA xY uD rG ro_size_4 ro_numbers_5)) hP hD 3 rfl rfl rfl
      have hP := hPD.1
      have hD := hPD.2
      exact ks_X9_tellMembers_31 C0 hKn x1 x2 ro_size_4 ro_numbers_5 H locs ls hp hP hD hS (lv_sub hl [0, 1, 2] rfl)
set_option maxHeartbeats 4000000 in
set_option maxRecDepth 100000 in
theorem kb_X9_tellMembers_9 (C0 : gc aF2 (some .int) 3 RX9 (dC, dI) (tyl cI cC cZ cB cJ) A p s m args meth c) : ∀ (n : Nat), ∀ (x1 x2 qB : Int32) (jK : Nat -> Int32) (H : Heap) (locs : List Loc) (ls : Array Slot), (wb_X9_tellMembers_9 post n) x1 x2 qB jK -> va_P (dC, dI) classes (aIc cI cC cZ cB cJ a_x xI xH xB vI wY xX yA xY uD rG qB jK) H -> va_D A (aIc cI cC cZ cB cJ a_x xI xH xB vI wY xX yA xY uD rG qB jK) -> va_S A s.heap H locs -> lv_has ls 3 [(0, .ref a_x), (1, .int x1), (2, .int x2)] -> W p l e rm_X9_tellMembers s m args below meth c H locs 0 0 (MQ below (q_X9_tellMembers dC dI cI cC cZ cB cJ A a_x xI xH xB vI wY xX yA xY uD rG post) args s 0 0 A) (F0 m 9 ls []) := by
  intro n
  induction n with
  | zero =>
    intro x1 x2 qB jK H locs ls hp
    exact False.elim hp
  | succ n ih =>
    intro x1 x2 qB jK H locs ls hp
    exact ks_X9_tellMembers_9 C0 ih x1 x2 qB jK H locs ls hp
end S_X9_tellMembers
def wp_X9_tellMembers (post : Int32 -> Int32 -> (Nat -> Int32) -> Prop) (p0 qB : Int32) (jK : Nat -> Int32) : Prop := wp_X6_clear (fun aKV => ∃ n : Nat, wb_X9_tellMembers_9 post n p0 0 aKV jK) qB
set_option maxHeartbeats 4000000 in
set_option maxRecDepth 100000 in
theorem c_X9_tellMembers (l : Launch) (dC : Nat -> ClassId) (dI : Nat -> Nat -> Nat) (cI cC cZ cB cJ : ClassId) (a_x xI xH xB vI wY xX yA xY uD rG sz : Nat) (p0 qB : Int32) (jK : Nat -> Int32) (post : Int32 -> Int32 -> (Nat -> Int32) -> Prop) (hw : wp_X9_tellMembers post p0 qB jK) : Met l aZK (gw aZK aF2 3 (some .int)) rm_X9_tellMembers (va_Pc [.ref a_x, .int p0] (gPre (dC, dI) (tyl cI cC cZ cB cJ) (aIc cI cC cZ cB cJ a_x xI xH xB vI wY xX yA xY uD rG qB jK) sz)) (q_X9_tellMembers dC dI cI cC cZ cB cJ (va_A (aIc cI cC cZ cB cJ a_x xI xH xB vI wY xX yA xY uD rG qB jK) sz) a_x xI xH xB vI wY xX yA xY uD rG post) 0 0 (va_A (aIc cI cC cZ cB cJ a_x xI xH xB vI wY xX yA xY uD rG qB jK) sz) := by
  refine aBJ (own := RX9) (dC, dI) (tyl cI cC cZ cB cJ) (aIc cI cC cZ cB cJ a_x xI xH xB vI wY xX yA xY uD rG qB jK) sz [.ref a_x, .int p0] (fun A => q_X9_tellMembers dC dI cI cC cZ cB cJ A a_x xI xH xB vI wY xX yA xY uD rG post) pn_RX9 rfl (lbz rfl) ?_
  intro p e s m args below meth c A H locs ls C0 hP hD hS hl
  have hl : lv_has ls 3 [(0, .ref a_x), (1, .int p0)] := hl
  obtain ⟨hx, hb, hr, hml, hown, hts, hlocks, hA, hK, hN, tL, tM, hZL, hTL, hZM, hTM, hZX⟩ := id C0
  have hp := hw
  unfold wp_X9_tellMembers at hp
  refine lv_aload_n hx hb aK4.1 rfl (lv_at hl 0 rfl) ?_
  refine va_get (D := (dC, dI)) (ci := 9) (v := .ref yA) (C := RX9) (T := TX9) (N := 9) hx hb hts aC3 hown hK hP 0 rfl rfl 6 (lbz rfl) (hts _ q_363) (fun _ h9 => h9) rfl aK4.2.1 ?_
  have hm := mgk (wc := (wd_X6_clear cI cC cZ cB cJ yA rG qB)) hP mk_31 3 rfl rfl rfl
  refine aBn hP hD hS hA (yS mk_31) (aAi mk_31) hm.1 hm.2 (aAk _) (zW _) (zF (As := []) (rest := []) C0 hP hD hS (yS mk_31) hm.1 (aAl _) 1 6 rfl rfl (c_X6_clear l dC dI cI cC cZ cB cJ yA rG H.size qB _ hp) q_364 q_368 q_366 q_367 q_365 h_X6_clear rfl rfl ⟨lbz rfl, lbz rfl⟩ rfl rfl hl.1 rfl (lv_room (lbz rfl)) aK4.2.2.1 ⟨Nat.zero_le _, Nat.zero_le _⟩) (fun u H locs hp hP hD hS => ?_)
  obtain ⟨aKV, rfl⟩ : ∃ z, z = u := ⟨_, rfl⟩
  have hPD := PDm (ws' := (aIc cI cC cZ cB cJ a_x xI xH xB vI wY xX yA xY uD rG aKV jK)) hP hD 3 rfl rfl rfl
  have hP := hPD.1
  have hD := hPD.2
  refine lv_iconst (v := 0) hx hb aK4.2.2.2.1 aCi ?_
  refine lv_istore_n (lv' := [(2, .int 0), (0, .ref a_x), (1, .int p0)]) hx hb aK4.2.2.2.2.1 rfl hl (by decide) rfl (fun ls hl => ?_)
  obtain ⟨n9, hp⟩ := hp
  exact kb_X9_tellMembers_9 C0 n9 p0 0 aKV jK H locs ls hp hP hD hS (lv_sub hl [1, 2, 0] rfl)
abbrev wd_X9_fewest (cI cC cZ cB cJ : ClassId) (a_x xI xH xB vI wY xX yA xY uD uJ rW uQ uP uO xO tJ jJ mY pG pD pE eO rG : Nat) (oY rJ pX rO : Int32) (rD : Nat -> Int32) (dN bD bJ aI : Int32) (uU gF qF mX oE dY : Nat -> Int32) (jE eW eY dU fY gJ jG nU qB : Int32) (jK : Nat -> Int32) : va_W := [(a_x, .inr (9, [.ref xI, .ref xH, .ref xB, .ref vI, .ref wY, .ref xX, .ref yA, .ref xY, .ref uD])), (xH, .inr (5, [.ref xB, .ref vI, .ref uJ, .ref rW, .ref uQ, .ref uP, .ref uO, .int oY, .int rJ, .int pX, .int rO])), (uJ, .inl (cI, 8, .inl rD)), (xB, .inr (0, [.ref vI, .ref wY, .ref xO])), (vI, .inr (3, [.ref tJ, .ref jJ, .ref mY, .ref pG, .ref pD, .ref pE, .ref eO, .int dN, .int bD, .int bJ, .int aI])), (tJ, .inl (cI, 16, .inl uU)), (jJ, .inl (cI, 16, .inl gF)), (pG, .inl (cI, 16, .inl qF)), (pD, .inl (cI, 8, .inl mX)), (pE, .inl (cI, 8, .inl oE)), (eO, .inl (cI, 5, .inl dY)), (wY, .inr (2, [.int jE, .int eW, .int eY, .int dU, .int fY, .int gJ, .int jG, .int nU])), (yA, .inr (6, [.ref rG, .int qB])), (rG, .inl (cI, 16, .inl jK))]
abbrev q_X9_fewest (dC : Nat -> ClassId) (dI : Nat -> Nat -> Nat) (cI cC cZ cB cJ : ClassId) (A : Nat -> Prop) (a_x xI xH xB vI wY xX yA xY uD uJ rW uQ uP uO xO tJ jJ mY pG pD pE eO rG : Nat) (rJ pX rO dN bD bJ aI : Int32) (uU gF qF mX oE dY : Nat -> Int32) (jE eW eY dU fY gJ jG nU : Int32) (post : Int32 -> Int32 -> (Nat -> Int32) -> Int32 -> (Nat -> Int32) -> Prop) : Array Value -> State -> Outcome -> State -> Prop := va_Qi (fun (r : Int32) (u : Int32 × (Nat -> Int32) × Int32 × (Nat -> Int32)) => post r u.1 u.2.1 u.2.2.1 u.2.2.2) (fun u t => gB (dC, dI) (tyl cI cC cZ cB cJ) A (wd_X9_fewest cI cC cZ cB cJ a_x xI xH xB vI wY xX yA xY uD uJ rW uQ uP uO xO tJ jJ mY pG pD pE eO rG u.1 rJ pX rO u.2.1 dN bD bJ aI uU gF qF mX oE dY jE eW eY dU fY gJ jG nU u.2.2.1 u.2.2.2) t) A
abbrev rm_X9_fewest : Room := { frames := 5, cells := 0, slots := 0, locals := 115 }
def wp_X9_fewest (post : Int32 -> Int32 -> (Nat -> Int32) -> Int32 -> (Nat -> Int32) -> Prop) (oY : Int32) (rD : Nat -> Int32) (dN bD : Int32) (uU gF qF mX oE dY : Nat -> Int32) (jE eW eY gJ jG qB : Int32) (jK : Nat -> Int32) : Prop := aZL (fun aBo aCo => aHs (fun r_3 => aXB (fun r_4 => wp_X9_tellMembers (fun r_5 aKD aF9 => post r_5 aBo aCo aKD aF9) r_4 qB jK) aBo r_3 aCo bD) bD) oY rD dN bD uU gF qF mX oE dY jE eW eY gJ jG
set_option maxHeartbeats 4000000 in
set_option maxRecDepth 100000 in
theorem c_X9_fewest (l : Launch) (dC : Nat -> ClassId) (dI : Nat -> Nat -> Nat) (cI cC cZ cB cJ : ClassId) (a_x xI xH xB vI wY xX yA xY uD uJ rW uQ uP uO xO tJ jJ mY pG pD pE eO rG sz : Nat) (oY rJ pX rO : Int32) (rD : Nat -> Int32) (dN bD bJ aI : Int32) (uU gF qF mX oE dY : Nat -> Int32) (jE eW eY dU fY gJ jG nU qB : Int32) (jK : Nat -> Int32) (post : Int32 -> Int32 -> (Nat -> Int32) -> Int32 -> (Nat -> Int32) -> Prop) (hw : wp_X9_fewest post oY rD dN bD uU gF qF mX oE dY jE eW eY gJ jG qB jK) : Met l yX9_fewest (gw yX9_fewest cX9_fewest 1 (some .int)) rm_X9_fewest (va_Pc [.ref a_x] (gPre (dC, dI) (tyl cI cC cZ cB cJ) (wd_X9_fewest cI cC cZ cB cJ a_x xI xH xB vI wY xX yA xY uD uJ rW uQ uP uO xO tJ jJ mY pG pD pE eO rG oY rJ pX rO rD dN bD bJ aI uU gF qF mX oE dY jE eW eY dU fY gJ jG nU qB jK) sz)) (q_X9_fewest dC dI cI cC cZ cB cJ (va_A (wd_X9_fewest cI cC cZ cB cJ a_x xI xH xB vI wY xX yA xY uD uJ rW uQ uP uO xO tJ jJ mY pG pD pE eO rG oY rJ pX rO rD dN bD bJ aI uU gF qF mX oE dY jE eW eY dU fY gJ jG nU qB jK) sz) a_x xI xH xB vI wY xX yA xY uD uJ rW uQ uP uO xO tJ jJ mY pG pD pE eO rG rJ pX rO dN bD bJ aI uU gF qF mX oE dY jE eW eY dU fY gJ jG nU post) 0 0 (va_A (wd_X9_fewest cI cC cZ cB cJ a_x xI xH xB vI wY xX yA xY uD uJ rW uQ uP uO xO tJ jJ mY pG pD pE eO rG oY rJ pX rO rD dN bD bJ aI uU gF qF mX oE dY jE eW eY dU fY gJ jG nU qB jK) sz) := by
  refine aBJ (own := RX9) (dC, dI) (tyl cI cC cZ cB cJ) (wd_X9_fewest cI cC cZ cB cJ a_x xI xH xB vI wY xX yA xY uD uJ rW uQ uP uO xO tJ jJ mY pG pD pE eO rG oY rJ pX rO rD dN bD bJ aI uU gF qF mX oE dY jE eW eY dU fY gJ jG nU qB jK) sz [.ref a_x] (fun A => q_X9_fewest dC dI cI cC cZ cB cJ A a_x xI xH xB vI wY xX yA xY uD uJ rW uQ uP uO xO tJ jJ mY pG pD pE eO rG rJ pX rO dN bD bJ aI uU gF qF mX oE dY jE eW eY dU fY gJ jG nU post) pn_RX9 rfl (lbz rfl) ?_
  intro p e s m args below meth c A H locs ls C0 hP hD hS hl
  have hl : lv_has ls 1 [(0, .ref a_x)] := hl
  obtain ⟨hx, hb, hr, hml, hown, hts, hlocks, hA, hK, hN, tL, tM, hZL, hTL, hZM, hTM, hZX⟩ := id C0
  have hp := hw
  unfold wp_X9_fewest at hp
  refine lv_aload_n hx hb aYY.1 rfl (lv_at hl 0 rfl) ?_
  refine va_get (D := (dC, dI)) (ci := 9) (v := .ref xH) (C := RX9) (T := TX9) (N := 9) hx hb hts aC3 hown hK hP 0 rfl rfl 1 (lbz rfl) (hts _ aOt) (fun _ h9 => h9) rfl aYY.2.1 ?_
  have hm := mgk (wc := (aVN cI cC cZ cB cJ xH xB vI uJ rW uQ uP uO wY xO tJ jJ mY pG pD pE eO oY rJ pX rO rD dN bD bJ aI uU gF qF mX oE dY jE eW eY dU fY gJ jG nU)) hP aUu 14 rfl rfl rfl
  refine aBn hP hD hS hA (yS aUu) (aAi aUu) hm.1 hm.2 (aAk _) (zW _) (zF (As := []) (rest := []) C0 hP hD hS (yS aUu) hm.1 (aAl _) 1 5 rfl rfl (c_X5_look l dC dI cI cC cZ cB cJ xH xB vI uJ rW uQ uP uO wY xO tJ jJ mY pG pD pE eO H.size oY rJ pX rO rD dN bD bJ aI uU gF qF mX oE dY jE eW eY dU fY gJ jG nU _ hp) q_445 q_448 q_446 q_447 aRn h_X5_look rfl rfl ⟨lbz rfl, lbz rfl⟩ rfl rfl hl.1 rfl (lv_room (lbz rfl)) aYY.2.2.1 ⟨Nat.zero_le _, Nat.zero_le _⟩) (fun u H locs hp hP hD hS => ?_)
  obtain ⟨aBo, aCo⟩ := u
  have hPD := PDm (ws' := (wd_X9_fewest cI cC cZ cB cJ a_x xI xH xB vI wY xX yA xY uD uJ rW uQ uP uO xO tJ jJ mY pG pD pE eO rG aBo rJ pX rO aCo dN bD bJ aI uU gF qF mX oE dY jE eW eY dU fY gJ jG nU qB jK)) hP hD 14 rfl rfl rfl
  have hP := hPD.1
  have hD := hPD.2
  refine lv_aload_n hx hb aYY.2.2.2.1 rfl (lv_at hl 0 rfl) ?_
  refine lv_aload_n hx hb aYY.2.2.2.2.1 rfl (lv_at hl 0 rfl) ?_
  refine va_get (D := (dC, dI)) (ci := 9) (v := .ref xH) (C := RX9) (T := TX9) (N := 9) hx hb hts aC3 hown hK hP 0 rfl rfl 1 (lbz rfl) (hts _ aOt) (fun _ h9 => h9) rfl aYY.2.2.2.2.2.1 ?_
  refine lv_aload_n hx hb aYY.2.2.2.2.2.2.1 rfl (lv_at hl 0 rfl) ?_
  refine va_get (D := (dC, dI)) (ci := 9) (v := .ref xH) (C := RX9) (T := TX9) (N := 9) hx hb hts aC3 hown hK hP 0 rfl rfl 1 (lbz rfl) (hts _ aOt) (fun _ h9 => h9) rfl aYY.2.2.2.2.2.2.2.1 ?_
  refine va_get (D := (dC, dI)) (ci := 5) (v := .int aBo) (C := RX5) (T := TX5) (N := 11) hx hb hts i_X5 hown hK hP 1 rfl rfl 7 (lbz rfl) (hts _ q_462) (fun _ h9 => h9) rfl aYY.2.2.2.2.2.2.2.2.1 ?_
  refine lv_aload_n hx hb aYY.2.2.2.2.2.2.2.2.2.1 rfl (lv_at hl 0 rfl) ?_
  refine va_get (D := (dC, dI)) (ci := 9) (v := .ref vI) (C := RX9) (T := TX9) (N := 9) hx hb hts aC3 hown hK hP 0 rfl rfl 3 (lbz rfl) (hts _ q_74) (fun _ h9 => h9) rfl aYY.2.2.2.2.2.2.2.2.2.2.1 ?_
  have hm := mgk (wc := (aHS cI cC cZ cB cJ vI tJ jJ mY pG pD pE eO dN bD bJ aI)) hP aNG 14 rfl rfl rfl
  refine yW hP hD hS hA (yS aNG) (aAi aNG) hm.1 hm.2 (aAk _) (zW _) (zF (As := []) (rest := [.int aBo, .ref xH, .ref a_x]) C0 hP hD hS (yS aNG) hm.1 (aAl _) 4 3 rfl rfl (aLl l dC dI cI cC cZ cB cJ vI tJ jJ mY pG pD pE eO H.size dN bD bJ aI _ hp) q_426 q_463 q_427 q_428 q_48 aLo rfl rfl ⟨lbz rfl, lbz rfl⟩ rfl rfl hl.1 rfl (lv_room (lbz rfl)) aYY.2.2.2.2.2.2.2.2.2.2.2.1 ⟨Nat.zero_le _, Nat.zero_le _⟩) (fun r_3 u H locs hp hP hD hS => ?_)
  have hPD := PDm (ws' := (wd_X9_fewest cI cC cZ cB cJ a_x xI xH xB vI wY xX yA xY uD uJ rW uQ uP uO xO tJ jJ mY pG pD pE eO rG aBo rJ pX rO aCo dN bD bJ aI uU gF qF mX oE dY jE eW eY dU fY gJ jG nU qB jK)) hP hD 14 rfl rfl rfl
  have hP := hPD.1
  have hD := hPD.2
  have hm := mgk (wc := (aFh cI cC cZ cB cJ xH xB vI uJ rW uQ uP uO tJ jJ mY pG pD pE eO aBo rJ pX rO aCo dN bD bJ aI)) hP mk_123 14 rfl rfl rfl
  refine yW hP hD hS hA (yS mk_123) (aAi mk_123) hm.1 hm.2 (aAk _) (zW _) (zF (As := [.int aBo, .int r_3]) (rest := [.ref a_x]) C0 hP hD hS (yS mk_123) hm.1 (aAl _) 1 5 rfl rfl (c_X5_smallestCover l dC dI cI cC cZ cB cJ xH xB vI uJ rW uQ uP uO tJ jJ mY pG pD pE eO H.size aBo r_3 aBo rJ pX rO aCo dN bD bJ aI _ hp) q_464 q_467 q_465 q_466 aRn h_X5_smallestCover rfl rfl ⟨lbz rfl, lbz rfl⟩ rfl rfl hl.1 rfl (lv_room (lbz rfl)) aYY.2.2.2.2.2.2.2.2.2.2.2.2.1 ⟨Nat.zero_le _, Nat.zero_le _⟩) (fun r_4 u H locs hp hP hD hS => ?_)
  have hPD := PDm (ws' := (wd_X9_fewest cI cC cZ cB cJ a_x xI xH xB vI wY xX yA xY uD uJ rW uQ uP uO xO tJ jJ mY pG pD pE eO rG aBo rJ pX rO aCo dN bD bJ aI uU gF qF mX oE dY jE eW eY dU fY gJ jG nU qB jK)) hP hD 14 rfl rfl rfl
  have hP := hPD.1
  have hD := hPD.2
  have hm := mgk (wc := (aIc cI cC cZ cB cJ a_x xI xH xB vI wY xX yA xY uD rG qB jK)) hP mk_121 14 rfl rfl rfl
  refine yW hP hD hS hA (yS mk_121) (aAi mk_121) hm.1 hm.2 (aAk _) (zW _) (zF (As := [.int r_4]) (rest := []) C0 hP hD hS (yS mk_121) hm.1 (aAl _) 0 9 rfl rfl (c_X9_tellMembers l dC dI cI cC cZ cB cJ a_x xI xH xB vI wY xX yA xY uD rG H.size r_4 qB jK _ hp) q_468 q_471 q_469 q_470 aIl h_X9_tellMembers rfl rfl ⟨lbz rfl, lbz rfl⟩ rfl rfl hl.1 rfl (lv_room (lbz rfl)) aYY.2.2.2.2.2.2.2.2.2.2.2.2.2.1 ⟨Nat.zero_le _, Nat.zero_le _⟩) (fun r_5 u H locs hp hP hD hS => ?_)
  obtain ⟨aKD, aF9⟩ := u
  have hPD := PDm (ws' := (wd_X9_fewest cI cC cZ cB cJ a_x xI xH xB vI wY xX yA xY uD uJ rW uQ uP uO xO tJ jJ mY pG pD pE eO rG aBo rJ pX rO aCo dN bD bJ aI uU gF qF mX oE dY jE eW eY dU fY gJ jG nU aKD aF9)) hP hD 14 rfl rfl rfl
  have hP := hPD.1
  have hD := hPD.2
  exact W.iret (v := r_5) hx hb hr (fun t ht hW => ⟨⟨r_5, (aBo, aCo, aKD, aF9), rfl, hp, by rw [ht]; exact hP, va_K.moved hW.alike hK, hD⟩, hS.F ht⟩) hS.2.2 aYY.2.2.2.2.2.2.2.2.2.2.2.2.2.2
abbrev aPE (cI cC cZ cB cJ : ClassId) (a_x xI xH xB vI wY xX yA xY uD uJ rW uQ uP uO xO tJ jJ mY pG pD pE eO rG : Nat) (oY rJ pX rO : Int32) (rD : Nat -> Int32) (dN bD bJ aI : Int32) (uU gF qF mX oE dY : Nat -> Int32) (jE eW eY dU fY gJ jG nU qB : Int32) (jK : Nat -> Int32) : va_W := [(a_x, .inr (9, [.ref xI, .ref xH, .ref xB, .ref vI, .ref wY, .ref xX, .ref yA, .ref xY, .ref uD])), (xH, .inr (5, [.ref xB, .ref vI, .ref uJ, .ref rW, .ref uQ, .ref uP, .ref uO, .int oY, .int rJ, .int pX, .int rO])), (uJ, .inl (cI, 8, .inl rD)), (xB, .inr (0, [.ref vI, .ref wY, .ref xO])), (vI, .inr (3, [.ref tJ, .ref jJ, .ref mY, .ref pG, .ref pD, .ref pE, .ref eO, .int dN, .int bD, .int bJ, .int aI])), (tJ, .inl (cI, 16, .inl uU)), (jJ, .inl (cI, 16, .inl gF)), (pG, .inl (cI, 16, .inl qF)), (pD, .inl (cI, 8, .inl mX)), (pE, .inl (cI, 8, .inl oE)), (eO, .inl (cI, 5, .inl dY)), (wY, .inr (2, [.int jE, .int eW, .int eY, .int dU, .int fY, .int gJ, .int jG, .int nU])), (yA, .inr (6, [.ref rG, .int qB])), (rG, .inl (cI, 16, .inl jK))]
abbrev q_X9_needed (dC : Nat -> ClassId) (dI : Nat -> Nat -> Nat) (cI cC cZ cB cJ : ClassId) (A : Nat -> Prop) (a_x xI xH xB vI wY xX yA xY uD uJ rW uQ uP uO xO tJ jJ mY pG pD pE eO rG : Nat) (rJ pX rO dN bD bJ aI : Int32) (uU gF qF mX oE dY : Nat -> Int32) (jE eW eY dU fY gJ jG nU : Int32) (post : Int32 -> Int32 -> (Nat -> Int32) -> Int32 -> (Nat -> Int32) -> Prop) : Array Value -> State -> Outcome -> State -> Prop := va_Qi (fun (r : Int32) (u : Int32 × (Nat -> Int32) × Int32 × (Nat -> Int32)) => post r u.1 u.2.1 u.2.2.1 u.2.2.2) (fun u t => gB (dC, dI) (tyl cI cC cZ cB cJ) A (aPE cI cC cZ cB cJ a_x xI xH xB vI wY xX yA xY uD uJ rW uQ uP uO xO tJ jJ mY pG pD pE eO rG u.1 rJ pX rO u.2.1 dN bD bJ aI uU gF qF mX oE dY jE eW eY dU fY gJ jG nU u.2.2.1 u.2.2.2) t) A
abbrev rm_X9_needed : Room := { frames := 5, cells := 0, slots := 0, locals := 115 }
section S_X9_needed
variable {p : Program} {l : Launch} {e : Env} {s : State} {m : MethodId} {args : Array Value} {below : List Frame} {meth : Method} {c : Code} {dC : Nat -> ClassId} {dI : Nat -> Nat -> Nat} {cI cC cZ cB cJ : ClassId} {A : Nat -> Prop} {a_x xI xH xB vI wY xX yA xY uD uJ rW uQ uP uO xO tJ jJ mY pG pD pE eO rG : Nat} {rJ pX rO dN bD bJ aI : Int32} {uU gF qF mX oE dY : Nat -> Int32} {jE eW eY dU fY gJ jG nU : Int32} {post : Int32 -> Int32 -> (Nat -> Int32) -> Int32 -> (Nat -> Int32) -> Prop}
def ws_X9_needed_76 (post : Int32 -> Int32 -> (Nat -> Int32) -> Int32 -> (Nat -> Int32) -> Prop) (K13 : Int32 -> Int32 -> Int32 -> Int32 -> (Nat -> Int32) -> Int32 -> (Nat -> Int32) -> Prop) (dN bD : Int32) (uU gF qF mX oE dY : Nat -> Int32) (jE eW eY gJ jG x1 x2 x3 oY : Int32) (rD : Nat -> Int32) (qB : Int32) (jK : Nat -> Int32) : Prop := ∀ aEr : Int32, aEr = x3 + 1 -> K13 x1 x2 aEr oY rD qB jK
set_option maxHeartbeats 4000000 in
set_option maxRecDepth 100000 in
theorem ks_X9_needed_76 (C0 : gc aEM (some .int) 6 RX9 (dC, dI) (tyl cI cC cZ cB cJ) A p s m args meth c) {K13 : Int32 -> Int32 -> Int32 -> Int32 -> (Nat -> Int32) -> Int32 -> (Nat -> Int32) -> Prop} (hK13 : ∀ (x1 : Int32) (x2 : Int32) (x3 : Int32) (oY : Int32) (rD : Nat -> Int32) (qB : Int32) (jK : Nat -> Int32) (H : Heap) (locs : List Loc) (ls : Array Slot), K13 x1 x2 x3 oY rD qB jK -> va_P (dC, dI) classes (aPE cI cC cZ cB cJ a_x xI xH xB vI wY xX yA xY uD uJ rW uQ uP uO xO tJ jJ mY pG pD pE eO rG oY rJ pX rO rD dN bD bJ aI uU gF qF mX oE dY jE eW eY dU fY gJ jG nU qB jK) H -> va_D A (aPE cI cC cZ cB cJ a_x xI xH xB vI wY xX yA xY uD uJ rW uQ uP uO xO tJ jJ mY pG pD pE eO rG oY rJ pX rO rD dN bD bJ aI uU gF qF mX oE dY jE eW eY dU fY gJ jG nU qB jK) -> va_S A s.heap H locs -> lv_has ls 6 [(0, .ref a_x), (1, .int x1), (2, .int x2), (3, .int x3)] -> W p l e rm_X9_needed s m args below meth c H locs 0 0 (MQ below (q_X9_needed dC dI cI cC cZ cB cJ A a_x xI xH xB vI wY xX yA xY uD uJ rW uQ uP uO xO tJ jJ mY pG pD pE eO rG rJ pX rO dN bD bJ aI uU gF qF mX oE dY jE eW eY dU fY gJ jG nU post) args s 0 0 A) (F0 m 13 ls [])) : ∀ (x1 x2 x3 oY : Int32) (rD : Nat -> Int32) (qB : Int32) (jK : Nat -> Int32) (H : Heap) (locs : List Loc) (ls : Array Slot), (ws_X9_needed_76 post K13 dN bD uU gF qF mX oE dY jE eW eY gJ jG) x1 x2 x3 oY rD qB jK -> va_P (dC, dI) classes (aPE cI cC cZ cB cJ a_x xI xH xB vI wY xX yA xY uD uJ rW uQ uP uO xO tJ jJ mY pG pD pE eO rG oY rJ pX rO rD dN bD bJ aI uU gF qF mX oE dY jE eW eY dU fY gJ jG nU qB jK) H -> va_D A (aPE cI cC cZ cB cJ a_x xI xH xB vI wY xX yA xY uD uJ rW uQ uP uO xO tJ jJ mY pG pD pE eO rG oY rJ pX rO rD dN bD bJ aI uU gF qF mX oE dY jE eW eY dU fY gJ jG nU qB jK) -> va_S A s.heap H locs -> lv_has ls 6 [(0, .ref a_x), (1, .int x1), (2, .int x2), (3, .int x3)] -> W p l e rm_X9_needed s m args below meth c H locs 0 0 (MQ below (q_X9_needed dC dI cI cC cZ cB cJ A a_x xI xH xB vI wY xX yA xY uD uJ rW uQ uP uO xO tJ jJ mY pG pD pE eO rG rJ pX rO dN bD bJ aI uU gF qF mX oE dY jE eW eY dU fY gJ jG nU post) args s 0 0 A) (F0 m 76 ls []) := by
  obtain ⟨hx, hb, hr, hml, hown, hts, hlocks, hA, hK, hN, tL, tM, hZL, hTL, hZM, hTM, hZX⟩ := id C0
  intro x1 x2 x3 oY rD qB jK H locs ls hp hP hD hS hl
  unfold ws_X9_needed_76 at hp
  obtain ⟨aEr, aNB⟩ : ∃ y : Int32, y = x3 + 1 := ⟨_, rfl⟩
  refine lv_iinc (v := aEr) (lv' := [(3, .int aEr), (0, .ref a_x), (1, .int x1), (2, .int x2)]) hx hb aTz.2.2.2.2.2.2.2.2.2.2.2.2.2.2.2 hl (k := 3) rfl (by rw [aNB]; rfl) (by decide) rfl (fun ls hl => ?_)
  have hp := hp aEr aNB
  refine lv_goto (tgt := 13) hx hb eX9_needed_79.1 (by decide) ?_
  exact hK13 x1 x2 aEr oY rD qB jK H locs ls hp hP hD hS (lv_sub hl [1, 2, 3, 0] rfl)
def ws_X9_needed_13 (post : Int32 -> Int32 -> (Nat -> Int32) -> Int32 -> (Nat -> Int32) -> Prop) (next : Int32 -> Int32 -> Int32 -> Int32 -> (Nat -> Int32) -> Int32 -> (Nat -> Int32) -> Prop) (dN bD : Int32) (uU gF qF mX oE dY : Nat -> Int32) (jE eW eY gJ jG x1 x2 x3 oY : Int32) (rD : Nat -> Int32) (qB : Int32) (jK : Nat -> Int32) : Prop := (bD <= x3 -> aYk (fun aNH aHk => post x1 oY rD aNH aHk) x2 qB jK) /\ (¬ bD <= x3 -> aHs (fun r_5 => ∀ v_6 : Int32, v_6 = 1 <<< (x3 &&& 31) -> ∀ v_7 : Int32, v_7 = r_5 &&& (v_6 ^^^ (-1)) -> aPV (fun r_8 => ∀ v_9 : Int32, v_9 = oY &&& (r_8 ^^^ (-1)) -> (v_9 = 0 -> ws_X9_needed_76 post next dN bD uU gF qF mX oE dY jE eW eY gJ jG x1 x2 x3 oY rD qB jK) /\ (¬ v_9 = 0 -> ∀ aGH : Int32, aGH = x1 ||| (1 <<< (x3 &&& 31)) -> ∀ aEp : Int32, aEp = x2 ||| v_9 -> ws_X9_needed_76 post next dN bD uU gF qF mX oE dY jE eW eY gJ jG aGH aEp x3 oY rD qB jK)) v_7 rD bD) bD)
noncomputable def wb_X9_needed_13 (post : Int32 -> Int32 -> (Nat -> Int32) -> Int32 -> (Nat -> Int32) -> Prop) (dN bD : Int32) (uU gF qF mX oE dY : Nat -> Int32) (jE eW eY gJ jG : Int32) : Nat -> Int32 -> Int32 -> Int32 -> Int32 -> (Nat -> Int32) -> Int32 -> (Nat -> Int32) -> Prop := fun n => Nat.rec (motive := fun _ => Int32 -> Int32 -> Int32 -> Int32 -> (Nat -> Int32) -> Int32 -> (Nat -> Int32) -> Prop) (fun _ _ _ _ _ _ _ => False) (fun _ ih => ws_X9_needed_13 post ih dN bD uU gF qF mX oE dY jE eW eY gJ jG) n
set_option maxHeartbeats 4000000 in
set_option maxRecDepth 100000 in
theorem ks_X9_needed_13 (C0 : gc aEM (some .int) 6 RX9 (dC, dI) (tyl cI cC cZ cB cJ) A p s m args meth c) {next : Int32 -> Int32 -> Int32 -> Int32 -> (Nat -> Int32) -> Int32 -> (Nat -> Int32) -> Prop} (hKn : ∀ (x1 : Int32) (x2 : Int32) (x3 : Int32) (oY : Int32) (rD : Nat -> Int32) (qB : Int32) (jK : Nat -> Int32) (H : Heap) (locs : List Loc) (ls : Array Slot), next x1 x2 x3 oY rD qB jK -> va_P (dC, dI) classes (aPE cI cC cZ cB cJ a_x xI xH xB vI wY xX yA xY uD uJ rW uQ uP uO xO tJ jJ mY pG pD pE eO rG oY rJ pX rO rD dN bD bJ aI uU gF qF mX oE dY jE eW eY dU fY gJ jG nU qB jK) H -> va_D A (aPE cI cC cZ cB cJ a_x xI xH xB vI wY xX yA xY uD uJ rW uQ uP uO xO tJ jJ mY pG pD pE eO rG oY rJ pX rO rD dN bD bJ aI uU gF qF mX oE dY jE eW eY dU fY gJ jG nU qB jK) -> va_S A s.heap H locs -> lv_has ls 6 [(0, .ref a_x), (1, .int x1), (2, .int x2), (3, .int x3)] -> W p l e rm_X9_needed s m args below meth c H locs 0 0 (MQ below (q_X9_needed dC dI cI cC cZ cB cJ A a_x xI xH xB vI wY xX yA xY uD uJ rW uQ uP uO xO tJ jJ mY pG pD pE eO rG rJ pX rO dN bD bJ aI uU gF qF mX oE dY jE eW eY dU fY gJ jG nU post) args s 0 0 A) (F0 m 13 ls [])) : ∀ (x1 x2 x3 oY : Int32) (rD : Nat -> Int32) (qB : Int32) (jK : Nat -> Int32) (H : Heap) (locs : List Loc) (ls : Array Slot), (ws_X9_needed_13 post next dN bD uU gF qF mX oE dY jE eW eY gJ jG) x1 x2 x3 oY rD qB jK -> va_P (dC, dI) classes (aPE cI cC cZ cB cJ a_x xI xH xB vI wY xX yA xY uD uJ rW uQ uP uO xO tJ jJ mY pG pD pE eO rG oY rJ pX rO rD dN bD bJ aI uU gF qF mX oE dY jE eW eY dU fY gJ jG nU qB jK) H -> va_D A (aPE cI cC cZ cB cJ a_x xI xH xB vI wY xX yA xY uD uJ rW uQ uP uO xO tJ jJ mY pG pD pE eO rG oY rJ pX rO rD dN bD bJ aI uU gF qF mX oE dY jE eW eY dU fY gJ jG nU qB jK) -> va_S A s.heap H locs -> lv_has ls 6 [(0, .ref a_x), (1, .int x1), (2, .int x2), (3, .int x3)] -> W p l e rm_X9_needed s m args below meth c H locs 0 0 (MQ below (q_X9_needed dC dI cI cC cZ cB cJ A a_x xI xH xB vI wY xX yA xY uD uJ rW uQ uP uO xO tJ jJ mY pG pD pE eO rG rJ pX rO dN bD bJ aI uU gF qF mX oE dY jE eW eY dU fY gJ jG nU post) args s 0 0 A) (F0 m 13 ls []) := by
  obtain ⟨hx, hb, hr, hml, hown, hts, hlocks, hA, hK, hN, tL, tM, hZL, hTL, hZM, hTM, hZX⟩ := id C0
  intro x1 x2 x3 oY rD qB jK H locs ls hp hP hD hS hl
  unfold ws_X9_needed_13 at hp
  refine lv_iload_n hx hb aWs.2.2.2.2.2.2.2.2.2.1 rfl (lv_at hl 3 rfl) ?_
  refine lv_aload_n hx hb aWs.2.2.2.2.2.2.2.2.2.2.1 rfl (lv_at hl 0 rfl) ?_
  refine va_get (D := (dC, dI)) (ci := 9) (v := .ref vI) (C := RX9) (T := TX9) (N := 9) hx hb hts aC3 hown hK hP 0 rfl rfl 3 (lbz rfl) (hts _ q_74) (fun _ h9 => h9) rfl aWs.2.2.2.2.2.2.2.2.2.2.2.1 ?_
  refine va_get (D := (dC, dI)) (ci := 3) (v := .int bD) (C := RX3) (T := TX3) (N := 11) hx hb hts i_X3 hown hK hP 4 rfl rfl 8 (lbz rfl) (hts _ q_415) (fun _ h9 => h9) rfl aWs.2.2.2.2.2.2.2.2.2.2.2.2.1 ?_
  refine lv_icmp_ge (tgt := 82) hx hb aWs.2.2.2.2.2.2.2.2.2.2.2.2.2.1 (by decide) (fun hc => ?_) (fun hc => ?_)
  · have hp := hp.1 hc
    refine lv_aload_n hx hb eX9_needed_79.2.1 rfl (lv_at hl 0 rfl) ?_
    refine lv_iload_n hx hb eX9_needed_79.2.2.1 rfl (lv_at hl 2 rfl) ?_
    have hm := mgk (wc := (wd_X9_tell cI cC cZ cB cJ a_x xI xH xB vI wY xX yA xY uD rG qB jK)) hP mk_121 14 rfl rfl rfl
    refine aBn hP hD hS hA (yS mk_121) (aAi mk_121) hm.1 hm.2 (aAk _) (zW _) (zF (As := [.int x2]) (rest := []) C0 hP hD hS (yS mk_121) hm.1 (aAl _) 0 9 rfl rfl (c_X9_tell l dC dI cI cC cZ cB cJ a_x xI xH xB vI wY xX yA xY uD rG H.size x2 qB jK _ hp) q_373 q_376 q_374 q_375 aIl h_X9_tell rfl rfl ⟨lbz rfl, lbz rfl⟩ rfl rfl hl.1 rfl (lv_room (lbz rfl)) eX9_needed_79.2.2.2.1 ⟨Nat.zero_le _, Nat.zero_le _⟩) (fun u H locs hp hP hD hS => ?_)
    obtain ⟨aNH, aHk⟩ := u
    have hPD := PDm (ws' := (aPE cI cC cZ cB cJ a_x xI xH xB vI wY xX yA xY uD uJ rW uQ uP uO xO tJ jJ mY pG pD pE eO rG oY rJ pX rO rD dN bD bJ aI uU gF qF mX oE dY jE eW eY dU fY gJ jG nU aNH aHk)) hP hD 14 rfl rfl rfl
    have hP := hPD.1
    have hD := hPD.2
    refine lv_iload_n hx hb eX9_needed_79.2.2.2.2.1 rfl (lv_at hl 1 rfl) ?_
    exact W.iret (v := x1) hx hb hr (fun t ht hW => ⟨⟨x1, (oY, rD, aNH, aHk), rfl, hp, by rw [ht]; exact hP, va_K.moved hW.alike hK, hD⟩, hS.F ht⟩) hS.2.2 eX9_needed_79.2.2.2.2.2
  · have hp := hp.2 hc
    refine lv_aload_n hx hb aWs.2.2.2.2.2.2.2.2.2.2.2.2.2.2.1 rfl (lv_at hl 0 rfl) ?_
    refine va_get (D := (dC, dI)) (ci := 9) (v := .ref vI) (C := RX9) (T := TX9) (N := 9) hx hb hts aC3 hown hK hP 0 rfl rfl 3 (lbz rfl) (hts _ q_74) (fun _ h9 => h9) rfl aWs.2.2.2.2.2.2.2.2.2.2.2.2.2.2.2 ?_
    have hm := mgk (wc := (aHS cI cC cZ cB cJ vI tJ jJ mY pG pD pE eO dN bD bJ aI)) hP aNG 14 rfl rfl rfl
    refine yW hP hD hS hA (yS aNG) (aAi aNG) hm.1 hm.2 (aAk _) (zW _) (zF (As := []) (rest := []) C0 hP hD hS (yS aNG) hm.1 (aAl _) 4 3 rfl rfl (aLl l dC dI cI cC cZ cB cJ vI tJ jJ mY pG pD pE eO H.size dN bD bJ aI _ hp) q_426 q_463 q_427 q_428 q_48 aLo rfl rfl ⟨lbz rfl, lbz rfl⟩ rfl rfl hl.1 rfl (lv_room (lbz rfl)) aTy.1 ⟨Nat.zero_le _, Nat.zero_le _⟩) (fun r_5 u H locs hp hP hD hS => ?_)
    have hPD := PDm (ws' := (aPE cI cC cZ cB cJ a_x xI xH xB vI wY xX yA xY uD uJ rW uQ uP uO xO tJ jJ mY pG pD pE eO rG oY rJ pX rO rD dN bD bJ aI uU gF qF mX oE dY jE eW eY dU fY gJ jG nU qB jK)) hP hD 14 rfl rfl rfl
    have hP := hPD.1
    have hD := hPD.2
    refine lv_iconst (v := 1) hx hb aTy.2.1 aDx ?_
    refine lv_iload_n hx hb aTy.2.2.1 rfl (lv_at hl 3 rfl) ?_
    refine lv_ishl hx hb aTy.2.2.2.1 ?_
    refine lv_topi (fun v_6 ev_6 => ?_)
    have hp := hp v_6 ev_6
    refine lv_iconst (v := (-1)) hx hb aTy.2.2.2.2.1 aEJ ?_
    refine lv_ixor hx hb aTy.2.2.2.2.2.1 ?_
    refine lv_iand hx hb aTy.2.2.2.2.2.2.1 ?_
    refine lv_topi (fun v_7 ev_7 => ?_)
    have hp := hp v_7 ev_7
    refine lv_istore (lv' := [(4, .int v_7), (0, .ref a_x), (1, .int x1), (2, .int x2), (3, .int x3)]) hx hb aTy.2.2.2.2.2.2.2.1 hl (by decide) rfl (fun ls hl => ?_)
    refine lv_aload_n hx hb aTy.2.2.2.2.2.2.2.2.1 rfl (lv_at hl 1 rfl) ?_
    refine va_get (D := (dC, dI)) (ci := 9) (v := .ref xH) (C := RX9) (T := TX9) (N := 9) hx hb hts aC3 hown hK hP 0 rfl rfl 1 (lbz rfl) (hts _ aOt) (fun _ h9 => h9) rfl aTy.2.2.2.2.2.2.2.2.2.1 ?_
    refine va_get (D := (dC, dI)) (ci := 5) (v := .int oY) (C := RX5) (T := TX5) (N := 11) hx hb hts i_X5 hown hK hP 1 rfl rfl 7 (lbz rfl) (hts _ q_462) (fun _ h9 => h9) rfl aTy.2.2.2.2.2.2.2.2.2.2.1 ?_
    refine lv_aload_n hx hb aTy.2.2.2.2.2.2.2.2.2.2.2.1 rfl (lv_at hl 1 rfl) ?_
    refine va_get (D := (dC, dI)) (ci := 9) (v := .ref xH) (C := RX9) (T := TX9) (N := 9) hx hb hts aC3 hown hK hP 0 rfl rfl 1 (lbz rfl) (hts _ aOt) (fun _ h9 => h9) rfl aTy.2.2.2.2.2.2.2.2.2.2.2.2.1 ?_
    refine lv_iload hx hb aTy.2.2.2.2.2.2.2.2.2.2.2.2.2.1 (lv_at hl 0 rfl) ?_
    have hm := mgk (wc := (aHK cI cC cZ cB cJ xH xB vI uJ rW uQ uP uO tJ jJ mY pG pD pE eO oY rJ pX rO rD dN bD bJ aI)) hP mk_123 14 rfl rfl rfl
    refine yW hP hD hS hA (yS mk_123) (aAi mk_123) hm.1 hm.2 (aAk _) (zW _) (zF (As := [.int v_7]) (rest := [.int oY]) C0 hP hD hS (yS mk_123) hm.1 (aAl _) 1 5 rfl rfl (c_X5_reachedBy l dC dI cI cC cZ cB cJ xH xB vI uJ rW uQ uP uO tJ jJ mY pG pD pE eO H.size v_7 oY rJ pX rO rD dN bD bJ aI _ hp) q_430 q_472 q_432 q_433 aRn h_X5_reachedBy rfl rfl ⟨lbz rfl, lbz rfl⟩ rfl rfl hl.1 rfl (lv_room (lbz rfl)) aTy.2.2.2.2.2.2.2.2.2.2.2.2.2.2.1 ⟨Nat.zero_le _, Nat.zero_le _⟩) (fun r_8 u H locs hp hP hD hS => ?_)
    have hPD := PDm (ws' := (aPE cI cC cZ cB cJ a_x xI xH xB vI wY xX yA xY uD uJ rW uQ uP uO xO tJ jJ mY pG pD pE eO rG oY rJ pX rO rD dN bD bJ aI uU gF qF mX oE dY jE eW eY dU fY gJ jG nU qB jK)) hP hD 14 rfl rfl rfl
    have hP := hPD.1
    have hD := hPD.2
    refine lv_iconst (v := (-1)) hx hb aTy.2.2.2.2.2.2.2.2.2.2.2.2.2.2.2 aEJ ?_
    refine lv_ixor hx hb aTz.1 ?_
    refine lv_iand hx hb aTz.2.1 ?_
    refine lv_topi (fun v_9 ev_9 => ?_)
    have hp := hp v_9 ev_9
    refine lv_istore (lv' := [(5, .int v_9), (4, .int v_7), (0, .ref a_x), (1, .int x1), (2, .int x2), (3, .int x3)]) hx hb aTz.2.2.1 hl (by decide) rfl (fun ls hl => ?_)
    refine lv_iload hx hb aTz.2.2.2.1 (lv_at hl 0 rfl) ?_
    refine lv_if_eq (tgt := 76) hx hb aTz.2.2.2.2.1 (by decide) (fun hc => ?_) (fun hc => ?_)
    · have hp := hp.1 hc
      exact ks_X9_needed_76 C0 hKn x1 x2 x3 oY rD qB jK H locs ls hp hP hD hS (lv_sub hl [2, 3, 4, 5] rfl)
    · have hp := hp.2 hc
      refine lv_iload_n hx hb aTz.2.2.2.2.2.1 rfl (lv_at hl 3 rfl) ?_
      refine lv_iconst (v := 1) hx hb aTz.2.2.2.2.2.2.1 aDx ?_
      refine lv_iload_n hx hb aTz.2.2.2.2.2.2.2.1 rfl (lv_at hl 5 rfl) ?_
      refine lv_ishl hx hb aTz.2.2.2.2.2.2.2.2.1 ?_
      refine lv_ior hx hb aTz.2.2.2.2.2.2.2.2.2.1 ?_
      refine lv_topi (fun aGH ev_11 => ?_)
      have hp := hp aGH ev_11
      refine lv_istore_n (lv' := [(1, .int aGH), (5, .int v_9), (4, .int v_7), (0, .ref a_x), (2, .int x2), (3, .int x3)]) hx hb aTz.2.2.2.2.2.2.2.2.2.2.1 rfl hl (by decide) rfl (fun ls hl => ?_)
      refine lv_iload_n hx hb aTz.2.2.2.2.2.2.2.2.2.2.2.1 rfl (lv_at hl 4 rfl) ?_
      refine lv_iload hx hb aTz.2.2.2.2.2.2.2.2.2.2.2.2.1 (lv_at hl 1 rfl) ?_
      refine lv_ior hx hb aTz.2.2.2.2.2.2.2.2.2.2.2.2.2.1 ?_
      refine lv_topi (fun aEp ev_12 => ?_)
      have hp := hp aEp ev_12
      refine lv_istore_n (lv' := [(2, .int aEp), (1, .int aGH), (5, .int v_9), (4, .int v_7), (0, .ref a_x), (3, .int x3)]) hx hb aTz.2.2.2.2.2.2.2.2.2.2.2.2.2.2.1 rfl hl (by decide) rfl (fun ls hl => ?_)
      exact ks_X9_needed_76 C0 hKn aGH aEp x3 oY rD qB jK H locs ls hp hP hD hS (lv_sub hl [4, 1, 0, 5] rfl)
set_option maxHeartbeats 4000000 in
set_option maxRecDepth 100000 in
theorem kb_X9_needed_13 (C0 : gc aEM (some .int) 6 RX9 (dC, dI) (tyl cI cC cZ cB cJ) A p s m args meth c) : ∀ (n : Nat), ∀ (x1 x2 x3 oY : Int32) (rD : Nat -> Int32) (qB : Int32) (jK : Nat -> Int32) (H : Heap) (locs : List Loc) (ls : Array Slot), (wb_X9_needed_13 post dN bD uU gF qF mX oE dY jE eW eY gJ jG n) x1 x2 x3 oY rD qB jK -> va_P (dC, dI) classes (aPE cI cC cZ cB cJ a_x xI xH xB vI wY xX yA xY uD uJ rW uQ uP uO xO tJ jJ mY pG pD pE eO rG oY rJ pX rO rD dN bD bJ aI uU gF qF mX oE dY jE eW eY dU fY gJ jG nU qB jK) H -> va_D A (aPE cI cC cZ cB cJ a_x xI xH xB vI wY xX yA xY uD uJ rW uQ uP uO xO tJ jJ mY pG pD pE eO rG oY rJ pX rO rD dN bD bJ aI uU gF qF mX oE dY jE eW eY dU fY gJ jG nU qB jK) -> va_S A s.heap H locs -> lv_has ls 6 [(0, .ref a_x), (1, .int x1), (2, .int x2), (3, .int x3)] -> W p l e rm_X9_needed s m args below meth c H locs 0 0 (MQ below (q_X9_needed dC dI cI cC cZ cB cJ A a_x xI xH xB vI wY xX yA xY uD uJ rW uQ uP uO xO tJ jJ mY pG pD pE eO rG rJ pX rO dN bD bJ aI uU gF qF mX oE dY jE eW eY dU fY gJ jG nU post) args s 0 0 A) (F0 m 13 ls []) := by
  intro n
  induction n with
  | zero =>
    intro x1 x2 x3 oY rD qB jK H locs ls hp
    exact False.elim hp
  | succ n ih =>
    intro x1 x2 x3 oY rD qB jK H locs ls hp
    exact ks_X9_needed_13 C0 ih x1 x2 x3 oY rD qB jK H locs ls hp
end S_X9_needed
def wp_X9_needed (post : Int32 -> Int32 -> (Nat -> Int32) -> Int32 -> (Nat -> Int32) -> Prop) (oY : Int32) (rD : Nat -> Int32) (dN bD : Int32) (uU gF qF mX oE dY : Nat -> Int32) (jE eW eY gJ jG qB : Int32) (jK : Nat -> Int32) : Prop := aZL (fun aBo aCo => ∃ n : Nat, wb_X9_needed_13 post dN bD uU gF qF mX oE dY jE eW eY gJ jG n 0 0 0 aBo aCo qB jK) oY rD dN bD uU gF qF mX oE dY jE eW eY gJ jG
set_option maxHeartbeats 4000000 in
set_option maxRecDepth 100000 in
theorem c_X9_needed (l : Launch) (dC : Nat -> ClassId) (dI : Nat -> Nat -> Nat) (cI cC cZ cB cJ : ClassId) (a_x xI xH xB vI wY xX yA xY uD uJ rW uQ uP uO xO tJ jJ mY pG pD pE eO rG sz : Nat) (oY rJ pX rO : Int32) (rD : Nat -> Int32) (dN bD bJ aI : Int32) (uU gF qF mX oE dY : Nat -> Int32) (jE eW eY dU fY gJ jG nU qB : Int32) (jK : Nat -> Int32) (post : Int32 -> Int32 -> (Nat -> Int32) -> Int32 -> (Nat -> Int32) -> Prop) (hw : wp_X9_needed post oY rD dN bD uU gF qF mX oE dY jE eW eY gJ jG qB jK) : Met l yX9_needed (gw yX9_needed aEM 6 (some .int)) rm_X9_needed (va_Pc [.ref a_x] (gPre (dC, dI) (tyl cI cC cZ cB cJ) (aPE cI cC cZ cB cJ a_x xI xH xB vI wY xX yA xY uD uJ rW uQ uP uO xO tJ jJ mY pG pD pE eO rG oY rJ pX rO rD dN bD bJ aI uU gF qF mX oE dY jE eW eY dU fY gJ jG nU qB jK) sz)) (q_X9_needed dC dI cI cC cZ cB cJ (va_A (aPE cI cC cZ cB cJ a_x xI xH xB vI wY xX yA xY uD uJ rW uQ uP uO xO tJ jJ mY pG pD pE eO rG oY rJ pX rO rD dN bD bJ aI uU gF qF mX oE dY jE eW eY dU fY gJ jG nU qB jK) sz) a_x xI xH xB vI wY xX yA xY uD uJ rW uQ uP uO xO tJ jJ mY pG pD pE eO rG rJ pX rO dN bD bJ aI uU gF qF mX oE dY jE eW eY dU fY gJ jG nU post) 0 0 (va_A (aPE cI cC cZ cB cJ a_x xI xH xB vI wY xX yA xY uD uJ rW uQ uP uO xO tJ jJ mY pG pD pE eO rG oY rJ pX rO rD dN bD bJ aI uU gF qF mX oE dY jE eW eY dU fY gJ jG nU qB jK) sz) := by
  refine aBJ (own := RX9) (dC, dI) (tyl cI cC cZ cB cJ) (aPE cI cC cZ cB cJ a_x xI xH xB vI wY xX yA xY uD uJ rW uQ uP uO xO tJ jJ mY pG pD pE eO rG oY rJ pX rO rD dN bD bJ aI uU gF qF mX oE dY jE eW eY dU fY gJ jG nU qB jK) sz [.ref a_x] (fun A => q_X9_needed dC dI cI cC cZ cB cJ A a_x xI xH xB vI wY xX yA xY uD uJ rW uQ uP uO xO tJ jJ mY pG pD pE eO rG rJ pX rO dN bD bJ aI uU gF qF mX oE dY jE eW eY dU fY gJ jG nU post) pn_RX9 rfl (lbz rfl) ?_
  intro p e s m args below meth c A H locs ls C0 hP hD hS hl
  have hl : lv_has ls 6 [(0, .ref a_x)] := hl
  obtain ⟨hx, hb, hr, hml, hown, hts, hlocks, hA, hK, hN, tL, tM, hZL, hTL, hZM, hTM, hZX⟩ := id C0
  have hp := hw
  unfold wp_X9_needed at hp
  refine lv_aload_n hx hb aWs.1 rfl (lv_at hl 0 rfl) ?_
  refine va_get (D := (dC, dI)) (ci := 9) (v := .ref xH) (C := RX9) (T := TX9) (N := 9) hx hb hts aC3 hown hK hP 0 rfl rfl 1 (lbz rfl) (hts _ aOt) (fun _ h9 => h9) rfl aWs.2.1 ?_
  have hm := mgk (wc := (aVN cI cC cZ cB cJ xH xB vI uJ rW uQ uP uO wY xO tJ jJ mY pG pD pE eO oY rJ pX rO rD dN bD bJ aI uU gF qF mX oE dY jE eW eY dU fY gJ jG nU)) hP aUu 14 rfl rfl rfl
  refine aBn hP hD hS hA (yS aUu) (aAi aUu) hm.1 hm.2 (aAk _) (zW _) (zF (As := []) (rest := []) C0 hP hD hS (yS aUu) hm.1 (aAl _) 1 5 rfl rfl (c_X5_look l dC dI cI cC cZ cB cJ xH xB vI uJ rW uQ uP uO wY xO tJ jJ mY pG pD pE eO H.size oY rJ pX rO rD dN bD bJ aI uU gF qF mX oE dY jE eW eY dU fY gJ jG nU _ hp) q_445 q_448 q_446 q_447 aRn h_X5_look rfl rfl ⟨lbz rfl, lbz rfl⟩ rfl rfl hl.1 rfl (lv_room (lbz rfl)) aWs.2.2.1 ⟨Nat.zero_le _, Nat.zero_le _⟩) (fun u H locs hp hP hD hS => ?_)
  obtain ⟨aBo, aCo⟩ := u
  have hPD := PDm (ws' := (aPE cI cC cZ cB cJ a_x xI xH xB vI wY xX yA xY uD uJ rW uQ uP uO xO tJ jJ mY pG pD pE eO rG aBo rJ pX rO aCo dN bD bJ aI uU gF qF mX oE dY jE eW eY dU fY gJ jG nU qB jK)) hP hD 14 rfl rfl rfl
  have hP := hPD.1
  have hD := hPD.2
  refine lv_iconst (v := 0) hx hb aWs.2.2.2.1 aCi ?_
  refine lv_istore_n (lv' := [(1, .int 0), (0, .ref a_x)]) hx hb aWs.2.2.2.2.1 rfl hl (by decide) rfl (fun ls hl => ?_)
  refine lv_iconst (v := 0) hx hb aWs.2.2.2.2.2.1 aCi ?_
  refine lv_istore_n (lv' := [(2, .int 0), (1, .int 0), (0, .ref a_x)]) hx hb aWs.2.2.2.2.2.2.1 rfl hl (by decide) rfl (fun ls hl => ?_)
  refine lv_iconst (v := 0) hx hb aWs.2.2.2.2.2.2.2.1 aCi ?_
  refine lv_istore_n (lv' := [(3, .int 0), (2, .int 0), (1, .int 0), (0, .ref a_x)]) hx hb aWs.2.2.2.2.2.2.2.2.1 rfl hl (by decide) rfl (fun ls hl => ?_)
  obtain ⟨n9, hp⟩ := hp
  exact kb_X9_needed_13 C0 n9 0 0 0 aBo aCo qB jK H locs ls hp hP hD hS (lv_sub hl [3, 2, 1, 0] rfl)
abbrev aY4 (cI cC cZ cB cJ : ClassId) (xH xB vI uJ rW uQ uP uO wY xO tJ jJ mY pG pD pE eO : Nat) (oY rJ pX rO : Int32) (rD : Nat -> Int32) (dN bD bJ aI : Int32) (pL : Nat -> Int32) (jE eW eY dU fY gJ jG nU : Int32) : va_W := [(xH, .inr (5, [.ref xB, .ref vI, .ref uJ, .ref rW, .ref uQ, .ref uP, .ref uO, .int oY, .int rJ, .int pX, .int rO])), (uJ, .inl (cI, 8, .inl rD)), (xB, .inr (0, [.ref vI, .ref wY, .ref xO])), (vI, .inr (3, [.ref tJ, .ref jJ, .ref mY, .ref pG, .ref pD, .ref pE, .ref eO, .int dN, .int bD, .int bJ, .int aI])), (mY, .inl (cI, 16, .inl pL)), (wY, .inr (2, [.int jE, .int eW, .int eY, .int dU, .int fY, .int gJ, .int jG, .int nU]))]
abbrev q_X5_worthLeft (dC : Nat -> ClassId) (dI : Nat -> Nat -> Nat) (cI cC cZ cB cJ : ClassId) (A : Nat -> Prop) (xH xB vI uJ rW uQ uP uO wY xO tJ jJ mY pG pD pE eO : Nat) (oY rJ pX rO : Int32) (rD : Nat -> Int32) (dN bD bJ aI : Int32) (pL : Nat -> Int32) (jE eW eY dU fY gJ jG nU : Int32) (post : Int32 -> Prop) : Array Value -> State -> Outcome -> State -> Prop := va_Qi (fun (r : Int32) (u : Unit) => post r) (fun u t => gB (dC, dI) (tyl cI cC cZ cB cJ) A (aY4 cI cC cZ cB cJ xH xB vI uJ rW uQ uP uO wY xO tJ jJ mY pG pD pE eO oY rJ pX rO rD dN bD bJ aI pL jE eW eY dU fY gJ jG nU) t) A
abbrev rm_X5_worthLeft : Room := { frames := 2, cells := 0, slots := 0, locals := 45 }
def wp_X5_worthLeft (post : Int32 -> Prop) (p0 oY : Int32) (rD : Nat -> Int32) (dN bD : Int32) (pL : Nat -> Int32) (dU : Int32) : Prop := aPV (fun r_1 => ∀ v_2 : Int32, v_2 = oY &&& (r_1 ^^^ (-1)) -> aVC (fun r_3 => post r_3) v_2 dN pL dU) p0 rD bD
set_option maxHeartbeats 4000000 in
set_option maxRecDepth 100000 in
theorem c_X5_worthLeft (l : Launch) (dC : Nat -> ClassId) (dI : Nat -> Nat -> Nat) (cI cC cZ cB cJ : ClassId) (xH xB vI uJ rW uQ uP uO wY xO tJ jJ mY pG pD pE eO sz : Nat) (p0 oY rJ pX rO : Int32) (rD : Nat -> Int32) (dN bD bJ aI : Int32) (pL : Nat -> Int32) (jE eW eY dU fY gJ jG nU : Int32) (post : Int32 -> Prop) (hw : wp_X5_worthLeft post p0 oY rD dN bD pL dU) : Met l yX5_worthLeft (gw yX5_worthLeft aXv 2 (some .int)) rm_X5_worthLeft (va_Pc [.ref xH, .int p0] (gPre (dC, dI) (tyl cI cC cZ cB cJ) (aY4 cI cC cZ cB cJ xH xB vI uJ rW uQ uP uO wY xO tJ jJ mY pG pD pE eO oY rJ pX rO rD dN bD bJ aI pL jE eW eY dU fY gJ jG nU) sz)) (q_X5_worthLeft dC dI cI cC cZ cB cJ (va_A (aY4 cI cC cZ cB cJ xH xB vI uJ rW uQ uP uO wY xO tJ jJ mY pG pD pE eO oY rJ pX rO rD dN bD bJ aI pL jE eW eY dU fY gJ jG nU) sz) xH xB vI uJ rW uQ uP uO wY xO tJ jJ mY pG pD pE eO oY rJ pX rO rD dN bD bJ aI pL jE eW eY dU fY gJ jG nU post) 0 0 (va_A (aY4 cI cC cZ cB cJ xH xB vI uJ rW uQ uP uO wY xO tJ jJ mY pG pD pE eO oY rJ pX rO rD dN bD bJ aI pL jE eW eY dU fY gJ jG nU) sz) := by
  refine aBJ (own := RX5) (dC, dI) (tyl cI cC cZ cB cJ) (aY4 cI cC cZ cB cJ xH xB vI uJ rW uQ uP uO wY xO tJ jJ mY pG pD pE eO oY rJ pX rO rD dN bD bJ aI pL jE eW eY dU fY gJ jG nU) sz [.ref xH, .int p0] (fun A => q_X5_worthLeft dC dI cI cC cZ cB cJ A xH xB vI uJ rW uQ uP uO wY xO tJ jJ mY pG pD pE eO oY rJ pX rO rD dN bD bJ aI pL jE eW eY dU fY gJ jG nU post) pn_RX5 rfl (lbz rfl) ?_
  intro p e s m args below meth c A H locs ls C0 hP hD hS hl
  have hl : lv_has ls 2 [(0, .ref xH), (1, .int p0)] := hl
  obtain ⟨hx, hb, hr, hml, hown, hts, hlocks, hA, hK, hN, tL, tM, hZL, hTL, hZM, hTM, hZX⟩ := id C0
  have hp := hw
  unfold wp_X5_worthLeft at hp
  refine lv_aload_n hx hb aXL.1 rfl (lv_at hl 0 rfl) ?_
  refine va_get (D := (dC, dI)) (ci := 5) (v := .ref xB) (C := RX5) (T := TX5) (N := 11) hx hb hts i_X5 hown hK hP 0 rfl rfl 0 (lbz rfl) (hts _ q_423) (fun _ h9 => h9) rfl aXL.2.1 ?_
  refine lv_aload_n hx hb aXL.2.2.1 rfl (lv_at hl 0 rfl) ?_
  refine va_get (D := (dC, dI)) (ci := 5) (v := .int oY) (C := RX5) (T := TX5) (N := 11) hx hb hts i_X5 hown hK hP 0 rfl rfl 7 (lbz rfl) (hts _ q_435) (fun _ h9 => h9) rfl aXL.2.2.2.1 ?_
  refine lv_aload_n hx hb aXL.2.2.2.2.1 rfl (lv_at hl 0 rfl) ?_
  refine lv_iload_n hx hb aXL.2.2.2.2.2.1 rfl (lv_at hl 1 rfl) ?_
  have hm := mgk (wc := (aHK cI cC cZ cB cJ xH xB vI uJ rW uQ uP uO tJ jJ mY pG pD pE eO oY rJ pX rO rD dN bD bJ aI)) hP mk_124 6 rfl rfl rfl
  refine yW hP hD hS hA (yS mk_124) (aAi mk_124) hm.1 hm.2 (aAk _) (zW _) (zF (As := [.int p0]) (rest := [.int oY, .ref xB]) C0 hP hD hS (yS mk_124) hm.1 (aAl _) 0 5 rfl rfl (c_X5_reachedBy l dC dI cI cC cZ cB cJ xH xB vI uJ rW uQ uP uO tJ jJ mY pG pD pE eO H.size p0 oY rJ pX rO rD dN bD bJ aI _ hp) q_430 q_434 q_432 q_433 aRn h_X5_reachedBy rfl rfl ⟨lbz rfl, lbz rfl⟩ rfl rfl hl.1 rfl (lv_room (lbz rfl)) aXL.2.2.2.2.2.2.1 ⟨Nat.zero_le _, Nat.zero_le _⟩) (fun r_1 u H locs hp hP hD hS => ?_)
  have hPD := PDm (ws' := (aY4 cI cC cZ cB cJ xH xB vI uJ rW uQ uP uO wY xO tJ jJ mY pG pD pE eO oY rJ pX rO rD dN bD bJ aI pL jE eW eY dU fY gJ jG nU)) hP hD 6 rfl rfl rfl
  have hP := hPD.1
  have hD := hPD.2
  refine lv_iconst (v := (-1)) hx hb aXL.2.2.2.2.2.2.2.1 aEJ ?_
  refine lv_ixor hx hb aXL.2.2.2.2.2.2.2.2.1 ?_
  refine lv_iand hx hb aXL.2.2.2.2.2.2.2.2.2.1 ?_
  refine lv_topi (fun v_2 aGO => ?_)
  have hp := hp v_2 aGO
  have hm := mgk (wc := (aT8 cI cC cZ cB cJ xB vI wY xO tJ jJ mY pG pD pE eO dN bD bJ aI pL jE eW eY dU fY gJ jG nU)) hP mk_125 6 rfl rfl rfl
  refine yW hP hD hS hA (yS mk_125) (aAi mk_125) hm.1 hm.2 (aAk _) (zW _) (zF (As := [.int v_2]) (rest := []) C0 hP hD hS (yS mk_125) hm.1 (aAl _) 2 0 rfl rfl (c_X0_worthOf l dC dI cI cC cZ cB cJ xB vI wY xO tJ jJ mY pG pD pE eO H.size v_2 dN bD bJ aI pL jE eW eY dU fY gJ jG nU _ hp) q_297 q_473 q_298 q_299 q_187 h_X0_worthOf rfl rfl ⟨lbz rfl, lbz rfl⟩ rfl rfl hl.1 rfl (lv_room (lbz rfl)) aXL.2.2.2.2.2.2.2.2.2.2.1 ⟨Nat.zero_le _, Nat.zero_le _⟩) (fun r_3 u H locs hp hP hD hS => ?_)
  have hPD := PDm (ws' := (aY4 cI cC cZ cB cJ xH xB vI uJ rW uQ uP uO wY xO tJ jJ mY pG pD pE eO oY rJ pX rO rD dN bD bJ aI pL jE eW eY dU fY gJ jG nU)) hP hD 6 rfl rfl rfl
  have hP := hPD.1
  have hD := hPD.2
  exact W.iret (v := r_3) hx hb hr (fun t ht hW => ⟨⟨r_3, (), rfl, hp, by rw [ht]; exact hP, va_K.moved hW.alike hK, hD⟩, hS.F ht⟩) hS.2.2 aXL.2.2.2.2.2.2.2.2.2.2.2
abbrev wd_X9_isFewer (cI cC cZ cB cJ : ClassId) : va_W := []
abbrev q_X9_isFewer (dC : Nat -> ClassId) (dI : Nat -> Nat -> Nat) (cI cC cZ cB cJ : ClassId) (A : Nat -> Prop) (post : Int32 -> Prop) : Array Value -> State -> Outcome -> State -> Prop := va_Qi (fun (r : Int32) (u : Unit) => post r) (fun u t => gB (dC, dI) (tyl cI cC cZ cB cJ) A (wd_X9_isFewer cI cC cZ cB cJ) t) A
abbrev rm_X9_isFewer : Room := { frames := 1, cells := 0, slots := 0, locals := 20 }
section S_X9_isFewer
variable {p : Program} {l : Launch} {e : Env} {s : State} {m : MethodId} {args : Array Value} {below : List Frame} {meth : Method} {c : Code} {dC : Nat -> ClassId} {dI : Nat -> Nat -> Nat} {cI cC cZ cB cJ : ClassId} {A : Nat -> Prop} {post : Int32 -> Prop}
def ws_X9_isFewer_23 (post : Int32 -> Prop) : Prop := post 1
set_option maxHeartbeats 4000000 in
set_option maxRecDepth 100000 in
theorem ks_X9_isFewer_23 (C0 : gc aSU (some .boolean) 3 RX9 (dC, dI) (tyl cI cC cZ cB cJ) A p s m args meth c) : ∀ (H : Heap) (locs : List Loc) (ls : Array Slot), (ws_X9_isFewer_23 post) -> va_P (dC, dI) classes (wd_X9_isFewer cI cC cZ cB cJ) H -> va_D A (wd_X9_isFewer cI cC cZ cB cJ) -> va_S A s.heap H locs -> lv_has ls 3 [] -> W p l e rm_X9_isFewer s m args below meth c H locs 0 0 (MQ below (q_X9_isFewer dC dI cI cC cZ cB cJ A post) args s 0 0 A) (F0 m 23 ls []) := by
  obtain ⟨hx, hb, hr, hml, hown, hts, hlocks, hA, hK, hN, tL, tM, hZL, hTL, hZM, hTM, hZX⟩ := id C0
  intro H locs ls hp hP hD hS hl
  unfold ws_X9_isFewer_23 at hp
  refine lv_iconst (v := 1) hx hb aRQ.2.2.2.2.2.2.2.2.2.2.2.2.2.1 aDx ?_
  refine lv_goto (tgt := 28) hx hb aRQ.2.2.2.2.2.2.2.2.2.2.2.2.2.2.1 (by decide) ?_
  exact W.zret (v := 1) hx hb hr rfl (fun t ht hW => ⟨⟨1, (), rfl, hp, by rw [ht]; exact hP, va_K.moved hW.alike hK, hD⟩, hS.F ht⟩) hS.2.2 dX9_isFewer_28
end S_X9_isFewer
def wp_X9_isFewer (post : Int32 -> Prop) (p0 p1 : Int32) : Prop := aBb (fun r_1 => aBb (fun r_2 => ∀ v_3 : Int32, v_3 = r_1 - r_2 -> (v_3 < 0 -> ws_X9_isFewer_23 post) /\ (¬ v_3 < 0 -> (¬ v_3 = 0 -> post 0) /\ (v_3 = 0 -> (p1 <= p0 -> post 0) /\ (¬ p1 <= p0 -> ws_X9_isFewer_23 post)))) p1) p0
set_option maxHeartbeats 4000000 in
set_option maxRecDepth 100000 in
theorem c_X9_isFewer (l : Launch) (dC : Nat -> ClassId) (dI : Nat -> Nat -> Nat) (cI cC cZ cB cJ : ClassId) (sz : Nat) (p0 p1 : Int32) (post : Int32 -> Prop) (hw : wp_X9_isFewer post p0 p1) : Met l yX9_isFewer (gw yX9_isFewer aSU 3 (some .boolean)) rm_X9_isFewer (va_Pc [.int p0, .int p1] (gPre (dC, dI) (tyl cI cC cZ cB cJ) (wd_X9_isFewer cI cC cZ cB cJ) sz)) (q_X9_isFewer dC dI cI cC cZ cB cJ (va_A (wd_X9_isFewer cI cC cZ cB cJ) sz) post) 0 0 (va_A (wd_X9_isFewer cI cC cZ cB cJ) sz) := by
  refine aBJ (own := RX9) (dC, dI) (tyl cI cC cZ cB cJ) (wd_X9_isFewer cI cC cZ cB cJ) sz [.int p0, .int p1] (fun A => q_X9_isFewer dC dI cI cC cZ cB cJ A post) pn_RX9 rfl (lbz rfl) ?_
  intro p e s m args below meth c A H locs ls C0 hP hD hS hl
  have hl : lv_has ls 3 [(0, .int p0), (1, .int p1)] := hl
  obtain ⟨hx, hb, hr, hml, hown, hts, hlocks, hA, hK, hN, tL, tM, hZL, hTL, hZM, hTM, hZX⟩ := id C0
  have hp := hw
  unfold wp_X9_isFewer at hp
  refine lv_iload_n hx hb aRQ.1 rfl (lv_at hl 0 rfl) ?_
  refine yW (wc := (aBh cI cC cZ cB cJ)) hP hD hS hA [] [] rfl rfl rfl rfl (aDn (As := [.int p0]) (rest := []) C0 hP hD hS [] rfl rfl (aBv l dC dI cI cC cZ cB cJ H.size p0 _ hp) q_320 q_474 q_322 q_321 aBw rfl rfl ⟨lbz rfl, lbz rfl⟩ rfl rfl hl.1 rfl (lv_room (lbz rfl)) aRQ.2.1 ⟨Nat.zero_le _, Nat.zero_le _⟩) (fun r_1 u H locs hp hP hD hS => ?_)
  refine lv_iload_n hx hb aRQ.2.2.1 rfl (lv_at hl 1 rfl) ?_
  refine yW (wc := (aBh cI cC cZ cB cJ)) hP hD hS hA [] [] rfl rfl rfl rfl (aDn (As := [.int p1]) (rest := [.int r_1]) C0 hP hD hS [] rfl rfl (aBv l dC dI cI cC cZ cB cJ H.size p1 _ hp) q_320 q_474 q_322 q_321 aBw rfl rfl ⟨lbz rfl, lbz rfl⟩ rfl rfl hl.1 rfl (lv_room (lbz rfl)) aRQ.2.2.2.1 ⟨Nat.zero_le _, Nat.zero_le _⟩) (fun r_2 u H locs hp hP hD hS => ?_)
  refine lv_isub hx hb aRQ.2.2.2.2.1 ?_
  refine lv_topi (fun v_3 aGW => ?_)
  have hp := hp v_3 aGW
  refine lv_istore_n (lv' := [(2, .int v_3), (0, .int p0), (1, .int p1)]) hx hb aRQ.2.2.2.2.2.1 rfl hl (by decide) rfl (fun ls hl => ?_)
  refine lv_iload_n hx hb aRQ.2.2.2.2.2.2.1 rfl (lv_at hl 0 rfl) ?_
  refine lv_if_lt (tgt := 23) hx hb aRQ.2.2.2.2.2.2.2.1 (by decide) (fun hc => ?_) (fun hc => ?_)
  · have hp := hp.1 hc
    exact ks_X9_isFewer_23 C0 H locs ls hp hP hD hS (lv_sub hl [] rfl)
  · have hp := hp.2 hc
    refine lv_iload_n hx hb aRQ.2.2.2.2.2.2.2.2.1 rfl (lv_at hl 0 rfl) ?_
    refine lv_if_ne (tgt := 27) hx hb aRQ.2.2.2.2.2.2.2.2.2.1 (by decide) (fun hc => ?_) (fun hc => ?_)
    · have hp := hp.1 hc
      refine lv_iconst (v := 0) hx hb aRQ.2.2.2.2.2.2.2.2.2.2.2.2.2.2.2 aCi ?_
      exact W.zret (v := 0) hx hb hr rfl (fun t ht hW => ⟨⟨0, (), rfl, hp, by rw [ht]; exact hP, va_K.moved hW.alike hK, hD⟩, hS.F ht⟩) hS.2.2 dX9_isFewer_28
    · have hp := hp.2 hc
      refine lv_iload_n hx hb aRQ.2.2.2.2.2.2.2.2.2.2.1 rfl (lv_at hl 1 rfl) ?_
      refine lv_iload_n hx hb aRQ.2.2.2.2.2.2.2.2.2.2.2.1 rfl (lv_at hl 2 rfl) ?_
      refine lv_icmp_ge (tgt := 27) hx hb aRQ.2.2.2.2.2.2.2.2.2.2.2.2.1 (by decide) (fun hc => ?_) (fun hc => ?_)
      · have hp := hp.1 hc
        refine lv_iconst (v := 0) hx hb aRQ.2.2.2.2.2.2.2.2.2.2.2.2.2.2.2 aCi ?_
        exact W.zret (v := 0) hx hb hr rfl (fun t ht hW => ⟨⟨0, (), rfl, hp, by rw [ht]; exact hP, va_K.moved hW.alike hK, hD⟩, hS.F ht⟩) hS.2.2 dX9_isFewer_28
      · have hp := hp.2 hc
        exact ks_X9_isFewer_23 C0 H locs ls hp hP hD hS (lv_sub hl [] rfl)
abbrev aKP (cI cC cZ cB cJ : ClassId) (a_x xI xH xB vI wY xX yA xY uD uJ rW uQ uP uO xO tJ jJ mY pG pD pE eO rG : Nat) (oY rJ pX rO : Int32) (rD : Nat -> Int32) (dN bD bJ aI : Int32) (uU gF pL qF mX oE dY : Nat -> Int32) (jE eW eY dU fY gJ jG nU qB : Int32) (jK : Nat -> Int32) : va_W := [(a_x, .inr (9, [.ref xI, .ref xH, .ref xB, .ref vI, .ref wY, .ref xX, .ref yA, .ref xY, .ref uD])), (xH, .inr (5, [.ref xB, .ref vI, .ref uJ, .ref rW, .ref uQ, .ref uP, .ref uO, .int oY, .int rJ, .int pX, .int rO])), (uJ, .inl (cI, 8, .inl rD)), (xB, .inr (0, [.ref vI, .ref wY, .ref xO])), (vI, .inr (3, [.ref tJ, .ref jJ, .ref mY, .ref pG, .ref pD, .ref pE, .ref eO, .int dN, .int bD, .int bJ, .int aI])), (tJ, .inl (cI, 16, .inl uU)), (jJ, .inl (cI, 16, .inl gF)), (mY, .inl (cI, 16, .inl pL)), (pG, .inl (cI, 16, .inl qF)), (pD, .inl (cI, 8, .inl mX)), (pE, .inl (cI, 8, .inl oE)), (eO, .inl (cI, 5, .inl dY)), (wY, .inr (2, [.int jE, .int eW, .int eY, .int dU, .int fY, .int gJ, .int jG, .int nU])), (yA, .inr (6, [.ref rG, .int qB])), (rG, .inl (cI, 16, .inl jK))]
abbrev q_X9_birds (dC : Nat -> ClassId) (dI : Nat -> Nat -> Nat) (cI cC cZ cB cJ : ClassId) (A : Nat -> Prop) (a_x xI xH xB vI wY xX yA xY uD uJ rW uQ uP uO xO tJ jJ mY pG pD pE eO rG : Nat) (rJ pX rO dN bD bJ aI : Int32) (uU gF pL qF mX oE dY : Nat -> Int32) (jE eW eY dU fY gJ jG nU : Int32) (post : Int32 -> Int32 -> (Nat -> Int32) -> Int32 -> (Nat -> Int32) -> Prop) : Array Value -> State -> Outcome -> State -> Prop := va_Qi (fun (r : Int32) (u : Int32 × (Nat -> Int32) × Int32 × (Nat -> Int32)) => post r u.1 u.2.1 u.2.2.1 u.2.2.2) (fun u t => gB (dC, dI) (tyl cI cC cZ cB cJ) A (aKP cI cC cZ cB cJ a_x xI xH xB vI wY xX yA xY uD uJ rW uQ uP uO xO tJ jJ mY pG pD pE eO rG u.1 rJ pX rO u.2.1 dN bD bJ aI uU gF pL qF mX oE dY jE eW eY dU fY gJ jG nU u.2.2.1 u.2.2.2) t) A
abbrev rm_X9_birds : Room := { frames := 5, cells := 0, slots := 0, locals := 115 }
section S_X9_birds
variable {p : Program} {l : Launch} {e : Env} {s : State} {m : MethodId} {args : Array Value} {below : List Frame} {meth : Method} {c : Code} {dC : Nat -> ClassId} {dI : Nat -> Nat -> Nat} {cI cC cZ cB cJ : ClassId} {A : Nat -> Prop} {a_x xI xH xB vI wY xX yA xY uD uJ rW uQ uP uO xO tJ jJ mY pG pD pE eO rG : Nat} {rJ pX rO dN bD bJ aI : Int32} {uU gF pL qF mX oE dY : Nat -> Int32} {jE eW eY dU fY gJ jG nU : Int32} {post : Int32 -> Int32 -> (Nat -> Int32) -> Int32 -> (Nat -> Int32) -> Prop}
def ws_X9_birds_92 (post : Int32 -> Int32 -> (Nat -> Int32) -> Int32 -> (Nat -> Int32) -> Prop) (K33 : Int32 -> Int32 -> Int32 -> Int32 -> Int32 -> (Nat -> Int32) -> Int32 -> (Nat -> Int32) -> Prop) (dN bD : Int32) (uU gF pL qF mX oE dY : Nat -> Int32) (jE eW eY dU gJ jG x1 x2 x3 x4 oY : Int32) (rD : Nat -> Int32) (qB : Int32) (jK : Nat -> Int32) : Prop := ∀ aEr : Int32, aEr = x4 + 1 -> K33 x1 x2 x3 aEr oY rD qB jK
set_option maxHeartbeats 4000000 in
set_option maxRecDepth 100000 in
theorem ks_X9_birds_92 (C0 : gc aD3 (some .int) 6 RX9 (dC, dI) (tyl cI cC cZ cB cJ) A p s m args meth c) {K33 : Int32 -> Int32 -> Int32 -> Int32 -> Int32 -> (Nat -> Int32) -> Int32 -> (Nat -> Int32) -> Prop} (hK33 : ∀ (x1 : Int32) (x2 : Int32) (x3 : Int32) (x4 : Int32) (oY : Int32) (rD : Nat -> Int32) (qB : Int32) (jK : Nat -> Int32) (H : Heap) (locs : List Loc) (ls : Array Slot), K33 x1 x2 x3 x4 oY rD qB jK -> va_P (dC, dI) classes (aKP cI cC cZ cB cJ a_x xI xH xB vI wY xX yA xY uD uJ rW uQ uP uO xO tJ jJ mY pG pD pE eO rG oY rJ pX rO rD dN bD bJ aI uU gF pL qF mX oE dY jE eW eY dU fY gJ jG nU qB jK) H -> va_D A (aKP cI cC cZ cB cJ a_x xI xH xB vI wY xX yA xY uD uJ rW uQ uP uO xO tJ jJ mY pG pD pE eO rG oY rJ pX rO rD dN bD bJ aI uU gF pL qF mX oE dY jE eW eY dU fY gJ jG nU qB jK) -> va_S A s.heap H locs -> lv_has ls 6 [(0, .ref a_x), (1, .int x1), (2, .int x2), (3, .int x3), (4, .int x4)] -> W p l e rm_X9_birds s m args below meth c H locs 0 0 (MQ below (q_X9_birds dC dI cI cC cZ cB cJ A a_x xI xH xB vI wY xX yA xY uD uJ rW uQ uP uO xO tJ jJ mY pG pD pE eO rG rJ pX rO dN bD bJ aI uU gF pL qF mX oE dY jE eW eY dU fY gJ jG nU post) args s 0 0 A) (F0 m 33 ls [])) : ∀ (x1 x2 x3 x4 oY : Int32) (rD : Nat -> Int32) (qB : Int32) (jK : Nat -> Int32) (H : Heap) (locs : List Loc) (ls : Array Slot), (ws_X9_birds_92 post K33 dN bD uU gF pL qF mX oE dY jE eW eY dU gJ jG) x1 x2 x3 x4 oY rD qB jK -> va_P (dC, dI) classes (aKP cI cC cZ cB cJ a_x xI xH xB vI wY xX yA xY uD uJ rW uQ uP uO xO tJ jJ mY pG pD pE eO rG oY rJ pX rO rD dN bD bJ aI uU gF pL qF mX oE dY jE eW eY dU fY gJ jG nU qB jK) H -> va_D A (aKP cI cC cZ cB cJ a_x xI xH xB vI wY xX yA xY uD uJ rW uQ uP uO xO tJ jJ mY pG pD pE eO rG oY rJ pX rO rD dN bD bJ aI uU gF pL qF mX oE dY jE eW eY dU fY gJ jG nU qB jK) -> va_S A s.heap H locs -> lv_has ls 6 [(0, .ref a_x), (1, .int x1), (2, .int x2), (3, .int x3), (4, .int x4)] -> W p l e rm_X9_birds s m args below meth c H locs 0 0 (MQ below (q_X9_birds dC dI cI cC cZ cB cJ A a_x xI xH xB vI wY xX yA xY uD uJ rW uQ uP uO xO tJ jJ mY pG pD pE eO rG rJ pX rO dN bD bJ aI uU gF pL qF mX oE dY jE eW eY dU fY gJ jG nU post) args s 0 0 A) (F0 m 92 ls []) := by
  obtain ⟨hx, hb, hr, hml, hown, hts, hlocks, hA, hK, hN, tL, tM, hZL, hTL, hZM, hTM, hZX⟩ := id C0
  intro x1 x2 x3 x4 oY rD qB jK H locs ls hp hP hD hS hl
  unfold ws_X9_birds_92 at hp
  obtain ⟨aEr, aNB⟩ : ∃ y : Int32, y = x4 + 1 := ⟨_, rfl⟩
  refine lv_iinc (v := aEr) (lv' := [(4, .int aEr), (0, .ref a_x), (1, .int x1), (2, .int x2), (3, .int x3)]) hx hb aWj.2.2.2.2.2.1 hl (k := 4) rfl (by rw [aNB]; rfl) (by decide) rfl (fun ls hl => ?_)
  have hp := hp aEr aNB
  refine lv_goto (tgt := 33) hx hb aWj.2.2.2.2.2.2.1 (by decide) ?_
  exact hK33 x1 x2 x3 aEr oY rD qB jK H locs ls hp hP hD hS (lv_sub hl [1, 2, 3, 4, 0] rfl)
def ws_X9_birds_86 (post : Int32 -> Int32 -> (Nat -> Int32) -> Int32 -> (Nat -> Int32) -> Prop) (K33 : Int32 -> Int32 -> Int32 -> Int32 -> Int32 -> (Nat -> Int32) -> Int32 -> (Nat -> Int32) -> Prop) (dN bD : Int32) (uU gF pL qF mX oE dY : Nat -> Int32) (jE eW eY dU gJ jG x1 x4 x5 oY : Int32) (rD : Nat -> Int32) (qB : Int32) (jK : Nat -> Int32) : Prop := ws_X9_birds_92 post K33 dN bD uU gF pL qF mX oE dY jE eW eY dU gJ jG x1 x4 x5 x4 oY rD qB jK
set_option maxHeartbeats 4000000 in
set_option maxRecDepth 100000 in
theorem ks_X9_birds_86 (C0 : gc aD3 (some .int) 6 RX9 (dC, dI) (tyl cI cC cZ cB cJ) A p s m args meth c) {K33 : Int32 -> Int32 -> Int32 -> Int32 -> Int32 -> (Nat -> Int32) -> Int32 -> (Nat -> Int32) -> Prop} (hK33 : ∀ (x1 : Int32) (x2 : Int32) (x3 : Int32) (x4 : Int32) (oY : Int32) (rD : Nat -> Int32) (qB : Int32) (jK : Nat -> Int32) (H : Heap) (locs : List Loc) (ls : Array Slot), K33 x1 x2 x3 x4 oY rD qB jK -> va_P (dC, dI) classes (aKP cI cC cZ cB cJ a_x xI xH xB vI wY xX yA xY uD uJ rW uQ uP uO xO tJ jJ mY pG pD pE eO rG oY rJ pX rO rD dN bD bJ aI uU gF pL qF mX oE dY jE eW eY dU fY gJ jG nU qB jK) H -> va_D A (aKP cI cC cZ cB cJ a_x xI xH xB vI wY xX yA xY uD uJ rW uQ uP uO xO tJ jJ mY pG pD pE eO rG oY rJ pX rO rD dN bD bJ aI uU gF pL qF mX oE dY jE eW eY dU fY gJ jG nU qB jK) -> va_S A s.heap H locs -> lv_has ls 6 [(0, .ref a_x), (1, .int x1), (2, .int x2), (3, .int x3), (4, .int x4)] -> W p l e rm_X9_birds s m args below meth c H locs 0 0 (MQ below (q_X9_birds dC dI cI cC cZ cB cJ A a_x xI xH xB vI wY xX yA xY uD uJ rW uQ uP uO xO tJ jJ mY pG pD pE eO rG rJ pX rO dN bD bJ aI uU gF pL qF mX oE dY jE eW eY dU fY gJ jG nU post) args s 0 0 A) (F0 m 33 ls [])) : ∀ (x1 x4 x5 oY : Int32) (rD : Nat -> Int32) (qB : Int32) (jK : Nat -> Int32) (H : Heap) (locs : List Loc) (ls : Array Slot), (ws_X9_birds_86 post K33 dN bD uU gF pL qF mX oE dY jE eW eY dU gJ jG) x1 x4 x5 oY rD qB jK -> va_P (dC, dI) classes (aKP cI cC cZ cB cJ a_x xI xH xB vI wY xX yA xY uD uJ rW uQ uP uO xO tJ jJ mY pG pD pE eO rG oY rJ pX rO rD dN bD bJ aI uU gF pL qF mX oE dY jE eW eY dU fY gJ jG nU qB jK) H -> va_D A (aKP cI cC cZ cB cJ a_x xI xH xB vI wY xX yA xY uD uJ rW uQ uP uO xO tJ jJ mY pG pD pE eO rG oY rJ pX rO rD dN bD bJ aI uU gF pL qF mX oE dY jE eW eY dU fY gJ jG nU qB jK) -> va_S A s.heap H locs -> lv_has ls 6 [(0, .ref a_x), (1, .int x1), (4, .int x4), (5, .int x5)] -> W p l e rm_X9_birds s m args below meth c H locs 0 0 (MQ below (q_X9_birds dC dI cI cC cZ cB cJ A a_x xI xH xB vI wY xX yA xY uD uJ rW uQ uP uO xO tJ jJ mY pG pD pE eO rG rJ pX rO dN bD bJ aI uU gF pL qF mX oE dY jE eW eY dU fY gJ jG nU post) args s 0 0 A) (F0 m 86 ls []) := by
  obtain ⟨hx, hb, hr, hml, hown, hts, hlocks, hA, hK, hN, tL, tM, hZL, hTL, hZM, hTM, hZX⟩ := id C0
  intro x1 x4 x5 oY rD qB jK H locs ls hp hP hD hS hl
  unfold ws_X9_birds_86 at hp
  refine lv_iload hx hb aWj.2.1 (lv_at hl 2 rfl) ?_
  refine lv_istore_n (lv' := [(2, .int x4), (0, .ref a_x), (1, .int x1), (4, .int x4), (5, .int x5)]) hx hb aWj.2.2.1 rfl hl (by decide) rfl (fun ls hl => ?_)
  refine lv_iload hx hb aWj.2.2.2.1 (lv_at hl 4 rfl) ?_
  refine lv_istore_n (lv' := [(3, .int x5), (2, .int x4), (0, .ref a_x), (1, .int x1), (4, .int x4), (5, .int x5)]) hx hb aWj.2.2.2.2.1 rfl hl (by decide) rfl (fun ls hl => ?_)
  exact ks_X9_birds_92 C0 hK33 x1 x4 x5 x4 oY rD qB jK H locs ls hp hP hD hS (lv_sub hl [2, 3, 1, 0, 4] rfl)
def ws_X9_birds_33 (post : Int32 -> Int32 -> (Nat -> Int32) -> Int32 -> (Nat -> Int32) -> Prop) (next : Int32 -> Int32 -> Int32 -> Int32 -> Int32 -> (Nat -> Int32) -> Int32 -> (Nat -> Int32) -> Prop) (dN bD : Int32) (uU gF pL qF mX oE dY : Nat -> Int32) (jE eW eY dU gJ jG x1 x2 x3 x4 oY : Int32) (rD : Nat -> Int32) (qB : Int32) (jK : Nat -> Int32) : Prop := aHs (fun r_4 => (r_4 < x4 -> aPV (fun r_5 => ∀ v_6 : Int32, v_6 = oY &&& (r_5 ^^^ (-1)) -> aPf (fun ro_size_7 aO7 => post x3 oY rD ro_size_7 aO7) x2 v_6 qB jK) x2 rD bD) /\ (¬ r_4 < x4 -> aBb (fun r_9 => (x1 < r_9 -> ws_X9_birds_92 post next dN bD uU gF pL qF mX oE dY jE eW eY dU gJ jG x1 x2 x3 x4 oY rD qB jK) /\ (¬ x1 < r_9 -> wp_X5_worthLeft (fun r_11 => (r_11 < x3 -> ws_X9_birds_86 post next dN bD uU gF pL qF mX oE dY jE eW eY dU gJ jG x1 x4 r_11 oY rD qB jK) /\ (¬ r_11 < x3 -> (¬ r_11 = x3 -> ws_X9_birds_92 post next dN bD uU gF pL qF mX oE dY jE eW eY dU gJ jG x1 x2 x3 x4 oY rD qB jK) /\ (r_11 = x3 -> wp_X9_isFewer (fun r_12 => (r_12 = 0 -> ws_X9_birds_92 post next dN bD uU gF pL qF mX oE dY jE eW eY dU gJ jG x1 x2 x3 x4 oY rD qB jK) /\ (¬ r_12 = 0 -> ws_X9_birds_86 post next dN bD uU gF pL qF mX oE dY jE eW eY dU gJ jG x1 x4 r_11 oY rD qB jK)) x4 x2))) x4 oY rD dN bD pL dU)) x4)) bD
noncomputable def wb_X9_birds_33 (post : Int32 -> Int32 -> (Nat -> Int32) -> Int32 -> (Nat -> Int32) -> Prop) (dN bD : Int32) (uU gF pL qF mX oE dY : Nat -> Int32) (jE eW eY dU gJ jG : Int32) : Nat -> Int32 -> Int32 -> Int32 -> Int32 -> Int32 -> (Nat -> Int32) -> Int32 -> (Nat -> Int32) -> Prop := fun n => Nat.rec (motive := fun _ => Int32 -> Int32 -> Int32 -> Int32 -> Int32 -> (Nat -> Int32) -> Int32 -> (Nat -> Int32) -> Prop) (fun _ _ _ _ _ _ _ _ => False) (fun _ ih => ws_X9_birds_33 post ih dN bD uU gF pL qF mX oE dY jE eW eY dU gJ jG) n
set_option maxHeartbeats 4000000 in
set_option maxRecDepth 100000 in
theorem ks_X9_birds_33 (C0 : gc aD3 (some .int) 6 RX9 (dC, dI) (tyl cI cC cZ cB cJ) A p s m args meth c) {next : Int32 -> Int32 -> Int32 -> Int32 -> Int32 -> (Nat -> Int32) -> Int32 -> (Nat -> Int32) -> Prop} (hKn : ∀ (x1 : Int32) (x2 : Int32) (x3 : Int32) (x4 : Int32) (oY : Int32) (rD : Nat -> Int32) (qB : Int32) (jK : Nat -> Int32) (H : Heap) (locs : List Loc) (ls : Array Slot), next x1 x2 x3 x4 oY rD qB jK -> va_P (dC, dI) classes (aKP cI cC cZ cB cJ a_x xI xH xB vI wY xX yA xY uD uJ rW uQ uP uO xO tJ jJ mY pG pD pE eO rG oY rJ pX rO rD dN bD bJ aI uU gF pL qF mX oE dY jE eW eY dU fY gJ jG nU qB jK) H -> va_D A (aKP cI cC cZ cB cJ a_x xI xH xB vI wY xX yA xY uD uJ rW uQ uP uO xO tJ jJ mY pG pD pE eO rG oY rJ pX rO rD dN bD bJ aI uU gF pL qF mX oE dY jE eW eY dU fY gJ jG nU qB jK) -> va_S A s.heap H locs -> lv_has ls 6 [(0, .ref a_x), (1, .int x1), (2, .int x2), (3, .int x3), (4, .int x4)] -> W p l e rm_X9_birds s m args below meth c H locs 0 0 (MQ below (q_X9_birds dC dI cI cC cZ cB cJ A a_x xI xH xB vI wY xX yA xY uD uJ rW uQ uP uO xO tJ jJ mY pG pD pE eO rG rJ pX rO dN bD bJ aI uU gF pL qF mX oE dY jE eW eY dU fY gJ jG nU post) args s 0 0 A) (F0 m 33 ls [])) : ∀ (x1 x2 x3 x4 oY : Int32) (rD : Nat -> Int32) (qB : Int32) (jK : Nat -> Int32) (H : Heap) (locs : List Loc) (ls : Array Slot), (ws_X9_birds_33 post next dN bD uU gF pL qF mX oE dY jE eW eY dU gJ jG) x1 x2 x3 x4 oY rD qB jK -> va_P (dC, dI) classes (aKP cI cC cZ cB cJ a_x xI xH xB vI wY xX yA xY uD uJ rW uQ uP uO xO tJ jJ mY pG pD pE eO rG oY rJ pX rO rD dN bD bJ aI uU gF pL qF mX oE dY jE eW eY dU fY gJ jG nU qB jK) H -> va_D A (aKP cI cC cZ cB cJ a_x xI xH xB vI wY xX yA xY uD uJ rW uQ uP uO xO tJ jJ mY pG pD pE eO rG oY rJ pX rO rD dN bD bJ aI uU gF pL qF mX oE dY jE eW eY dU fY gJ jG nU qB jK) -> va_S A s.heap H locs -> lv_has ls 6 [(0, .ref a_x), (1, .int x1), (2, .int x2), (3, .int x3), (4, .int x4)] -> W p l e rm_X9_birds s m args below meth c H locs 0 0 (MQ below (q_X9_birds dC dI cI cC cZ cB cJ A a_x xI xH xB vI wY xX yA xY uD uJ rW uQ uP uO xO tJ jJ mY pG pD pE eO rG rJ pX rO dN bD bJ aI uU gF pL qF mX oE dY jE eW eY dU fY gJ jG nU post) args s 0 0 A) (F0 m 33 ls []) := by
  obtain ⟨hx, hb, hr, hml, hown, hts, hlocks, hA, hK, hN, tL, tM, hZL, hTL, hZM, hTM, hZX⟩ := id C0
  intro x1 x2 x3 x4 oY rD qB jK H locs ls hp hP hD hS hl
  unfold ws_X9_birds_33 at hp
  refine lv_iload hx hb eX9_birds_29.2.2.2.1 (lv_at hl 4 rfl) ?_
  refine lv_aload_n hx hb eX9_birds_29.2.2.2.2.1 rfl (lv_at hl 0 rfl) ?_
  refine va_get (D := (dC, dI)) (ci := 9) (v := .ref vI) (C := RX9) (T := TX9) (N := 9) hx hb hts aC3 hown hK hP 0 rfl rfl 3 (lbz rfl) (hts _ q_74) (fun _ h9 => h9) rfl eX9_birds_29.2.2.2.2.2.1 ?_
  have hm := mgk (wc := (aHS cI cC cZ cB cJ vI tJ jJ mY pG pD pE eO dN bD bJ aI)) hP mk_126 15 rfl rfl rfl
  refine yW hP hD hS hA (yS mk_126) (aAi mk_126) hm.1 hm.2 (aAk _) (zW _) (zF (As := []) (rest := [.int x4]) C0 hP hD hS (yS mk_126) hm.1 (aAl _) 4 3 rfl rfl (aLl l dC dI cI cC cZ cB cJ vI tJ jJ mY pG pD pE eO H.size dN bD bJ aI _ hp) q_426 q_463 q_427 q_428 q_48 aLo rfl rfl ⟨lbz rfl, lbz rfl⟩ rfl rfl hl.1 rfl (lv_room (lbz rfl)) eX9_birds_29.2.2.2.2.2.2.1 ⟨Nat.zero_le _, Nat.zero_le _⟩) (fun r_4 u H locs hp hP hD hS => ?_)
  have hPD := PDm (ws' := (aKP cI cC cZ cB cJ a_x xI xH xB vI wY xX yA xY uD uJ rW uQ uP uO xO tJ jJ mY pG pD pE eO rG oY rJ pX rO rD dN bD bJ aI uU gF pL qF mX oE dY jE eW eY dU fY gJ jG nU qB jK)) hP hD 15 rfl rfl rfl
  have hP := hPD.1
  have hD := hPD.2
  refine lv_icmp_gt (tgt := 98) hx hb eX9_birds_29.2.2.2.2.2.2.2.1 (by decide) (fun hc => ?_) (fun hc => ?_)
  · have hp := hp.1 hc
    refine lv_aload_n hx hb aWj.2.2.2.2.2.2.2.1 rfl (lv_at hl 0 rfl) ?_
    refine lv_iload_n hx hb aWj.2.2.2.2.2.2.2.2.1 rfl (lv_at hl 2 rfl) ?_
    refine lv_aload_n hx hb aWj.2.2.2.2.2.2.2.2.2.1 rfl (lv_at hl 0 rfl) ?_
    refine va_get (D := (dC, dI)) (ci := 9) (v := .ref xH) (C := RX9) (T := TX9) (N := 9) hx hb hts aC3 hown hK hP 0 rfl rfl 1 (lbz rfl) (hts _ aOt) (fun _ h9 => h9) rfl aWj.2.2.2.2.2.2.2.2.2.2.1 ?_
    refine va_get (D := (dC, dI)) (ci := 5) (v := .int oY) (C := RX5) (T := TX5) (N := 11) hx hb hts i_X5 hown hK hP 1 rfl rfl 7 (lbz rfl) (hts _ q_462) (fun _ h9 => h9) rfl aWj.2.2.2.2.2.2.2.2.2.2.2.1 ?_
    refine lv_aload_n hx hb aWj.2.2.2.2.2.2.2.2.2.2.2.2.1 rfl (lv_at hl 0 rfl) ?_
    refine va_get (D := (dC, dI)) (ci := 9) (v := .ref xH) (C := RX9) (T := TX9) (N := 9) hx hb hts aC3 hown hK hP 0 rfl rfl 1 (lbz rfl) (hts _ aOt) (fun _ h9 => h9) rfl aWj.2.2.2.2.2.2.2.2.2.2.2.2.2.1 ?_
    refine lv_iload_n hx hb aWj.2.2.2.2.2.2.2.2.2.2.2.2.2.2.1 rfl (lv_at hl 2 rfl) ?_
    have hm := mgk (wc := (aHK cI cC cZ cB cJ xH xB vI uJ rW uQ uP uO tJ jJ mY pG pD pE eO oY rJ pX rO rD dN bD bJ aI)) hP mk_127 15 rfl rfl rfl
    refine yW hP hD hS hA (yS mk_127) (aAi mk_127) hm.1 hm.2 (aAk _) (zW _) (zF (As := [.int x2]) (rest := [.int oY, .int x2, .ref a_x]) C0 hP hD hS (yS mk_127) hm.1 (aAl _) 1 5 rfl rfl (c_X5_reachedBy l dC dI cI cC cZ cB cJ xH xB vI uJ rW uQ uP uO tJ jJ mY pG pD pE eO H.size x2 oY rJ pX rO rD dN bD bJ aI _ hp) q_430 q_472 q_432 q_433 aRn h_X5_reachedBy rfl rfl ⟨lbz rfl, lbz rfl⟩ rfl rfl hl.1 rfl (lv_room (lbz rfl)) aWj.2.2.2.2.2.2.2.2.2.2.2.2.2.2.2 ⟨Nat.zero_le _, Nat.zero_le _⟩) (fun r_5 u H locs hp hP hD hS => ?_)
    have hPD := PDm (ws' := (aKP cI cC cZ cB cJ a_x xI xH xB vI wY xX yA xY uD uJ rW uQ uP uO xO tJ jJ mY pG pD pE eO rG oY rJ pX rO rD dN bD bJ aI uU gF pL qF mX oE dY jE eW eY dU fY gJ jG nU qB jK)) hP hD 15 rfl rfl rfl
    have hP := hPD.1
    have hD := hPD.2
    refine lv_iconst (v := (-1)) hx hb eX9_birds_115.1 aEJ ?_
    refine lv_ixor hx hb eX9_birds_115.2.1 ?_
    refine lv_iand hx hb eX9_birds_115.2.2.1 ?_
    refine lv_topi (fun v_6 ev_6 => ?_)
    have hp := hp v_6 ev_6
    have hm := mgk (wc := (aRW cI cC cZ cB cJ a_x xI xH xB vI wY xX yA xY uD rG qB jK)) hP mk_128 15 rfl rfl rfl
    refine aBn hP hD hS hA (yS mk_128) (aAi mk_128) hm.1 hm.2 (aAk _) (zW _) (zF (As := [.int x2, .int v_6]) (rest := []) C0 hP hD hS (yS mk_128) hm.1 (aAl _) 0 9 rfl rfl (c_X9_tell_ l dC dI cI cC cZ cB cJ a_x xI xH xB vI wY xX yA xY uD rG H.size x2 v_6 qB jK _ hp) q_377 q_380 q_378 q_379 aIl h_X9_tell_ rfl rfl ⟨lbz rfl, lbz rfl⟩ rfl rfl hl.1 rfl (lv_room (lbz rfl)) eX9_birds_115.2.2.2.1 ⟨Nat.zero_le _, Nat.zero_le _⟩) (fun u H locs hp hP hD hS => ?_)
    obtain ⟨ro_size_7, aO7⟩ := u
    have hPD := PDm (ws' := (aKP cI cC cZ cB cJ a_x xI xH xB vI wY xX yA xY uD uJ rW uQ uP uO xO tJ jJ mY pG pD pE eO rG oY rJ pX rO rD dN bD bJ aI uU gF pL qF mX oE dY jE eW eY dU fY gJ jG nU ro_size_7 aO7)) hP hD 15 rfl rfl rfl
    have hP := hPD.1
    have hD := hPD.2
    refine lv_iload_n hx hb eX9_birds_115.2.2.2.2.1 rfl (lv_at hl 3 rfl) ?_
    exact W.iret (v := x3) hx hb hr (fun t ht hW => ⟨⟨x3, (oY, rD, ro_size_7, aO7), rfl, hp, by rw [ht]; exact hP, va_K.moved hW.alike hK, hD⟩, hS.F ht⟩) hS.2.2 eX9_birds_115.2.2.2.2.2
  · have hp := hp.2 hc
    refine lv_iload hx hb eX9_birds_29.2.2.2.2.2.2.2.2.1 (lv_at hl 4 rfl) ?_
    have hm := mgk (wc := (aBh cI cC cZ cB cJ)) hP mk_129 15 rfl rfl rfl
    refine yW hP hD hS hA (yS mk_129) (aAi mk_129) hm.1 hm.2 (aAk _) (zW _) (aDn (As := [.int x4]) (rest := []) C0 hP hD hS (yS mk_129) hm.1 (aAl _) (aBv l dC dI cI cC cZ cB cJ H.size x4 _ hp) q_320 q_474 q_322 q_321 aBw rfl rfl ⟨lbz rfl, lbz rfl⟩ rfl rfl hl.1 rfl (lv_room (lbz rfl)) eX9_birds_29.2.2.2.2.2.2.2.2.2 ⟨Nat.zero_le _, Nat.zero_le _⟩) (fun r_9 u H locs hp hP hD hS => ?_)
    have hPD := PDm (ws' := (aKP cI cC cZ cB cJ a_x xI xH xB vI wY xX yA xY uD uJ rW uQ uP uO xO tJ jJ mY pG pD pE eO rG oY rJ pX rO rD dN bD bJ aI uU gF pL qF mX oE dY jE eW eY dU fY gJ jG nU qB jK)) hP hD 15 rfl rfl rfl
    have hP := hPD.1
    have hD := hPD.2
    refine lv_iload_n hx hb aWi.1 rfl (lv_at hl 1 rfl) ?_
    refine lv_icmp_gt (tgt := 92) hx hb aWi.2.1 (by decide) (fun hc => ?_) (fun hc => ?_)
    · have hp := hp.1 hc
      exact ks_X9_birds_92 C0 hKn x1 x2 x3 x4 oY rD qB jK H locs ls hp hP hD hS (lv_sub hl [0, 1, 2, 3, 4] rfl)
    · have hp := hp.2 hc
      refine lv_aload_n hx hb aWi.2.2.1 rfl (lv_at hl 0 rfl) ?_
      refine va_get (D := (dC, dI)) (ci := 9) (v := .ref xH) (C := RX9) (T := TX9) (N := 9) hx hb hts aC3 hown hK hP 0 rfl rfl 1 (lbz rfl) (hts _ aOt) (fun _ h9 => h9) rfl aWi.2.2.2.1 ?_
      refine lv_iload hx hb aWi.2.2.2.2.1 (lv_at hl 4 rfl) ?_
      have hm := mgk (wc := (aY4 cI cC cZ cB cJ xH xB vI uJ rW uQ uP uO wY xO tJ jJ mY pG pD pE eO oY rJ pX rO rD dN bD bJ aI pL jE eW eY dU fY gJ jG nU)) hP mk_130 15 rfl rfl rfl
      refine yW hP hD hS hA (yS mk_130) (aAi mk_130) hm.1 hm.2 (aAk _) (zW _) (zF (As := [.int x4]) (rest := []) C0 hP hD hS (yS mk_130) hm.1 (aAl _) 1 5 rfl rfl (c_X5_worthLeft l dC dI cI cC cZ cB cJ xH xB vI uJ rW uQ uP uO wY xO tJ jJ mY pG pD pE eO H.size x4 oY rJ pX rO rD dN bD bJ aI pL jE eW eY dU fY gJ jG nU _ hp) q_475 q_478 q_476 q_477 aRn h_X5_worthLeft rfl rfl ⟨lbz rfl, lbz rfl⟩ rfl rfl hl.1 rfl (lv_room (lbz rfl)) aWi.2.2.2.2.2.1 ⟨Nat.zero_le _, Nat.zero_le _⟩) (fun r_11 u H locs hp hP hD hS => ?_)
      have hPD := PDm (ws' := (aKP cI cC cZ cB cJ a_x xI xH xB vI wY xX yA xY uD uJ rW uQ uP uO xO tJ jJ mY pG pD pE eO rG oY rJ pX rO rD dN bD bJ aI uU gF pL qF mX oE dY jE eW eY dU fY gJ jG nU qB jK)) hP hD 15 rfl rfl rfl
      have hP := hPD.1
      have hD := hPD.2
      refine lv_istore (lv' := [(5, .int r_11), (0, .ref a_x), (1, .int x1), (2, .int x2), (3, .int x3), (4, .int x4)]) hx hb aWi.2.2.2.2.2.2.1 hl (by decide) rfl (fun ls hl => ?_)
      refine lv_iload hx hb aWi.2.2.2.2.2.2.2.1 (lv_at hl 0 rfl) ?_
      refine lv_iload_n hx hb aWi.2.2.2.2.2.2.2.2.1 rfl (lv_at hl 4 rfl) ?_
      refine lv_icmp_lt (tgt := 86) hx hb aWi.2.2.2.2.2.2.2.2.2.1 (by decide) (fun hc => ?_) (fun hc => ?_)
      · have hp := hp.1 hc
        exact ks_X9_birds_86 C0 hKn x1 x4 r_11 oY rD qB jK H locs ls hp hP hD hS (lv_sub hl [1, 2, 5, 0] rfl)
      · have hp := hp.2 hc
        refine lv_iload hx hb aWi.2.2.2.2.2.2.2.2.2.2.1 (lv_at hl 0 rfl) ?_
        refine lv_iload_n hx hb aWi.2.2.2.2.2.2.2.2.2.2.2.1 rfl (lv_at hl 4 rfl) ?_
        refine lv_icmp_ne (tgt := 92) hx hb aWi.2.2.2.2.2.2.2.2.2.2.2.2.1 (by decide) (fun hc => ?_) (fun hc => ?_)
        · have hp := hp.1 hc
          exact ks_X9_birds_92 C0 hKn x1 x2 x3 x4 oY rD qB jK H locs ls hp hP hD hS (lv_sub hl [1, 2, 3, 4, 5] rfl)
        · have hp := hp.2 hc
          refine lv_iload hx hb aWi.2.2.2.2.2.2.2.2.2.2.2.2.2.1 (lv_at hl 5 rfl) ?_
          refine lv_iload_n hx hb aWi.2.2.2.2.2.2.2.2.2.2.2.2.2.2.1 rfl (lv_at hl 3 rfl) ?_
          have hm := mgk (wc := (wd_X9_isFewer cI cC cZ cB cJ)) hP mk_129 15 rfl rfl rfl
          refine yW hP hD hS hA (yS mk_129) (aAi mk_129) hm.1 hm.2 (aAk _) (zW _) (aDn (As := [.int x4, .int x2]) (rest := []) C0 hP hD hS (yS mk_129) hm.1 (aAl _) (c_X9_isFewer l dC dI cI cC cZ cB cJ H.size x4 x2 _ hp) q_479 q_481 q_480 aIl h_X9_isFewer rfl rfl ⟨lbz rfl, lbz rfl⟩ rfl rfl hl.1 rfl (lv_room (lbz rfl)) aWi.2.2.2.2.2.2.2.2.2.2.2.2.2.2.2 ⟨Nat.zero_le _, Nat.zero_le _⟩) (fun r_12 u H locs hp hP hD hS => ?_)
          have hPD := PDm (ws' := (aKP cI cC cZ cB cJ a_x xI xH xB vI wY xX yA xY uD uJ rW uQ uP uO xO tJ jJ mY pG pD pE eO rG oY rJ pX rO rD dN bD bJ aI uU gF pL qF mX oE dY jE eW eY dU fY gJ jG nU qB jK)) hP hD 15 rfl rfl rfl
          have hP := hPD.1
          have hD := hPD.2
          refine lv_if_eq (tgt := 92) hx hb aWj.1 (by decide) (fun hc => ?_) (fun hc => ?_)
          · have hp := hp.1 hc
            exact ks_X9_birds_92 C0 hKn x1 x2 x3 x4 oY rD qB jK H locs ls hp hP hD hS (lv_sub hl [1, 2, 3, 4, 5] rfl)
          · have hp := hp.2 hc
            exact ks_X9_birds_86 C0 hKn x1 x4 r_11 oY rD qB jK H locs ls hp hP hD hS (lv_sub hl [1, 2, 5, 0] rfl)
set_option maxHeartbeats 4000000 in
set_option maxRecDepth 100000 in
theorem kb_X9_birds_33 (C0 : gc aD3 (some .int) 6 RX9 (dC, dI) (tyl cI cC cZ cB cJ) A p s m args meth c) : ∀ (n : Nat), ∀ (x1 x2 x3 x4 oY : Int32) (rD : Nat -> Int32) (qB : Int32) (jK : Nat -> Int32) (H : Heap) (locs : List Loc) (ls : Array Slot), (wb_X9_birds_33 post dN bD uU gF pL qF mX oE dY jE eW eY dU gJ jG n) x1 x2 x3 x4 oY rD qB jK -> va_P (dC, dI) classes (aKP cI cC cZ cB cJ a_x xI xH xB vI wY xX yA xY uD uJ rW uQ uP uO xO tJ jJ mY pG pD pE eO rG oY rJ pX rO rD dN bD bJ aI uU gF pL qF mX oE dY jE eW eY dU fY gJ jG nU qB jK) H -> va_D A (aKP cI cC cZ cB cJ a_x xI xH xB vI wY xX yA xY uD uJ rW uQ uP uO xO tJ jJ mY pG pD pE eO rG oY rJ pX rO rD dN bD bJ aI uU gF pL qF mX oE dY jE eW eY dU fY gJ jG nU qB jK) -> va_S A s.heap H locs -> lv_has ls 6 [(0, .ref a_x), (1, .int x1), (2, .int x2), (3, .int x3), (4, .int x4)] -> W p l e rm_X9_birds s m args below meth c H locs 0 0 (MQ below (q_X9_birds dC dI cI cC cZ cB cJ A a_x xI xH xB vI wY xX yA xY uD uJ rW uQ uP uO xO tJ jJ mY pG pD pE eO rG rJ pX rO dN bD bJ aI uU gF pL qF mX oE dY jE eW eY dU fY gJ jG nU post) args s 0 0 A) (F0 m 33 ls []) := by
  intro n
  induction n with
  | zero =>
    intro x1 x2 x3 x4 oY rD qB jK H locs ls hp
    exact False.elim hp
  | succ n ih =>
    intro x1 x2 x3 x4 oY rD qB jK H locs ls hp
    exact ks_X9_birds_33 C0 ih x1 x2 x3 x4 oY rD qB jK H locs ls hp
end S_X9_birds
def wp_X9_birds (post : Int32 -> Int32 -> (Nat -> Int32) -> Int32 -> (Nat -> Int32) -> Prop) (p0 oY : Int32) (rD : Nat -> Int32) (dN bD : Int32) (uU gF pL qF mX oE dY : Nat -> Int32) (jE eW eY dU gJ jG qB : Int32) (jK : Nat -> Int32) : Prop := (p0 < 0 -> post (-1) oY rD qB jK) /\ (¬ p0 < 0 -> (p0 <= 8 -> aZL (fun aBo aCo => wp_X5_worthLeft (fun r_3 => ∃ n : Nat, wb_X9_birds_33 post dN bD uU gF pL qF mX oE dY jE eW eY dU gJ jG n p0 0 r_3 1 aBo aCo qB jK) 0 aBo aCo dN bD pL dU) oY rD dN bD uU gF qF mX oE dY jE eW eY gJ jG) /\ (¬ p0 <= 8 -> post (-1) oY rD qB jK))
set_option maxHeartbeats 4000000 in
set_option maxRecDepth 100000 in
theorem c_X9_birds (l : Launch) (dC : Nat -> ClassId) (dI : Nat -> Nat -> Nat) (cI cC cZ cB cJ : ClassId) (a_x xI xH xB vI wY xX yA xY uD uJ rW uQ uP uO xO tJ jJ mY pG pD pE eO rG sz : Nat) (p0 oY rJ pX rO : Int32) (rD : Nat -> Int32) (dN bD bJ aI : Int32) (uU gF pL qF mX oE dY : Nat -> Int32) (jE eW eY dU fY gJ jG nU qB : Int32) (jK : Nat -> Int32) (post : Int32 -> Int32 -> (Nat -> Int32) -> Int32 -> (Nat -> Int32) -> Prop) (hw : wp_X9_birds post p0 oY rD dN bD uU gF pL qF mX oE dY jE eW eY dU gJ jG qB jK) : Met l yX9_birds (gw yX9_birds aD3 6 (some .int)) rm_X9_birds (va_Pc [.ref a_x, .int p0] (gPre (dC, dI) (tyl cI cC cZ cB cJ) (aKP cI cC cZ cB cJ a_x xI xH xB vI wY xX yA xY uD uJ rW uQ uP uO xO tJ jJ mY pG pD pE eO rG oY rJ pX rO rD dN bD bJ aI uU gF pL qF mX oE dY jE eW eY dU fY gJ jG nU qB jK) sz)) (q_X9_birds dC dI cI cC cZ cB cJ (va_A (aKP cI cC cZ cB cJ a_x xI xH xB vI wY xX yA xY uD uJ rW uQ uP uO xO tJ jJ mY pG pD pE eO rG oY rJ pX rO rD dN bD bJ aI uU gF pL qF mX oE dY jE eW eY dU fY gJ jG nU qB jK) sz) a_x xI xH xB vI wY xX yA xY uD uJ rW uQ uP uO xO tJ jJ mY pG pD pE eO rG rJ pX rO dN bD bJ aI uU gF pL qF mX oE dY jE eW eY dU fY gJ jG nU post) 0 0 (va_A (aKP cI cC cZ cB cJ a_x xI xH xB vI wY xX yA xY uD uJ rW uQ uP uO xO tJ jJ mY pG pD pE eO rG oY rJ pX rO rD dN bD bJ aI uU gF pL qF mX oE dY jE eW eY dU fY gJ jG nU qB jK) sz) := by
  refine aBJ (own := RX9) (dC, dI) (tyl cI cC cZ cB cJ) (aKP cI cC cZ cB cJ a_x xI xH xB vI wY xX yA xY uD uJ rW uQ uP uO xO tJ jJ mY pG pD pE eO rG oY rJ pX rO rD dN bD bJ aI uU gF pL qF mX oE dY jE eW eY dU fY gJ jG nU qB jK) sz [.ref a_x, .int p0] (fun A => q_X9_birds dC dI cI cC cZ cB cJ A a_x xI xH xB vI wY xX yA xY uD uJ rW uQ uP uO xO tJ jJ mY pG pD pE eO rG rJ pX rO dN bD bJ aI uU gF pL qF mX oE dY jE eW eY dU fY gJ jG nU post) pn_RX9 rfl (lbz rfl) ?_
  intro p e s m args below meth c A H locs ls C0 hP hD hS hl
  have hl : lv_has ls 6 [(0, .ref a_x), (1, .int p0)] := hl
  obtain ⟨hx, hb, hr, hml, hown, hts, hlocks, hA, hK, hN, tL, tM, hZL, hTL, hZM, hTM, hZX⟩ := id C0
  have hp := hw
  unfold wp_X9_birds at hp
  refine lv_iload_n hx hb aVb.1 rfl (lv_at hl 1 rfl) ?_
  refine lv_if_lt (tgt := 10) hx hb aVb.2.1 (by decide) (fun hc => ?_) (fun hc => ?_)
  · have hp := hp.1 hc
    refine lv_iconst (v := (-1)) hx hb aVb.2.2.2.2.2.1 aEJ ?_
    exact W.iret (v := (-1)) hx hb hr (fun t ht hW => ⟨⟨(-1), (oY, rD, qB, jK), rfl, hp, by rw [ht]; exact hP, va_K.moved hW.alike hK, hD⟩, hS.F ht⟩) hS.2.2 aVb.2.2.2.2.2.2.1
  · have hp := hp.2 hc
    refine lv_iload_n hx hb aVb.2.2.1 rfl (lv_at hl 1 rfl) ?_
    refine lv_bipush (v := 8) hx hb aVb.2.2.2.1 bp_8 ?_
    refine lv_icmp_le (tgt := 12) hx hb aVb.2.2.2.2.1 (by decide) (fun hc => ?_) (fun hc => ?_)
    · have hp := hp.1 hc
      refine lv_aload_n hx hb aVb.2.2.2.2.2.2.2.1 rfl (lv_at hl 0 rfl) ?_
      refine va_get (D := (dC, dI)) (ci := 9) (v := .ref xH) (C := RX9) (T := TX9) (N := 9) hx hb hts aC3 hown hK hP 0 rfl rfl 1 (lbz rfl) (hts _ aOt) (fun _ h9 => h9) rfl aVb.2.2.2.2.2.2.2.2.1 ?_
      have hm := mgk (wc := (aVN cI cC cZ cB cJ xH xB vI uJ rW uQ uP uO wY xO tJ jJ mY pG pD pE eO oY rJ pX rO rD dN bD bJ aI uU gF qF mX oE dY jE eW eY dU fY gJ jG nU)) hP mk_131 15 rfl rfl rfl
      refine aBn hP hD hS hA (yS mk_131) (aAi mk_131) hm.1 hm.2 (aAk _) (zW _) (zF (As := []) (rest := []) C0 hP hD hS (yS mk_131) hm.1 (aAl _) 1 5 rfl rfl (c_X5_look l dC dI cI cC cZ cB cJ xH xB vI uJ rW uQ uP uO wY xO tJ jJ mY pG pD pE eO H.size oY rJ pX rO rD dN bD bJ aI uU gF qF mX oE dY jE eW eY dU fY gJ jG nU _ hp) q_445 q_448 q_446 q_447 aRn h_X5_look rfl rfl ⟨lbz rfl, lbz rfl⟩ rfl rfl hl.1 rfl (lv_room (lbz rfl)) aVb.2.2.2.2.2.2.2.2.2.1 ⟨Nat.zero_le _, Nat.zero_le _⟩) (fun u H locs hp hP hD hS => ?_)
      obtain ⟨aBo, aCo⟩ := u
      have hPD := PDm (ws' := (aKP cI cC cZ cB cJ a_x xI xH xB vI wY xX yA xY uD uJ rW uQ uP uO xO tJ jJ mY pG pD pE eO rG aBo rJ pX rO aCo dN bD bJ aI uU gF pL qF mX oE dY jE eW eY dU fY gJ jG nU qB jK)) hP hD 15 rfl rfl rfl
      have hP := hPD.1
      have hD := hPD.2
      refine lv_iconst (v := 0) hx hb aVb.2.2.2.2.2.2.2.2.2.2.1 aCi ?_
      refine lv_istore_n (lv' := [(2, .int 0), (0, .ref a_x), (1, .int p0)]) hx hb aVb.2.2.2.2.2.2.2.2.2.2.2.1 rfl hl (by decide) rfl (fun ls hl => ?_)
      refine lv_aload_n hx hb aVb.2.2.2.2.2.2.2.2.2.2.2.2.1 rfl (lv_at hl 1 rfl) ?_
      refine va_get (D := (dC, dI)) (ci := 9) (v := .ref xH) (C := RX9) (T := TX9) (N := 9) hx hb hts aC3 hown hK hP 0 rfl rfl 1 (lbz rfl) (hts _ aOt) (fun _ h9 => h9) rfl aVb.2.2.2.2.2.2.2.2.2.2.2.2.2.1 ?_
      refine lv_iconst (v := 0) hx hb aVb.2.2.2.2.2.2.2.2.2.2.2.2.2.2.1 aCi ?_
      have hm := mgk (wc := (aY4 cI cC cZ cB cJ xH xB vI uJ rW uQ uP uO wY xO tJ jJ mY pG pD pE eO aBo rJ pX rO aCo dN bD bJ aI pL jE eW eY dU fY gJ jG nU)) hP mk_130 15 rfl rfl rfl
      refine yW hP hD hS hA (yS mk_130) (aAi mk_130) hm.1 hm.2 (aAk _) (zW _) (zF (As := [.int 0]) (rest := []) C0 hP hD hS (yS mk_130) hm.1 (aAl _) 1 5 rfl rfl (c_X5_worthLeft l dC dI cI cC cZ cB cJ xH xB vI uJ rW uQ uP uO wY xO tJ jJ mY pG pD pE eO H.size 0 aBo rJ pX rO aCo dN bD bJ aI pL jE eW eY dU fY gJ jG nU _ hp) q_475 q_478 q_476 q_477 aRn h_X5_worthLeft rfl rfl ⟨lbz rfl, lbz rfl⟩ rfl rfl hl.1 rfl (lv_room (lbz rfl)) aVb.2.2.2.2.2.2.2.2.2.2.2.2.2.2.2 ⟨Nat.zero_le _, Nat.zero_le _⟩) (fun r_3 u H locs hp hP hD hS => ?_)
      have hPD := PDm (ws' := (aKP cI cC cZ cB cJ a_x xI xH xB vI wY xX yA xY uD uJ rW uQ uP uO xO tJ jJ mY pG pD pE eO rG aBo rJ pX rO aCo dN bD bJ aI uU gF pL qF mX oE dY jE eW eY dU fY gJ jG nU qB jK)) hP hD 15 rfl rfl rfl
      have hP := hPD.1
      have hD := hPD.2
      refine lv_istore_n (lv' := [(3, .int r_3), (2, .int 0), (0, .ref a_x), (1, .int p0)]) hx hb eX9_birds_29.1 rfl hl (by decide) rfl (fun ls hl => ?_)
      refine lv_iconst (v := 1) hx hb eX9_birds_29.2.1 aDx ?_
      refine lv_istore (lv' := [(4, .int 1), (3, .int r_3), (2, .int 0), (0, .ref a_x), (1, .int p0)]) hx hb eX9_birds_29.2.2.1 hl (by decide) rfl (fun ls hl => ?_)
      obtain ⟨n9, hp⟩ := hp
      exact kb_X9_birds_33 C0 n9 p0 0 r_3 1 aBo aCo qB jK H locs ls hp hP hD hS (lv_sub hl [3, 4, 2, 1, 0] rfl)
    · have hp := hp.2 hc
      refine lv_iconst (v := (-1)) hx hb aVb.2.2.2.2.2.1 aEJ ?_
      exact W.iret (v := (-1)) hx hb hr (fun t ht hW => ⟨⟨(-1), (oY, rD, qB, jK), rfl, hp, by rw [ht]; exact hP, va_K.moved hW.alike hK, hD⟩, hS.F ht⟩) hS.2.2 aVb.2.2.2.2.2.2.1
abbrev aVM (cI cC cZ cB cJ : ClassId) (vI tJ jJ mY pG pD pE eO : Nat) (dN bD bJ aI : Int32) : va_W := [(vI, .inr (3, [.ref tJ, .ref jJ, .ref mY, .ref pG, .ref pD, .ref pE, .ref eO, .int dN, .int bD, .int bJ, .int aI]))]
abbrev q_X3_areStandings (dC : Nat -> ClassId) (dI : Nat -> Nat -> Nat) (cI cC cZ cB cJ : ClassId) (A : Nat -> Prop) (vI tJ jJ mY pG pD pE eO : Nat) (dN bD bJ aI : Int32) (post : Int32 -> Prop) : Array Value -> State -> Outcome -> State -> Prop := va_Qi (fun (r : Int32) (u : Unit) => post r) (fun u t => gB (dC, dI) (tyl cI cC cZ cB cJ) A (aVM cI cC cZ cB cJ vI tJ jJ mY pG pD pE eO dN bD bJ aI) t) A
abbrev rm_X3_areStandings : Room := { frames := 1, cells := 0, slots := 0, locals := 20 }
def wp_X3_areStandings (post : Int32 -> Prop) (p0 bD : Int32) : Prop := aHs (fun r_1 => (¬ (p0 &&& (r_1 ^^^ (-1))) = 0 -> post 0) /\ ((p0 &&& (r_1 ^^^ (-1))) = 0 -> post 1)) bD
set_option maxHeartbeats 4000000 in
set_option maxRecDepth 100000 in
theorem c_X3_areStandings (l : Launch) (dC : Nat -> ClassId) (dI : Nat -> Nat -> Nat) (cI cC cZ cB cJ : ClassId) (vI tJ jJ mY pG pD pE eO sz : Nat) (p0 dN bD bJ aI : Int32) (post : Int32 -> Prop) (hw : wp_X3_areStandings post p0 bD) : Met l aZh (gw aZh aRY 2 (some .boolean)) rm_X3_areStandings (va_Pc [.ref vI, .int p0] (gPre (dC, dI) (tyl cI cC cZ cB cJ) (aVM cI cC cZ cB cJ vI tJ jJ mY pG pD pE eO dN bD bJ aI) sz)) (q_X3_areStandings dC dI cI cC cZ cB cJ (va_A (aVM cI cC cZ cB cJ vI tJ jJ mY pG pD pE eO dN bD bJ aI) sz) vI tJ jJ mY pG pD pE eO dN bD bJ aI post) 0 0 (va_A (aVM cI cC cZ cB cJ vI tJ jJ mY pG pD pE eO dN bD bJ aI) sz) := by
  refine aBJ (own := RX3) (dC, dI) (tyl cI cC cZ cB cJ) (aVM cI cC cZ cB cJ vI tJ jJ mY pG pD pE eO dN bD bJ aI) sz [.ref vI, .int p0] (fun A => q_X3_areStandings dC dI cI cC cZ cB cJ A vI tJ jJ mY pG pD pE eO dN bD bJ aI post) pn_RX3 rfl (lbz rfl) ?_
  intro p e s m args below meth c A H locs ls C0 hP hD hS hl
  have hl : lv_has ls 2 [(0, .ref vI), (1, .int p0)] := hl
  obtain ⟨hx, hb, hr, hml, hown, hts, hlocks, hA, hK, hN, tL, tM, hZL, hTL, hZM, hTM, hZX⟩ := id C0
  have hp := hw
  unfold wp_X3_areStandings at hp
  refine lv_iload_n hx hb aPO.1 rfl (lv_at hl 1 rfl) ?_
  refine lv_aload_n hx hb aPO.2.1 rfl (lv_at hl 0 rfl) ?_
  refine yW (wc := (aHS cI cC cZ cB cJ vI tJ jJ mY pG pD pE eO dN bD bJ aI)) hP hD hS hA [0] [] rfl rfl rfl rfl (zF (As := []) (rest := [.int p0]) C0 hP hD hS [0] rfl rfl 0 3 rfl rfl (aLl l dC dI cI cC cZ cB cJ vI tJ jJ mY pG pD pE eO H.size dN bD bJ aI _ hp) q_426 q_482 q_427 q_428 q_48 aLo rfl rfl ⟨lbz rfl, lbz rfl⟩ rfl rfl hl.1 rfl (lv_room (lbz rfl)) aPO.2.2.1 ⟨Nat.zero_le _, Nat.zero_le _⟩) (fun r_1 u H locs hp hP hD hS => ?_)
  have hPD := PDs (ws' := (aVM cI cC cZ cB cJ vI tJ jJ mY pG pD pE eO dN bD bJ aI)) hP hD [0] (by decide) rfl
  have hP := hPD.1
  have hD := hPD.2
  refine lv_iconst (v := (-1)) hx hb aPO.2.2.2.1 aEJ ?_
  refine lv_ixor hx hb aPO.2.2.2.2.1 ?_
  refine lv_iand hx hb aPO.2.2.2.2.2.1 ?_
  refine lv_if_ne (tgt := 15) hx hb aPO.2.2.2.2.2.2.1 (by decide) (fun hc => ?_) (fun hc => ?_)
  · have hp := hp.1 hc
    refine lv_iconst (v := 0) hx hb aPO.2.2.2.2.2.2.2.2.2.1 aCi ?_
    exact W.zret (v := 0) hx hb hr rfl (fun t ht hW => ⟨⟨0, (), rfl, hp, by rw [ht]; exact hP, va_K.moved hW.alike hK, hD⟩, hS.F ht⟩) hS.2.2 aPO.2.2.2.2.2.2.2.2.2.2
  · have hp := hp.2 hc
    refine lv_iconst (v := 1) hx hb aPO.2.2.2.2.2.2.2.1 aDx ?_
    refine lv_goto (tgt := 16) hx hb aPO.2.2.2.2.2.2.2.2.1 (by decide) ?_
    exact W.zret (v := 1) hx hb hr rfl (fun t ht hW => ⟨⟨1, (), rfl, hp, by rw [ht]; exact hP, va_K.moved hW.alike hK, hD⟩, hS.F ht⟩) hS.2.2 aPO.2.2.2.2.2.2.2.2.2.2
abbrev aPU (cI cC cZ cB cJ : ClassId) (a_x xI xH xB vI wY xX yA xY uD uJ rW uQ uP uO xO tJ jJ mY pG pD pE eO rG : Nat) (oY rJ pX rO : Int32) (rD : Nat -> Int32) (dN bD bJ aI : Int32) (uU gF pL qF mX oE dY : Nat -> Int32) (jE eW eY dU fY gJ jG nU qB : Int32) (jK : Nat -> Int32) : va_W := [(a_x, .inr (9, [.ref xI, .ref xH, .ref xB, .ref vI, .ref wY, .ref xX, .ref yA, .ref xY, .ref uD])), (xH, .inr (5, [.ref xB, .ref vI, .ref uJ, .ref rW, .ref uQ, .ref uP, .ref uO, .int oY, .int rJ, .int pX, .int rO])), (uJ, .inl (cI, 8, .inl rD)), (xB, .inr (0, [.ref vI, .ref wY, .ref xO])), (vI, .inr (3, [.ref tJ, .ref jJ, .ref mY, .ref pG, .ref pD, .ref pE, .ref eO, .int dN, .int bD, .int bJ, .int aI])), (tJ, .inl (cI, 16, .inl uU)), (jJ, .inl (cI, 16, .inl gF)), (mY, .inl (cI, 16, .inl pL)), (pG, .inl (cI, 16, .inl qF)), (pD, .inl (cI, 8, .inl mX)), (pE, .inl (cI, 8, .inl oE)), (eO, .inl (cI, 5, .inl dY)), (wY, .inr (2, [.int jE, .int eW, .int eY, .int dU, .int fY, .int gJ, .int jG, .int nU])), (yA, .inr (6, [.ref rG, .int qB])), (rG, .inl (cI, 16, .inl jK))]
abbrev q_X9_next (dC : Nat -> ClassId) (dI : Nat -> Nat -> Nat) (cI cC cZ cB cJ : ClassId) (A : Nat -> Prop) (a_x xI xH xB vI wY xX yA xY uD uJ rW uQ uP uO xO tJ jJ mY pG pD pE eO rG : Nat) (rJ pX rO dN bD bJ aI : Int32) (uU gF pL qF mX oE dY : Nat -> Int32) (jE eW eY dU fY gJ jG nU : Int32) (post : Int32 -> Int32 -> (Nat -> Int32) -> Int32 -> (Nat -> Int32) -> Prop) : Array Value -> State -> Outcome -> State -> Prop := va_Qi (fun (r : Int32) (u : Int32 × (Nat -> Int32) × Int32 × (Nat -> Int32)) => post r u.1 u.2.1 u.2.2.1 u.2.2.2) (fun u t => gB (dC, dI) (tyl cI cC cZ cB cJ) A (aPU cI cC cZ cB cJ a_x xI xH xB vI wY xX yA xY uD uJ rW uQ uP uO xO tJ jJ mY pG pD pE eO rG u.1 rJ pX rO u.2.1 dN bD bJ aI uU gF pL qF mX oE dY jE eW eY dU fY gJ jG nU u.2.2.1 u.2.2.2) t) A
abbrev rm_X9_next : Room := { frames := 5, cells := 0, slots := 0, locals := 115 }
section S_X9_next
variable {p : Program} {l : Launch} {e : Env} {s : State} {m : MethodId} {args : Array Value} {below : List Frame} {meth : Method} {c : Code} {dC : Nat -> ClassId} {dI : Nat -> Nat -> Nat} {cI cC cZ cB cJ : ClassId} {A : Nat -> Prop} {a_x xI xH xB vI wY xX yA xY uD uJ rW uQ uP uO xO tJ jJ mY pG pD pE eO rG : Nat} {rJ pX rO dN bD bJ aI : Int32} {uU gF pL qF mX oE dY : Nat -> Int32} {jE eW eY dU fY gJ jG nU : Int32} {post : Int32 -> Int32 -> (Nat -> Int32) -> Int32 -> (Nat -> Int32) -> Prop}
def ws_X9_next_80 (post : Int32 -> Int32 -> (Nat -> Int32) -> Int32 -> (Nat -> Int32) -> Prop) (K28 : Int32 -> Int32 -> Int32 -> Int32 -> Int32 -> (Nat -> Int32) -> Int32 -> (Nat -> Int32) -> Prop) (dN bD : Int32) (uU gF pL qF mX oE dY : Nat -> Int32) (jE eW eY dU gJ jG x1 x2 x3 x4 oY : Int32) (rD : Nat -> Int32) (qB : Int32) (jK : Nat -> Int32) : Prop := ∀ v_8 : Int32, v_8 = x4 + 1 -> K28 x1 x2 x3 v_8 oY rD qB jK
set_option maxHeartbeats 4000000 in
set_option maxRecDepth 100000 in
theorem ks_X9_next_80 (C0 : gc aF1 (some .int) 6 RX9 (dC, dI) (tyl cI cC cZ cB cJ) A p s m args meth c) {K28 : Int32 -> Int32 -> Int32 -> Int32 -> Int32 -> (Nat -> Int32) -> Int32 -> (Nat -> Int32) -> Prop} (hK28 : ∀ (x1 : Int32) (x2 : Int32) (x3 : Int32) (x4 : Int32) (oY : Int32) (rD : Nat -> Int32) (qB : Int32) (jK : Nat -> Int32) (H : Heap) (locs : List Loc) (ls : Array Slot), K28 x1 x2 x3 x4 oY rD qB jK -> va_P (dC, dI) classes (aPU cI cC cZ cB cJ a_x xI xH xB vI wY xX yA xY uD uJ rW uQ uP uO xO tJ jJ mY pG pD pE eO rG oY rJ pX rO rD dN bD bJ aI uU gF pL qF mX oE dY jE eW eY dU fY gJ jG nU qB jK) H -> va_D A (aPU cI cC cZ cB cJ a_x xI xH xB vI wY xX yA xY uD uJ rW uQ uP uO xO tJ jJ mY pG pD pE eO rG oY rJ pX rO rD dN bD bJ aI uU gF pL qF mX oE dY jE eW eY dU fY gJ jG nU qB jK) -> va_S A s.heap H locs -> lv_has ls 6 [(0, .ref a_x), (1, .int x1), (2, .int x2), (3, .int x3), (4, .int x4)] -> W p l e rm_X9_next s m args below meth c H locs 0 0 (MQ below (q_X9_next dC dI cI cC cZ cB cJ A a_x xI xH xB vI wY xX yA xY uD uJ rW uQ uP uO xO tJ jJ mY pG pD pE eO rG rJ pX rO dN bD bJ aI uU gF pL qF mX oE dY jE eW eY dU fY gJ jG nU post) args s 0 0 A) (F0 m 28 ls [])) : ∀ (x1 x2 x3 x4 oY : Int32) (rD : Nat -> Int32) (qB : Int32) (jK : Nat -> Int32) (H : Heap) (locs : List Loc) (ls : Array Slot), (ws_X9_next_80 post K28 dN bD uU gF pL qF mX oE dY jE eW eY dU gJ jG) x1 x2 x3 x4 oY rD qB jK -> va_P (dC, dI) classes (aPU cI cC cZ cB cJ a_x xI xH xB vI wY xX yA xY uD uJ rW uQ uP uO xO tJ jJ mY pG pD pE eO rG oY rJ pX rO rD dN bD bJ aI uU gF pL qF mX oE dY jE eW eY dU fY gJ jG nU qB jK) H -> va_D A (aPU cI cC cZ cB cJ a_x xI xH xB vI wY xX yA xY uD uJ rW uQ uP uO xO tJ jJ mY pG pD pE eO rG oY rJ pX rO rD dN bD bJ aI uU gF pL qF mX oE dY jE eW eY dU fY gJ jG nU qB jK) -> va_S A s.heap H locs -> lv_has ls 6 [(0, .ref a_x), (1, .int x1), (2, .int x2), (3, .int x3), (4, .int x4)] -> W p l e rm_X9_next s m args below meth c H locs 0 0 (MQ below (q_X9_next dC dI cI cC cZ cB cJ A a_x xI xH xB vI wY xX yA xY uD uJ rW uQ uP uO xO tJ jJ mY pG pD pE eO rG rJ pX rO dN bD bJ aI uU gF pL qF mX oE dY jE eW eY dU fY gJ jG nU post) args s 0 0 A) (F0 m 80 ls []) := by
  obtain ⟨hx, hb, hr, hml, hown, hts, hlocks, hA, hK, hN, tL, tM, hZL, hTL, hZM, hTM, hZX⟩ := id C0
  intro x1 x2 x3 x4 oY rD qB jK H locs ls hp hP hD hS hl
  unfold ws_X9_next_80 at hp
  obtain ⟨v_8, ev_8⟩ : ∃ y : Int32, y = x4 + 1 := ⟨_, rfl⟩
  refine lv_iinc (v := v_8) (lv' := [(4, .int v_8), (0, .ref a_x), (1, .int x1), (2, .int x2), (3, .int x3)]) hx hb bAn.2.2.2.2.2.2.2.2.2.2.2.2.2.1 hl (k := 4) rfl (by rw [ev_8]; rfl) (by decide) rfl (fun ls hl => ?_)
  have hp := hp v_8 ev_8
  refine lv_goto (tgt := 28) hx hb bAn.2.2.2.2.2.2.2.2.2.2.2.2.2.2.1 (by decide) ?_
  exact hK28 x1 x2 x3 v_8 oY rD qB jK H locs ls hp hP hD hS (lv_sub hl [1, 2, 3, 4, 0] rfl)
def ws_X9_next_74 (post : Int32 -> Int32 -> (Nat -> Int32) -> Int32 -> (Nat -> Int32) -> Prop) (K28 : Int32 -> Int32 -> Int32 -> Int32 -> Int32 -> (Nat -> Int32) -> Int32 -> (Nat -> Int32) -> Prop) (dN bD : Int32) (uU gF pL qF mX oE dY : Nat -> Int32) (jE eW eY dU gJ jG x1 x4 x5 oY : Int32) (rD : Nat -> Int32) (qB : Int32) (jK : Nat -> Int32) : Prop := ws_X9_next_80 post K28 dN bD uU gF pL qF mX oE dY jE eW eY dU gJ jG x1 x4 x5 x4 oY rD qB jK
set_option maxHeartbeats 4000000 in
set_option maxRecDepth 100000 in
theorem ks_X9_next_74 (C0 : gc aF1 (some .int) 6 RX9 (dC, dI) (tyl cI cC cZ cB cJ) A p s m args meth c) {K28 : Int32 -> Int32 -> Int32 -> Int32 -> Int32 -> (Nat -> Int32) -> Int32 -> (Nat -> Int32) -> Prop} (hK28 : ∀ (x1 : Int32) (x2 : Int32) (x3 : Int32) (x4 : Int32) (oY : Int32) (rD : Nat -> Int32) (qB : Int32) (jK : Nat -> Int32) (H : Heap) (locs : List Loc) (ls : Array Slot), K28 x1 x2 x3 x4 oY rD qB jK -> va_P (dC, dI) classes (aPU cI cC cZ cB cJ a_x xI xH xB vI wY xX yA xY uD uJ rW uQ uP uO xO tJ jJ mY pG pD pE eO rG oY rJ pX rO rD dN bD bJ aI uU gF pL qF mX oE dY jE eW eY dU fY gJ jG nU qB jK) H -> va_D A (aPU cI cC cZ cB cJ a_x xI xH xB vI wY xX yA xY uD uJ rW uQ uP uO xO tJ jJ mY pG pD pE eO rG oY rJ pX rO rD dN bD bJ aI uU gF pL qF mX oE dY jE eW eY dU fY gJ jG nU qB jK) -> va_S A s.heap H locs -> lv_has ls 6 [(0, .ref a_x), (1, .int x1), (2, .int x2), (3, .int x3), (4, .int x4)] -> W p l e rm_X9_next s m args below meth c H locs 0 0 (MQ below (q_X9_next dC dI cI cC cZ cB cJ A a_x xI xH xB vI wY xX yA xY uD uJ rW uQ uP uO xO tJ jJ mY pG pD pE eO rG rJ pX rO dN bD bJ aI uU gF pL qF mX oE dY jE eW eY dU fY gJ jG nU post) args s 0 0 A) (F0 m 28 ls [])) : ∀ (x1 x4 x5 oY : Int32) (rD : Nat -> Int32) (qB : Int32) (jK : Nat -> Int32) (H : Heap) (locs : List Loc) (ls : Array Slot), (ws_X9_next_74 post K28 dN bD uU gF pL qF mX oE dY jE eW eY dU gJ jG) x1 x4 x5 oY rD qB jK -> va_P (dC, dI) classes (aPU cI cC cZ cB cJ a_x xI xH xB vI wY xX yA xY uD uJ rW uQ uP uO xO tJ jJ mY pG pD pE eO rG oY rJ pX rO rD dN bD bJ aI uU gF pL qF mX oE dY jE eW eY dU fY gJ jG nU qB jK) H -> va_D A (aPU cI cC cZ cB cJ a_x xI xH xB vI wY xX yA xY uD uJ rW uQ uP uO xO tJ jJ mY pG pD pE eO rG oY rJ pX rO rD dN bD bJ aI uU gF pL qF mX oE dY jE eW eY dU fY gJ jG nU qB jK) -> va_S A s.heap H locs -> lv_has ls 6 [(0, .ref a_x), (1, .int x1), (4, .int x4), (5, .int x5)] -> W p l e rm_X9_next s m args below meth c H locs 0 0 (MQ below (q_X9_next dC dI cI cC cZ cB cJ A a_x xI xH xB vI wY xX yA xY uD uJ rW uQ uP uO xO tJ jJ mY pG pD pE eO rG rJ pX rO dN bD bJ aI uU gF pL qF mX oE dY jE eW eY dU fY gJ jG nU post) args s 0 0 A) (F0 m 74 ls []) := by
  obtain ⟨hx, hb, hr, hml, hown, hts, hlocks, hA, hK, hN, tL, tM, hZL, hTL, hZM, hTM, hZX⟩ := id C0
  intro x1 x4 x5 oY rD qB jK H locs ls hp hP hD hS hl
  unfold ws_X9_next_74 at hp
  refine lv_iload hx hb bAn.2.2.2.2.2.2.2.2.2.1 (lv_at hl 2 rfl) ?_
  refine lv_istore_n (lv' := [(2, .int x4), (0, .ref a_x), (1, .int x1), (4, .int x4), (5, .int x5)]) hx hb bAn.2.2.2.2.2.2.2.2.2.2.1 rfl hl (by decide) rfl (fun ls hl => ?_)
  refine lv_iload hx hb bAn.2.2.2.2.2.2.2.2.2.2.2.1 (lv_at hl 4 rfl) ?_
  refine lv_istore_n (lv' := [(3, .int x5), (2, .int x4), (0, .ref a_x), (1, .int x1), (4, .int x4), (5, .int x5)]) hx hb bAn.2.2.2.2.2.2.2.2.2.2.2.2.1 rfl hl (by decide) rfl (fun ls hl => ?_)
  exact ks_X9_next_80 C0 hK28 x1 x4 x5 x4 oY rD qB jK H locs ls hp hP hD hS (lv_sub hl [2, 3, 1, 0, 4] rfl)
def ws_X9_next_28 (post : Int32 -> Int32 -> (Nat -> Int32) -> Int32 -> (Nat -> Int32) -> Prop) (next : Int32 -> Int32 -> Int32 -> Int32 -> Int32 -> (Nat -> Int32) -> Int32 -> (Nat -> Int32) -> Prop) (dN bD : Int32) (uU gF pL qF mX oE dY : Nat -> Int32) (jE eW eY dU gJ jG x1 x2 x3 x4 oY : Int32) (rD : Nat -> Int32) (qB : Int32) (jK : Nat -> Int32) : Prop := (bD <= x4 -> (x2 < 0 -> post x2 oY rD qB jK) /\ (¬ x2 < 0 -> wp_X5_worthLeft (fun r_4 => aPf (fun ro_size_5 ro_numbers_6 => post x2 oY rD ro_size_5 ro_numbers_6) x3 r_4 qB jK) x1 oY rD dN bD pL dU)) /\ (¬ bD <= x4 -> ∀ v_7 : Int32, v_7 = x1 >>> (x4 &&& 31) -> (¬ (v_7 &&& 1) = 0 -> ws_X9_next_80 post next dN bD uU gF pL qF mX oE dY jE eW eY dU gJ jG x1 x2 x3 x4 oY rD qB jK) /\ ((v_7 &&& 1) = 0 -> ∀ v_9 : Int32, v_9 = x1 ||| (1 <<< (x4 &&& 31)) -> wp_X5_worthLeft (fun r_10 => (x2 < 0 -> ws_X9_next_74 post next dN bD uU gF pL qF mX oE dY jE eW eY dU gJ jG x1 x4 r_10 oY rD qB jK) /\ (¬ x2 < 0 -> (x3 <= r_10 -> ws_X9_next_80 post next dN bD uU gF pL qF mX oE dY jE eW eY dU gJ jG x1 x2 x3 x4 oY rD qB jK) /\ (¬ x3 <= r_10 -> ws_X9_next_74 post next dN bD uU gF pL qF mX oE dY jE eW eY dU gJ jG x1 x4 r_10 oY rD qB jK))) v_9 oY rD dN bD pL dU))
noncomputable def wb_X9_next_28 (post : Int32 -> Int32 -> (Nat -> Int32) -> Int32 -> (Nat -> Int32) -> Prop) (dN bD : Int32) (uU gF pL qF mX oE dY : Nat -> Int32) (jE eW eY dU gJ jG : Int32) : Nat -> Int32 -> Int32 -> Int32 -> Int32 -> Int32 -> (Nat -> Int32) -> Int32 -> (Nat -> Int32) -> Prop := fun n => Nat.rec (motive := fun _ => Int32 -> Int32 -> Int32 -> Int32 -> Int32 -> (Nat -> Int32) -> Int32 -> (Nat -> Int32) -> Prop) (fun _ _ _ _ _ _ _ _ => False) (fun _ ih => ws_X9_next_28 post ih dN bD uU gF pL qF mX oE dY jE eW eY dU gJ jG) n
set_option maxHeartbeats 4000000 in
set_option maxRecDepth 100000 in
theorem ks_X9_next_28 (C0 : gc aF1 (some .int) 6 RX9 (dC, dI) (tyl cI cC cZ cB cJ) A p s m args meth c) {next : Int32 -> Int32 -> Int32 -> Int32 -> Int32 -> (Nat -> Int32) -> Int32 -> (Nat -> Int32) -> Prop} (hKn : ∀ (x1 : Int32) (x2 : Int32) (x3 : Int32) (x4 : Int32) (oY : Int32) (rD : Nat -> Int32) (qB : Int32) (jK : Nat -> Int32) (H : Heap) (locs : List Loc) (ls : Array Slot), next x1 x2 x3 x4 oY rD qB jK -> va_P (dC, dI) classes (aPU cI cC cZ cB cJ a_x xI xH xB vI wY xX yA xY uD uJ rW uQ uP uO xO tJ jJ mY pG pD pE eO rG oY rJ pX rO rD dN bD bJ aI uU gF pL qF mX oE dY jE eW eY dU fY gJ jG nU qB jK) H -> va_D A (aPU cI cC cZ cB cJ a_x xI xH xB vI wY xX yA xY uD uJ rW uQ uP uO xO tJ jJ mY pG pD pE eO rG oY rJ pX rO rD dN bD bJ aI uU gF pL qF mX oE dY jE eW eY dU fY gJ jG nU qB jK) -> va_S A s.heap H locs -> lv_has ls 6 [(0, .ref a_x), (1, .int x1), (2, .int x2), (3, .int x3), (4, .int x4)] -> W p l e rm_X9_next s m args below meth c H locs 0 0 (MQ below (q_X9_next dC dI cI cC cZ cB cJ A a_x xI xH xB vI wY xX yA xY uD uJ rW uQ uP uO xO tJ jJ mY pG pD pE eO rG rJ pX rO dN bD bJ aI uU gF pL qF mX oE dY jE eW eY dU fY gJ jG nU post) args s 0 0 A) (F0 m 28 ls [])) : ∀ (x1 x2 x3 x4 oY : Int32) (rD : Nat -> Int32) (qB : Int32) (jK : Nat -> Int32) (H : Heap) (locs : List Loc) (ls : Array Slot), (ws_X9_next_28 post next dN bD uU gF pL qF mX oE dY jE eW eY dU gJ jG) x1 x2 x3 x4 oY rD qB jK -> va_P (dC, dI) classes (aPU cI cC cZ cB cJ a_x xI xH xB vI wY xX yA xY uD uJ rW uQ uP uO xO tJ jJ mY pG pD pE eO rG oY rJ pX rO rD dN bD bJ aI uU gF pL qF mX oE dY jE eW eY dU fY gJ jG nU qB jK) H -> va_D A (aPU cI cC cZ cB cJ a_x xI xH xB vI wY xX yA xY uD uJ rW uQ uP uO xO tJ jJ mY pG pD pE eO rG oY rJ pX rO rD dN bD bJ aI uU gF pL qF mX oE dY jE eW eY dU fY gJ jG nU qB jK) -> va_S A s.heap H locs -> lv_has ls 6 [(0, .ref a_x), (1, .int x1), (2, .int x2), (3, .int x3), (4, .int x4)] -> W p l e rm_X9_next s m args below meth c H locs 0 0 (MQ below (q_X9_next dC dI cI cC cZ cB cJ A a_x xI xH xB vI wY xX yA xY uD uJ rW uQ uP uO xO tJ jJ mY pG pD pE eO rG rJ pX rO dN bD bJ aI uU gF pL qF mX oE dY jE eW eY dU fY gJ jG nU post) args s 0 0 A) (F0 m 28 ls []) := by
  obtain ⟨hx, hb, hr, hml, hown, hts, hlocks, hA, hK, hN, tL, tM, hZL, hTL, hZM, hTM, hZX⟩ := id C0
  intro x1 x2 x3 x4 oY rD qB jK H locs ls hp hP hD hS hl
  unfold ws_X9_next_28 at hp
  refine lv_iload hx hb bAm.1 (lv_at hl 4 rfl) ?_
  refine lv_aload_n hx hb bAm.2.1 rfl (lv_at hl 0 rfl) ?_
  refine va_get (D := (dC, dI)) (ci := 9) (v := .ref vI) (C := RX9) (T := TX9) (N := 9) hx hb hts aC3 hown hK hP 0 rfl rfl 3 (lbz rfl) (hts _ q_74) (fun _ h9 => h9) rfl bAm.2.2.1 ?_
  refine va_get (D := (dC, dI)) (ci := 3) (v := .int bD) (C := RX3) (T := TX3) (N := 11) hx hb hts i_X3 hown hK hP 4 rfl rfl 8 (lbz rfl) (hts _ q_415) (fun _ h9 => h9) rfl bAm.2.2.2.1 ?_
  refine lv_icmp_ge (tgt := 86) hx hb bAm.2.2.2.2.1 (by decide) (fun hc => ?_) (fun hc => ?_)
  · have hp := hp.1 hc
    refine lv_iload_n hx hb bAn.2.2.2.2.2.2.2.2.2.2.2.2.2.2.2 rfl (lv_at hl 2 rfl) ?_
    refine lv_if_lt (tgt := 103) hx hb eX9_next_87.1 (by decide) (fun hc => ?_) (fun hc => ?_)
    · have hp := hp.1 hc
      refine lv_iload_n hx hb eX9_next_87.2.2.2.2.2.2.2.2.1 rfl (lv_at hl 2 rfl) ?_
      exact W.iret (v := x2) hx hb hr (fun t ht hW => ⟨⟨x2, (oY, rD, qB, jK), rfl, hp, by rw [ht]; exact hP, va_K.moved hW.alike hK, hD⟩, hS.F ht⟩) hS.2.2 eX9_next_87.2.2.2.2.2.2.2.2.2
    · have hp := hp.2 hc
      refine lv_aload_n hx hb eX9_next_87.2.1 rfl (lv_at hl 0 rfl) ?_
      refine lv_iload_n hx hb eX9_next_87.2.2.1 rfl (lv_at hl 3 rfl) ?_
      refine lv_aload_n hx hb eX9_next_87.2.2.2.1 rfl (lv_at hl 0 rfl) ?_
      refine va_get (D := (dC, dI)) (ci := 9) (v := .ref xH) (C := RX9) (T := TX9) (N := 9) hx hb hts aC3 hown hK hP 0 rfl rfl 1 (lbz rfl) (hts _ aOt) (fun _ h9 => h9) rfl eX9_next_87.2.2.2.2.1 ?_
      refine lv_iload_n hx hb eX9_next_87.2.2.2.2.2.1 rfl (lv_at hl 1 rfl) ?_
      have hm := mgk (wc := (aY4 cI cC cZ cB cJ xH xB vI uJ rW uQ uP uO wY xO tJ jJ mY pG pD pE eO oY rJ pX rO rD dN bD bJ aI pL jE eW eY dU fY gJ jG nU)) hP mk_130 15 rfl rfl rfl
      refine yW hP hD hS hA (yS mk_130) (aAi mk_130) hm.1 hm.2 (aAk _) (zW _) (zF (As := [.int x1]) (rest := [.int x3, .ref a_x]) C0 hP hD hS (yS mk_130) hm.1 (aAl _) 1 5 rfl rfl (c_X5_worthLeft l dC dI cI cC cZ cB cJ xH xB vI uJ rW uQ uP uO wY xO tJ jJ mY pG pD pE eO H.size x1 oY rJ pX rO rD dN bD bJ aI pL jE eW eY dU fY gJ jG nU _ hp) q_475 q_478 q_476 q_477 aRn h_X5_worthLeft rfl rfl ⟨lbz rfl, lbz rfl⟩ rfl rfl hl.1 rfl (lv_room (lbz rfl)) eX9_next_87.2.2.2.2.2.2.1 ⟨Nat.zero_le _, Nat.zero_le _⟩) (fun r_4 u H locs hp hP hD hS => ?_)
      have hPD := PDm (ws' := (aPU cI cC cZ cB cJ a_x xI xH xB vI wY xX yA xY uD uJ rW uQ uP uO xO tJ jJ mY pG pD pE eO rG oY rJ pX rO rD dN bD bJ aI uU gF pL qF mX oE dY jE eW eY dU fY gJ jG nU qB jK)) hP hD 15 rfl rfl rfl
      have hP := hPD.1
      have hD := hPD.2
      have hm := mgk (wc := (aRW cI cC cZ cB cJ a_x xI xH xB vI wY xX yA xY uD rG qB jK)) hP mk_128 15 rfl rfl rfl
      refine aBn hP hD hS hA (yS mk_128) (aAi mk_128) hm.1 hm.2 (aAk _) (zW _) (zF (As := [.int x3, .int r_4]) (rest := []) C0 hP hD hS (yS mk_128) hm.1 (aAl _) 0 9 rfl rfl (c_X9_tell_ l dC dI cI cC cZ cB cJ a_x xI xH xB vI wY xX yA xY uD rG H.size x3 r_4 qB jK _ hp) q_377 q_380 q_378 q_379 aIl h_X9_tell_ rfl rfl ⟨lbz rfl, lbz rfl⟩ rfl rfl hl.1 rfl (lv_room (lbz rfl)) eX9_next_87.2.2.2.2.2.2.2.1 ⟨Nat.zero_le _, Nat.zero_le _⟩) (fun u H locs hp hP hD hS => ?_)
      obtain ⟨ro_size_5, ro_numbers_6⟩ := u
      have hPD := PDm (ws' := (aPU cI cC cZ cB cJ a_x xI xH xB vI wY xX yA xY uD uJ rW uQ uP uO xO tJ jJ mY pG pD pE eO rG oY rJ pX rO rD dN bD bJ aI uU gF pL qF mX oE dY jE eW eY dU fY gJ jG nU ro_size_5 ro_numbers_6)) hP hD 15 rfl rfl rfl
      have hP := hPD.1
      have hD := hPD.2
      refine lv_iload_n hx hb eX9_next_87.2.2.2.2.2.2.2.2.1 rfl (lv_at hl 2 rfl) ?_
      exact W.iret (v := x2) hx hb hr (fun t ht hW => ⟨⟨x2, (oY, rD, ro_size_5, ro_numbers_6), rfl, hp, by rw [ht]; exact hP, va_K.moved hW.alike hK, hD⟩, hS.F ht⟩) hS.2.2 eX9_next_87.2.2.2.2.2.2.2.2.2
  · have hp := hp.2 hc
    refine lv_iload_n hx hb bAm.2.2.2.2.2.1 rfl (lv_at hl 1 rfl) ?_
    refine lv_iload hx hb bAm.2.2.2.2.2.2.1 (lv_at hl 4 rfl) ?_
    refine lv_ishr hx hb bAm.2.2.2.2.2.2.2.1 ?_
    refine lv_topi (fun v_7 ev_7 => ?_)
    have hp := hp v_7 ev_7
    refine lv_iconst (v := 1) hx hb bAm.2.2.2.2.2.2.2.2.1 aDx ?_
    refine lv_iand hx hb bAm.2.2.2.2.2.2.2.2.2.1 ?_
    refine lv_if_ne (tgt := 80) hx hb bAm.2.2.2.2.2.2.2.2.2.2.1 (by decide) (fun hc => ?_) (fun hc => ?_)
    · have hp := hp.1 hc
      exact ks_X9_next_80 C0 hKn x1 x2 x3 x4 oY rD qB jK H locs ls hp hP hD hS (lv_sub hl [0, 1, 2, 3, 4] rfl)
    · have hp := hp.2 hc
      refine lv_aload_n hx hb bAm.2.2.2.2.2.2.2.2.2.2.2.1 rfl (lv_at hl 0 rfl) ?_
      refine va_get (D := (dC, dI)) (ci := 9) (v := .ref xH) (C := RX9) (T := TX9) (N := 9) hx hb hts aC3 hown hK hP 0 rfl rfl 1 (lbz rfl) (hts _ aOt) (fun _ h9 => h9) rfl bAm.2.2.2.2.2.2.2.2.2.2.2.2.1 ?_
      refine lv_iload_n hx hb bAm.2.2.2.2.2.2.2.2.2.2.2.2.2.1 rfl (lv_at hl 1 rfl) ?_
      refine lv_iconst (v := 1) hx hb bAm.2.2.2.2.2.2.2.2.2.2.2.2.2.2.1 aDx ?_
      refine lv_iload hx hb bAm.2.2.2.2.2.2.2.2.2.2.2.2.2.2.2 (lv_at hl 4 rfl) ?_
      refine lv_ishl hx hb bAn.1 ?_
      refine lv_ior hx hb bAn.2.1 ?_
      refine lv_topi (fun v_9 ev_9 => ?_)
      have hp := hp v_9 ev_9
      have hm := mgk (wc := (aY4 cI cC cZ cB cJ xH xB vI uJ rW uQ uP uO wY xO tJ jJ mY pG pD pE eO oY rJ pX rO rD dN bD bJ aI pL jE eW eY dU fY gJ jG nU)) hP mk_130 15 rfl rfl rfl
      refine yW hP hD hS hA (yS mk_130) (aAi mk_130) hm.1 hm.2 (aAk _) (zW _) (zF (As := [.int v_9]) (rest := []) C0 hP hD hS (yS mk_130) hm.1 (aAl _) 1 5 rfl rfl (c_X5_worthLeft l dC dI cI cC cZ cB cJ xH xB vI uJ rW uQ uP uO wY xO tJ jJ mY pG pD pE eO H.size v_9 oY rJ pX rO rD dN bD bJ aI pL jE eW eY dU fY gJ jG nU _ hp) q_475 q_478 q_476 q_477 aRn h_X5_worthLeft rfl rfl ⟨lbz rfl, lbz rfl⟩ rfl rfl hl.1 rfl (lv_room (lbz rfl)) bAn.2.2.1 ⟨Nat.zero_le _, Nat.zero_le _⟩) (fun r_10 u H locs hp hP hD hS => ?_)
      have hPD := PDm (ws' := (aPU cI cC cZ cB cJ a_x xI xH xB vI wY xX yA xY uD uJ rW uQ uP uO xO tJ jJ mY pG pD pE eO rG oY rJ pX rO rD dN bD bJ aI uU gF pL qF mX oE dY jE eW eY dU fY gJ jG nU qB jK)) hP hD 15 rfl rfl rfl
      have hP := hPD.1
      have hD := hPD.2
      refine lv_istore (lv' := [(5, .int r_10), (0, .ref a_x), (1, .int x1), (2, .int x2), (3, .int x3), (4, .int x4)]) hx hb bAn.2.2.2.1 hl (by decide) rfl (fun ls hl => ?_)
      refine lv_iload_n hx hb bAn.2.2.2.2.1 rfl (lv_at hl 3 rfl) ?_
      refine lv_if_lt (tgt := 74) hx hb bAn.2.2.2.2.2.1 (by decide) (fun hc => ?_) (fun hc => ?_)
      · have hp := hp.1 hc
        exact ks_X9_next_74 C0 hKn x1 x4 r_10 oY rD qB jK H locs ls hp hP hD hS (lv_sub hl [1, 2, 5, 0] rfl)
      · have hp := hp.2 hc
        refine lv_iload hx hb bAn.2.2.2.2.2.2.1 (lv_at hl 0 rfl) ?_
        refine lv_iload_n hx hb bAn.2.2.2.2.2.2.2.1 rfl (lv_at hl 4 rfl) ?_
        refine lv_icmp_ge (tgt := 80) hx hb bAn.2.2.2.2.2.2.2.2.1 (by decide) (fun hc => ?_) (fun hc => ?_)
        · have hp := hp.1 hc
          exact ks_X9_next_80 C0 hKn x1 x2 x3 x4 oY rD qB jK H locs ls hp hP hD hS (lv_sub hl [1, 2, 3, 4, 5] rfl)
        · have hp := hp.2 hc
          exact ks_X9_next_74 C0 hKn x1 x4 r_10 oY rD qB jK H locs ls hp hP hD hS (lv_sub hl [1, 2, 5, 0] rfl)
set_option maxHeartbeats 4000000 in
set_option maxRecDepth 100000 in
theorem kb_X9_next_28 (C0 : gc aF1 (some .int) 6 RX9 (dC, dI) (tyl cI cC cZ cB cJ) A p s m args meth c) : ∀ (n : Nat), ∀ (x1 x2 x3 x4 oY : Int32) (rD : Nat -> Int32) (qB : Int32) (jK : Nat -> Int32) (H : Heap) (locs : List Loc) (ls : Array Slot), (wb_X9_next_28 post dN bD uU gF pL qF mX oE dY jE eW eY dU gJ jG n) x1 x2 x3 x4 oY rD qB jK -> va_P (dC, dI) classes (aPU cI cC cZ cB cJ a_x xI xH xB vI wY xX yA xY uD uJ rW uQ uP uO xO tJ jJ mY pG pD pE eO rG oY rJ pX rO rD dN bD bJ aI uU gF pL qF mX oE dY jE eW eY dU fY gJ jG nU qB jK) H -> va_D A (aPU cI cC cZ cB cJ a_x xI xH xB vI wY xX yA xY uD uJ rW uQ uP uO xO tJ jJ mY pG pD pE eO rG oY rJ pX rO rD dN bD bJ aI uU gF pL qF mX oE dY jE eW eY dU fY gJ jG nU qB jK) -> va_S A s.heap H locs -> lv_has ls 6 [(0, .ref a_x), (1, .int x1), (2, .int x2), (3, .int x3), (4, .int x4)] -> W p l e rm_X9_next s m args below meth c H locs 0 0 (MQ below (q_X9_next dC dI cI cC cZ cB cJ A a_x xI xH xB vI wY xX yA xY uD uJ rW uQ uP uO xO tJ jJ mY pG pD pE eO rG rJ pX rO dN bD bJ aI uU gF pL qF mX oE dY jE eW eY dU fY gJ jG nU post) args s 0 0 A) (F0 m 28 ls []) := by
  intro n
  induction n with
  | zero =>
    intro x1 x2 x3 x4 oY rD qB jK H locs ls hp
    exact False.elim hp
  | succ n ih =>
    intro x1 x2 x3 x4 oY rD qB jK H locs ls hp
    exact ks_X9_next_28 C0 ih x1 x2 x3 x4 oY rD qB jK H locs ls hp
end S_X9_next
def wp_X9_next (post : Int32 -> Int32 -> (Nat -> Int32) -> Int32 -> (Nat -> Int32) -> Prop) (p0 oY : Int32) (rD : Nat -> Int32) (dN bD : Int32) (uU gF pL qF mX oE dY : Nat -> Int32) (jE eW eY dU gJ jG qB : Int32) (jK : Nat -> Int32) : Prop := wp_X3_areStandings (fun r_1 => (¬ r_1 = 0 -> aZL (fun aCw aEE => ∃ n : Nat, wb_X9_next_28 post dN bD uU gF pL qF mX oE dY jE eW eY dU gJ jG n p0 (-2) 0 0 aCw aEE qB jK) oY rD dN bD uU gF qF mX oE dY jE eW eY gJ jG) /\ (r_1 = 0 -> post (-1) oY rD qB jK)) p0 bD
set_option maxHeartbeats 4000000 in
set_option maxRecDepth 100000 in
theorem c_X9_next (l : Launch) (dC : Nat -> ClassId) (dI : Nat -> Nat -> Nat) (cI cC cZ cB cJ : ClassId) (a_x xI xH xB vI wY xX yA xY uD uJ rW uQ uP uO xO tJ jJ mY pG pD pE eO rG sz : Nat) (p0 oY rJ pX rO : Int32) (rD : Nat -> Int32) (dN bD bJ aI : Int32) (uU gF pL qF mX oE dY : Nat -> Int32) (jE eW eY dU fY gJ jG nU qB : Int32) (jK : Nat -> Int32) (post : Int32 -> Int32 -> (Nat -> Int32) -> Int32 -> (Nat -> Int32) -> Prop) (hw : wp_X9_next post p0 oY rD dN bD uU gF pL qF mX oE dY jE eW eY dU gJ jG qB jK) : Met l yX9_next (gw yX9_next aF1 6 (some .int)) rm_X9_next (va_Pc [.ref a_x, .int p0] (gPre (dC, dI) (tyl cI cC cZ cB cJ) (aPU cI cC cZ cB cJ a_x xI xH xB vI wY xX yA xY uD uJ rW uQ uP uO xO tJ jJ mY pG pD pE eO rG oY rJ pX rO rD dN bD bJ aI uU gF pL qF mX oE dY jE eW eY dU fY gJ jG nU qB jK) sz)) (q_X9_next dC dI cI cC cZ cB cJ (va_A (aPU cI cC cZ cB cJ a_x xI xH xB vI wY xX yA xY uD uJ rW uQ uP uO xO tJ jJ mY pG pD pE eO rG oY rJ pX rO rD dN bD bJ aI uU gF pL qF mX oE dY jE eW eY dU fY gJ jG nU qB jK) sz) a_x xI xH xB vI wY xX yA xY uD uJ rW uQ uP uO xO tJ jJ mY pG pD pE eO rG rJ pX rO dN bD bJ aI uU gF pL qF mX oE dY jE eW eY dU fY gJ jG nU post) 0 0 (va_A (aPU cI cC cZ cB cJ a_x xI xH xB vI wY xX yA xY uD uJ rW uQ uP uO xO tJ jJ mY pG pD pE eO rG oY rJ pX rO rD dN bD bJ aI uU gF pL qF mX oE dY jE eW eY dU fY gJ jG nU qB jK) sz) := by
  refine aBJ (own := RX9) (dC, dI) (tyl cI cC cZ cB cJ) (aPU cI cC cZ cB cJ a_x xI xH xB vI wY xX yA xY uD uJ rW uQ uP uO xO tJ jJ mY pG pD pE eO rG oY rJ pX rO rD dN bD bJ aI uU gF pL qF mX oE dY jE eW eY dU fY gJ jG nU qB jK) sz [.ref a_x, .int p0] (fun A => q_X9_next dC dI cI cC cZ cB cJ A a_x xI xH xB vI wY xX yA xY uD uJ rW uQ uP uO xO tJ jJ mY pG pD pE eO rG rJ pX rO dN bD bJ aI uU gF pL qF mX oE dY jE eW eY dU fY gJ jG nU post) pn_RX9 rfl (lbz rfl) ?_
  intro p e s m args below meth c A H locs ls C0 hP hD hS hl
  have hl : lv_has ls 6 [(0, .ref a_x), (1, .int p0)] := hl
  obtain ⟨hx, hb, hr, hml, hown, hts, hlocks, hA, hK, hN, tL, tM, hZL, hTL, hZM, hTM, hZX⟩ := id C0
  have hp := hw
  unfold wp_X9_next at hp
  refine lv_aload_n hx hb eX9_next_0.1 rfl (lv_at hl 0 rfl) ?_
  refine va_get (D := (dC, dI)) (ci := 9) (v := .ref vI) (C := RX9) (T := TX9) (N := 9) hx hb hts aC3 hown hK hP 0 rfl rfl 3 (lbz rfl) (hts _ q_74) (fun _ h9 => h9) rfl eX9_next_0.2.1 ?_
  refine lv_iload_n hx hb eX9_next_0.2.2.1 rfl (lv_at hl 1 rfl) ?_
  have hm := mgk (wc := (aVM cI cC cZ cB cJ vI tJ jJ mY pG pD pE eO dN bD bJ aI)) hP mk_126 15 rfl rfl rfl
  refine yW hP hD hS hA (yS mk_126) (aAi mk_126) hm.1 hm.2 (aAk _) (zW _) (zF (As := [.int p0]) (rest := []) C0 hP hD hS (yS mk_126) hm.1 (aAl _) 4 3 rfl rfl (c_X3_areStandings l dC dI cI cC cZ cB cJ vI tJ jJ mY pG pD pE eO H.size p0 dN bD bJ aI _ hp) q_483 q_486 q_484 q_485 q_48 h_X3_areStandings rfl rfl ⟨lbz rfl, lbz rfl⟩ rfl rfl hl.1 rfl (lv_room (lbz rfl)) eX9_next_0.2.2.2.1 ⟨Nat.zero_le _, Nat.zero_le _⟩) (fun r_1 u H locs hp hP hD hS => ?_)
  have hPD := PDm (ws' := (aPU cI cC cZ cB cJ a_x xI xH xB vI wY xX yA xY uD uJ rW uQ uP uO xO tJ jJ mY pG pD pE eO rG oY rJ pX rO rD dN bD bJ aI uU gF pL qF mX oE dY jE eW eY dU fY gJ jG nU qB jK)) hP hD 15 rfl rfl rfl
  have hP := hPD.1
  have hD := hPD.2
  refine lv_if_ne (tgt := 13) hx hb eX9_next_0.2.2.2.2.1 (by decide) (fun hc => ?_) (fun hc => ?_)
  · have hp := hp.1 hc
    refine lv_aload_n hx hb eX9_next_0.2.2.2.2.2.2.2.1 rfl (lv_at hl 0 rfl) ?_
    refine va_get (D := (dC, dI)) (ci := 9) (v := .ref xH) (C := RX9) (T := TX9) (N := 9) hx hb hts aC3 hown hK hP 0 rfl rfl 1 (lbz rfl) (hts _ aOt) (fun _ h9 => h9) rfl eX9_next_0.2.2.2.2.2.2.2.2.1 ?_
    have hm := mgk (wc := (aVN cI cC cZ cB cJ xH xB vI uJ rW uQ uP uO wY xO tJ jJ mY pG pD pE eO oY rJ pX rO rD dN bD bJ aI uU gF qF mX oE dY jE eW eY dU fY gJ jG nU)) hP mk_131 15 rfl rfl rfl
    refine aBn hP hD hS hA (yS mk_131) (aAi mk_131) hm.1 hm.2 (aAk _) (zW _) (zF (As := []) (rest := []) C0 hP hD hS (yS mk_131) hm.1 (aAl _) 1 5 rfl rfl (c_X5_look l dC dI cI cC cZ cB cJ xH xB vI uJ rW uQ uP uO wY xO tJ jJ mY pG pD pE eO H.size oY rJ pX rO rD dN bD bJ aI uU gF qF mX oE dY jE eW eY dU fY gJ jG nU _ hp) q_445 q_448 q_446 q_447 aRn h_X5_look rfl rfl ⟨lbz rfl, lbz rfl⟩ rfl rfl hl.1 rfl (lv_room (lbz rfl)) eX9_next_0.2.2.2.2.2.2.2.2.2.1 ⟨Nat.zero_le _, Nat.zero_le _⟩) (fun u H locs hp hP hD hS => ?_)
    obtain ⟨aCw, aEE⟩ := u
    have hPD := PDm (ws' := (aPU cI cC cZ cB cJ a_x xI xH xB vI wY xX yA xY uD uJ rW uQ uP uO xO tJ jJ mY pG pD pE eO rG aCw rJ pX rO aEE dN bD bJ aI uU gF pL qF mX oE dY jE eW eY dU fY gJ jG nU qB jK)) hP hD 15 rfl rfl rfl
    have hP := hPD.1
    have hD := hPD.2
    refine lv_bipush (v := (-2)) hx hb eX9_next_0.2.2.2.2.2.2.2.2.2.2.1 bp_m2 ?_
    refine lv_istore_n (lv' := [(2, .int (-2)), (0, .ref a_x), (1, .int p0)]) hx hb eX9_next_0.2.2.2.2.2.2.2.2.2.2.2.1 rfl hl (by decide) rfl (fun ls hl => ?_)
    refine lv_iconst (v := 0) hx hb eX9_next_0.2.2.2.2.2.2.2.2.2.2.2.2.1 aCi ?_
    refine lv_istore_n (lv' := [(3, .int 0), (2, .int (-2)), (0, .ref a_x), (1, .int p0)]) hx hb eX9_next_0.2.2.2.2.2.2.2.2.2.2.2.2.2.1 rfl hl (by decide) rfl (fun ls hl => ?_)
    refine lv_iconst (v := 0) hx hb eX9_next_0.2.2.2.2.2.2.2.2.2.2.2.2.2.2.1 aCi ?_
    refine lv_istore (lv' := [(4, .int 0), (3, .int 0), (2, .int (-2)), (0, .ref a_x), (1, .int p0)]) hx hb eX9_next_0.2.2.2.2.2.2.2.2.2.2.2.2.2.2.2 hl (by decide) rfl (fun ls hl => ?_)
    obtain ⟨n9, hp⟩ := hp
    exact kb_X9_next_28 C0 n9 p0 (-2) 0 0 aCw aEE qB jK H locs ls hp hP hD hS (lv_sub hl [3, 4, 2, 1, 0] rfl)
  · have hp := hp.2 hc
    refine lv_iconst (v := (-1)) hx hb eX9_next_0.2.2.2.2.2.1 aEJ ?_
    exact W.iret (v := (-1)) hx hb hr (fun t ht hW => ⟨⟨(-1), (oY, rD, qB, jK), rfl, hp, by rw [ht]; exact hP, va_K.moved hW.alike hK, hD⟩, hS.F ht⟩) hS.2.2 eX9_next_0.2.2.2.2.2.2.1
abbrev wd_X0_withoutLadder (cI cC cZ cB cJ : ClassId) (xB vI wY xO : Nat) (jE eW eY dU fY gJ jG nU : Int32) : va_W := [(xB, .inr (0, [.ref vI, .ref wY, .ref xO])), (wY, .inr (2, [.int jE, .int eW, .int eY, .int dU, .int fY, .int gJ, .int jG, .int nU]))]
abbrev q_X0_withoutLadder (dC : Nat -> ClassId) (dI : Nat -> Nat -> Nat) (cI cC cZ cB cJ : ClassId) (A : Nat -> Prop) (xB vI wY xO : Nat) (jE eW eY dU fY gJ jG nU : Int32) (post : Int32 -> Prop) : Array Value -> State -> Outcome -> State -> Prop := va_Qi (fun (r : Int32) (u : Unit) => post r) (fun u t => gB (dC, dI) (tyl cI cC cZ cB cJ) A (wd_X0_withoutLadder cI cC cZ cB cJ xB vI wY xO jE eW eY dU fY gJ jG nU) t) A
abbrev rm_X0_withoutLadder : Room := { frames := 0, cells := 0, slots := 0, locals := 0 }
def wp_X0_withoutLadder (post : Int32 -> Prop) (p0 fY : Int32) : Prop := (¬ fY = (-1) -> ∀ v_1 : Int32, v_1 = 1 <<< (fY &&& 31) -> post (p0 &&& (v_1 ^^^ (-1)))) /\ (fY = (-1) -> post p0)
set_option maxHeartbeats 4000000 in
set_option maxRecDepth 100000 in
theorem c_X0_withoutLadder (l : Launch) (dC : Nat -> ClassId) (dI : Nat -> Nat -> Nat) (cI cC cZ cB cJ : ClassId) (xB vI wY xO sz : Nat) (p0 jE eW eY dU fY gJ jG nU : Int32) (post : Int32 -> Prop) (hw : wp_X0_withoutLadder post p0 fY) : Met l aVA (gw aVA aIV 2 (some .int)) rm_X0_withoutLadder (va_Pc [.ref xB, .int p0] (gPre (dC, dI) (tyl cI cC cZ cB cJ) (wd_X0_withoutLadder cI cC cZ cB cJ xB vI wY xO jE eW eY dU fY gJ jG nU) sz)) (q_X0_withoutLadder dC dI cI cC cZ cB cJ (va_A (wd_X0_withoutLadder cI cC cZ cB cJ xB vI wY xO jE eW eY dU fY gJ jG nU) sz) xB vI wY xO jE eW eY dU fY gJ jG nU post) 0 0 (va_A (wd_X0_withoutLadder cI cC cZ cB cJ xB vI wY xO jE eW eY dU fY gJ jG nU) sz) := by
  refine aBJ (own := RX0) (dC, dI) (tyl cI cC cZ cB cJ) (wd_X0_withoutLadder cI cC cZ cB cJ xB vI wY xO jE eW eY dU fY gJ jG nU) sz [.ref xB, .int p0] (fun A => q_X0_withoutLadder dC dI cI cC cZ cB cJ A xB vI wY xO jE eW eY dU fY gJ jG nU post) pn_RX0 rfl (lbz rfl) ?_
  intro p e s m args below meth c A H locs ls C0 hP hD hS hl
  have hl : lv_has ls 2 [(0, .ref xB), (1, .int p0)] := hl
  obtain ⟨hx, hb, hr, hml, hown, hts, hlocks, hA, hK, hN, tL, tM, hZL, hTL, hZM, hTM, hZX⟩ := id C0
  have hp := hw
  unfold wp_X0_withoutLadder at hp
  refine lv_aload_n hx hb aIt.1 rfl (lv_at hl 0 rfl) ?_
  refine va_get (D := (dC, dI)) (ci := 0) (v := .ref wY) (C := RX0) (T := TX0) (N := 3) hx hb hts i_X0 hown hK hP 0 rfl rfl 1 (lbz rfl) (hts _ q_161) (fun _ h9 => h9) rfl aIt.2.1 ?_
  refine va_get (D := (dC, dI)) (ci := 2) (v := .int fY) (C := RX2) (T := TX2) (N := 8) hx hb hts i_X2 hown hK hP 1 rfl rfl 4 (lbz rfl) (hts _ q_228) (fun _ h9 => h9) rfl aIt.2.2.1 ?_
  refine lv_iconst (v := (-1)) hx hb aIt.2.2.2.1 aEJ ?_
  refine lv_icmp_ne (tgt := 15) hx hb aIt.2.2.2.2.1 (by decide) (fun hc => ?_) (fun hc => ?_)
  · have hp := hp.1 hc
    refine lv_iload_n hx hb aIt.2.2.2.2.2.2.2.1 rfl (lv_at hl 1 rfl) ?_
    refine lv_iconst (v := 1) hx hb aIt.2.2.2.2.2.2.2.2.1 aDx ?_
    refine lv_aload_n hx hb aIt.2.2.2.2.2.2.2.2.2.1 rfl (lv_at hl 0 rfl) ?_
    refine va_get (D := (dC, dI)) (ci := 0) (v := .ref wY) (C := RX0) (T := TX0) (N := 3) hx hb hts i_X0 hown hK hP 0 rfl rfl 1 (lbz rfl) (hts _ q_161) (fun _ h9 => h9) rfl aIt.2.2.2.2.2.2.2.2.2.2.1 ?_
    refine va_get (D := (dC, dI)) (ci := 2) (v := .int fY) (C := RX2) (T := TX2) (N := 8) hx hb hts i_X2 hown hK hP 1 rfl rfl 4 (lbz rfl) (hts _ q_228) (fun _ h9 => h9) rfl aIt.2.2.2.2.2.2.2.2.2.2.2.1 ?_
    refine lv_ishl hx hb aIt.2.2.2.2.2.2.2.2.2.2.2.2.1 ?_
    refine lv_topi (fun v_1 aFJ => ?_)
    have hp := hp v_1 aFJ
    refine lv_iconst (v := (-1)) hx hb aIt.2.2.2.2.2.2.2.2.2.2.2.2.2.1 aEJ ?_
    refine lv_ixor hx hb aIt.2.2.2.2.2.2.2.2.2.2.2.2.2.2.1 ?_
    refine lv_iand hx hb aIt.2.2.2.2.2.2.2.2.2.2.2.2.2.2.2 ?_
    exact W.iret (v := p0 &&& (v_1 ^^^ (-1))) hx hb hr (fun t ht hW => ⟨⟨p0 &&& (v_1 ^^^ (-1)), (), rfl, hp, by rw [ht]; exact hP, va_K.moved hW.alike hK, hD⟩, hS.F ht⟩) hS.2.2 dX0_withoutLadder_28
  · have hp := hp.2 hc
    refine lv_iload_n hx hb aIt.2.2.2.2.2.1 rfl (lv_at hl 1 rfl) ?_
    refine lv_goto (tgt := 28) hx hb aIt.2.2.2.2.2.2.1 (by decide) ?_
    exact W.iret (v := p0) hx hb hr (fun t ht hW => ⟨⟨p0, (), rfl, hp, by rw [ht]; exact hP, va_K.moved hW.alike hK, hD⟩, hS.F ht⟩) hS.2.2 dX0_withoutLadder_28
abbrev aIA (cI cC cZ cB cJ : ClassId) (vI tJ jJ mY pG pD pE eO : Nat) (dN bD bJ aI : Int32) (mX dY : Nat -> Int32) : va_W := [(vI, .inr (3, [.ref tJ, .ref jJ, .ref mY, .ref pG, .ref pD, .ref pE, .ref eO, .int dN, .int bD, .int bJ, .int aI])), (pD, .inl (cI, 8, .inl mX)), (eO, .inl (cI, 5, .inl dY))]
abbrev q_X3_waySeconds (dC : Nat -> ClassId) (dI : Nat -> Nat -> Nat) (cI cC cZ cB cJ : ClassId) (A : Nat -> Prop) (vI tJ jJ mY pG pD pE eO : Nat) (dN bD bJ aI : Int32) (mX dY : Nat -> Int32) (post : Int32 -> Prop) : Array Value -> State -> Outcome -> State -> Prop := va_Qi (fun (r : Int32) (u : Unit) => post r) (fun u t => gB (dC, dI) (tyl cI cC cZ cB cJ) A (aIA cI cC cZ cB cJ vI tJ jJ mY pG pD pE eO dN bD bJ aI mX dY) t) A
abbrev rm_X3_waySeconds : Room := { frames := 1, cells := 0, slots := 0, locals := 21 }
section S_X3_waySeconds
variable {p : Program} {l : Launch} {e : Env} {s : State} {m : MethodId} {args : Array Value} {below : List Frame} {meth : Method} {c : Code} {dC : Nat -> ClassId} {dI : Nat -> Nat -> Nat} {cI cC cZ cB cJ : ClassId} {A : Nat -> Prop} {vI tJ jJ mY pG pD pE eO : Nat} {dN bD bJ aI : Int32} {mX dY : Nat -> Int32} {post : Int32 -> Prop}
def ws_X3_waySeconds_117 (post : Int32 -> Prop) (bD : Int32) (mX dY : Nat -> Int32) (x3 x6 : Int32) : Prop := ∀ v_3 : Int32, v_3 = 9 * x3 -> ∀ v_4 : Int32, v_4 = dY (3 : Int32).toNatClampNeg -> post (v_3 + (v_4 * x6))
set_option maxHeartbeats 4000000 in
set_option maxRecDepth 100000 in
theorem ks_X3_waySeconds_117 (C0 : gc aBz (some .int) 7 RX3 (dC, dI) (tyl cI cC cZ cB cJ) A p s m args meth c) : ∀ (x3 x6 : Int32) (H : Heap) (locs : List Loc) (ls : Array Slot), (ws_X3_waySeconds_117 post bD mX dY) x3 x6 -> va_P (dC, dI) classes (aIA cI cC cZ cB cJ vI tJ jJ mY pG pD pE eO dN bD bJ aI mX dY) H -> va_D A (aIA cI cC cZ cB cJ vI tJ jJ mY pG pD pE eO dN bD bJ aI mX dY) -> va_S A s.heap H locs -> lv_has ls 7 [(0, .ref vI), (3, .int x3), (6, .int x6)] -> W p l e rm_X3_waySeconds s m args below meth c H locs 0 0 (MQ below (q_X3_waySeconds dC dI cI cC cZ cB cJ A vI tJ jJ mY pG pD pE eO dN bD bJ aI mX dY post) args s 0 0 A) (F0 m 117 ls []) := by
  obtain ⟨hx, hb, hr, hml, hown, hts, hlocks, hA, hK, hN, tL, tM, hZL, hTL, hZM, hTM, hZX⟩ := id C0
  intro x3 x6 H locs ls hp hP hD hS hl
  unfold ws_X3_waySeconds_117 at hp
  refine lv_bipush (v := 9) hx hb aRw.1 bp_9 ?_
  refine lv_iload_n hx hb aRw.2.1 rfl (lv_at hl 1 rfl) ?_
  refine lv_imul hx hb aRw.2.2.1 ?_
  refine lv_topi (fun v_3 aGW => ?_)
  have hp := hp v_3 aGW
  refine lv_aload_n hx hb aRw.2.2.2.1 rfl (lv_at hl 0 rfl) ?_
  refine va_get (D := (dC, dI)) (ci := 3) (v := .ref eO) (C := RX3) (T := TX3) (N := 11) hx hb hts i_X3 hown hK hP 0 rfl rfl 6 (lbz rfl) (hts _ q_225) (fun _ h9 => h9) rfl aRw.2.2.2.2.1 ?_
  refine lv_iconst (v := 3) hx hb aRw.2.2.2.2.2.1 ic_3 ?_
  refine va_iald hx hb hK hP 2 0 rfl rfl (g_in rfl) aRw.2.2.2.2.2.2.1 ?_
  refine lv_topi (fun v_4 aHM => ?_)
  have hp := hp v_4 aHM
  refine lv_iload hx hb aRw.2.2.2.2.2.2.2.1 (lv_at hl 2 rfl) ?_
  refine lv_imul hx hb aRw.2.2.2.2.2.2.2.2.1 ?_
  refine lv_iadd hx hb aRw.2.2.2.2.2.2.2.2.2.1 ?_
  exact W.iret (v := v_3 + (v_4 * x6)) hx hb hr (fun t ht hW => ⟨⟨v_3 + (v_4 * x6), (), rfl, hp, by rw [ht]; exact hP, va_K.moved hW.alike hK, hD⟩, hS.F ht⟩) hS.2.2 aRw.2.2.2.2.2.2.2.2.2.2
def ws_X3_waySeconds_67 (post : Int32 -> Prop) (K21 : Int32 -> Int32 -> Int32 -> Int32 -> Int32 -> Int32 -> Prop) (bD : Int32) (mX dY : Nat -> Int32) (x1 x2 x3 x4 x5 x6 : Int32) : Prop := ∀ aGC : Int32, aGC = x6 + 1 -> K21 x1 x2 x3 x4 x5 aGC
set_option maxHeartbeats 4000000 in
set_option maxRecDepth 100000 in
theorem ks_X3_waySeconds_67 (C0 : gc aBz (some .int) 7 RX3 (dC, dI) (tyl cI cC cZ cB cJ) A p s m args meth c) {K21 : Int32 -> Int32 -> Int32 -> Int32 -> Int32 -> Int32 -> Prop} (hK21 : ∀ (x1 : Int32) (x2 : Int32) (x3 : Int32) (x4 : Int32) (x5 : Int32) (x6 : Int32) (H : Heap) (locs : List Loc) (ls : Array Slot), K21 x1 x2 x3 x4 x5 x6 -> va_P (dC, dI) classes (aIA cI cC cZ cB cJ vI tJ jJ mY pG pD pE eO dN bD bJ aI mX dY) H -> va_D A (aIA cI cC cZ cB cJ vI tJ jJ mY pG pD pE eO dN bD bJ aI mX dY) -> va_S A s.heap H locs -> lv_has ls 7 [(0, .ref vI), (1, .int x1), (2, .int x2), (3, .int x3), (4, .int x4), (5, .int x5), (6, .int x6)] -> W p l e rm_X3_waySeconds s m args below meth c H locs 0 0 (MQ below (q_X3_waySeconds dC dI cI cC cZ cB cJ A vI tJ jJ mY pG pD pE eO dN bD bJ aI mX dY post) args s 0 0 A) (F0 m 21 ls [])) : ∀ (x1 x2 x3 x4 x5 x6 : Int32) (H : Heap) (locs : List Loc) (ls : Array Slot), (ws_X3_waySeconds_67 post K21 bD mX dY) x1 x2 x3 x4 x5 x6 -> va_P (dC, dI) classes (aIA cI cC cZ cB cJ vI tJ jJ mY pG pD pE eO dN bD bJ aI mX dY) H -> va_D A (aIA cI cC cZ cB cJ vI tJ jJ mY pG pD pE eO dN bD bJ aI mX dY) -> va_S A s.heap H locs -> lv_has ls 7 [(0, .ref vI), (1, .int x1), (2, .int x2), (3, .int x3), (4, .int x4), (5, .int x5), (6, .int x6)] -> W p l e rm_X3_waySeconds s m args below meth c H locs 0 0 (MQ below (q_X3_waySeconds dC dI cI cC cZ cB cJ A vI tJ jJ mY pG pD pE eO dN bD bJ aI mX dY post) args s 0 0 A) (F0 m 67 ls []) := by
  obtain ⟨hx, hb, hr, hml, hown, hts, hlocks, hA, hK, hN, tL, tM, hZL, hTL, hZM, hTM, hZX⟩ := id C0
  intro x1 x2 x3 x4 x5 x6 H locs ls hp hP hD hS hl
  unfold ws_X3_waySeconds_67 at hp
  obtain ⟨aGC, ev_14⟩ : ∃ y : Int32, y = x6 + 1 := ⟨_, rfl⟩
  refine lv_iinc (v := aGC) (lv' := [(6, .int aGC), (0, .ref vI), (1, .int x1), (2, .int x2), (3, .int x3), (4, .int x4), (5, .int x5)]) hx hb aKx.2.2.2.2.2.1 hl (k := 6) rfl (by rw [ev_14]; rfl) (by decide) rfl (fun ls hl => ?_)
  have hp := hp aGC ev_14
  refine lv_goto (tgt := 21) hx hb aKx.2.2.2.2.2.2.1 (by decide) ?_
  exact hK21 x1 x2 x3 x4 x5 aGC H locs ls hp hP hD hS (lv_sub hl [1, 2, 3, 4, 5, 6, 0] rfl)
def ws_X3_waySeconds_21 (post : Int32 -> Prop) (next : Int32 -> Int32 -> Int32 -> Int32 -> Int32 -> Int32 -> Prop) (bD : Int32) (mX dY : Nat -> Int32) (x1 x2 x3 x4 x5 x6 : Int32) : Prop := (bD <= x6 -> ∀ v_2 : Int32, v_2 = x5 - x4 -> (x1 = (-1) -> ws_X3_waySeconds_117 post bD mX dY x3 v_2) /\ (¬ x1 = (-1) -> vp_in x1 8 /\ (∀ v_5 : Int32, v_5 = mX x1.toNatClampNeg -> ∀ v_6 : Int32, v_6 = v_5 - x4 -> ∀ v_7 : Int32, v_7 = (if 0 <= v_6 then v_6 else 0 - v_6) -> vp_in x1 8 /\ (∀ v_8 : Int32, v_8 = mX x1.toNatClampNeg -> ∀ v_9 : Int32, v_9 = v_8 - x5 -> ∀ aEr : Int32, aEr = (if 0 <= v_9 then v_9 else 0 - v_9) -> ∀ aGH : Int32, aGH = (if aEr < v_7 then aEr else v_7) -> ∀ aEp : Int32, aEp = v_2 + aGH -> ws_X3_waySeconds_117 post bD mX dY x3 aEp)))) /\ (¬ bD <= x6 -> ∀ aIQ : Int32, aIQ = x2 >>> (x6 &&& 31) -> ((aIQ &&& 1) = 0 -> ws_X3_waySeconds_67 post next bD mX dY x1 x2 x3 x4 x5 x6) /\ (¬ (aIQ &&& 1) = 0 -> vp_in x6 8 /\ (∀ aHe : Int32, aHe = mX x6.toNatClampNeg -> ∀ aHb : Int32, aHb = (if aHe < x4 then aHe else x4) -> vp_in x6 8 /\ (∀ v_17 : Int32, v_17 = mX x6.toNatClampNeg -> ∀ v_18 : Int32, v_18 = (if x5 < v_17 then v_17 else x5) -> ws_X3_waySeconds_67 post next bD mX dY x1 x2 x3 aHb v_18 x6))))
noncomputable def wb_X3_waySeconds_21 (post : Int32 -> Prop) (bD : Int32) (mX dY : Nat -> Int32) : Nat -> Int32 -> Int32 -> Int32 -> Int32 -> Int32 -> Int32 -> Prop := fun n => Nat.rec (motive := fun _ => Int32 -> Int32 -> Int32 -> Int32 -> Int32 -> Int32 -> Prop) (fun _ _ _ _ _ _ => False) (fun _ ih => ws_X3_waySeconds_21 post ih bD mX dY) n
set_option maxHeartbeats 4000000 in
set_option maxRecDepth 100000 in
theorem ks_X3_waySeconds_21 (C0 : gc aBz (some .int) 7 RX3 (dC, dI) (tyl cI cC cZ cB cJ) A p s m args meth c) {next : Int32 -> Int32 -> Int32 -> Int32 -> Int32 -> Int32 -> Prop} (hKn : ∀ (x1 : Int32) (x2 : Int32) (x3 : Int32) (x4 : Int32) (x5 : Int32) (x6 : Int32) (H : Heap) (locs : List Loc) (ls : Array Slot), next x1 x2 x3 x4 x5 x6 -> va_P (dC, dI) classes (aIA cI cC cZ cB cJ vI tJ jJ mY pG pD pE eO dN bD bJ aI mX dY) H -> va_D A (aIA cI cC cZ cB cJ vI tJ jJ mY pG pD pE eO dN bD bJ aI mX dY) -> va_S A s.heap H locs -> lv_has ls 7 [(0, .ref vI), (1, .int x1), (2, .int x2), (3, .int x3), (4, .int x4), (5, .int x5), (6, .int x6)] -> W p l e rm_X3_waySeconds s m args below meth c H locs 0 0 (MQ below (q_X3_waySeconds dC dI cI cC cZ cB cJ A vI tJ jJ mY pG pD pE eO dN bD bJ aI mX dY post) args s 0 0 A) (F0 m 21 ls [])) : ∀ (x1 x2 x3 x4 x5 x6 : Int32) (H : Heap) (locs : List Loc) (ls : Array Slot), (ws_X3_waySeconds_21 post next bD mX dY) x1 x2 x3 x4 x5 x6 -> va_P (dC, dI) classes (aIA cI cC cZ cB cJ vI tJ jJ mY pG pD pE eO dN bD bJ aI mX dY) H -> va_D A (aIA cI cC cZ cB cJ vI tJ jJ mY pG pD pE eO dN bD bJ aI mX dY) -> va_S A s.heap H locs -> lv_has ls 7 [(0, .ref vI), (1, .int x1), (2, .int x2), (3, .int x3), (4, .int x4), (5, .int x5), (6, .int x6)] -> W p l e rm_X3_waySeconds s m args below meth c H locs 0 0 (MQ below (q_X3_waySeconds dC dI cI cC cZ cB cJ A vI tJ jJ mY pG pD pE eO dN bD bJ aI mX dY post) args s 0 0 A) (F0 m 21 ls []) := by
  obtain ⟨hx, hb, hr, hml, hown, hts, hlocks, hA, hK, hN, tL, tM, hZL, hTL, hZM, hTM, hZX⟩ := id C0
  intro x1 x2 x3 x4 x5 x6 H locs ls hp hP hD hS hl
  unfold ws_X3_waySeconds_21 at hp
  refine lv_iload hx hb aMc.2.2.2.2.2.2.2.2.2.2.2.2.2.1 (lv_at hl 6 rfl) ?_
  refine lv_aload_n hx hb aMc.2.2.2.2.2.2.2.2.2.2.2.2.2.2.1 rfl (lv_at hl 0 rfl) ?_
  refine va_get (D := (dC, dI)) (ci := 3) (v := .int bD) (C := RX3) (T := TX3) (N := 11) hx hb hts i_X3 hown hK hP 0 rfl rfl 8 (lbz rfl) (hts _ q_22) (fun _ h9 => h9) rfl aMc.2.2.2.2.2.2.2.2.2.2.2.2.2.2.2 ?_
  refine lv_icmp_ge (tgt := 73) hx hb aKw.1 (by decide) (fun hc => ?_) (fun hc => ?_)
  · have hp := hp.1 hc
    refine lv_iload hx hb aKx.2.2.2.2.2.2.2.1 (lv_at hl 5 rfl) ?_
    refine lv_iload hx hb aKx.2.2.2.2.2.2.2.2.1 (lv_at hl 4 rfl) ?_
    refine lv_isub hx hb aKx.2.2.2.2.2.2.2.2.2.1 ?_
    refine lv_topi (fun v_2 aGO => ?_)
    have hp := hp v_2 aGO
    refine lv_istore (lv' := [(6, .int v_2), (0, .ref vI), (1, .int x1), (2, .int x2), (3, .int x3), (4, .int x4), (5, .int x5)]) hx hb aKx.2.2.2.2.2.2.2.2.2.2.1 hl (by decide) rfl (fun ls hl => ?_)
    refine lv_iload_n hx hb aKx.2.2.2.2.2.2.2.2.2.2.2.1 rfl (lv_at hl 2 rfl) ?_
    refine lv_iconst (v := (-1)) hx hb aKx.2.2.2.2.2.2.2.2.2.2.2.2.1 aEJ ?_
    refine lv_icmp_eq (tgt := 117) hx hb aKx.2.2.2.2.2.2.2.2.2.2.2.2.2.1 (by decide) (fun hc => ?_) (fun hc => ?_)
    · have hp := hp.1 hc
      exact ks_X3_waySeconds_117 C0 x3 v_2 H locs ls hp hP hD hS (lv_sub hl [1, 4, 0] rfl)
    · have hp := hp.2 hc
      refine lv_iload hx hb aKx.2.2.2.2.2.2.2.2.2.2.2.2.2.2.1 (lv_at hl 0 rfl) ?_
      refine lv_aload_n hx hb aKx.2.2.2.2.2.2.2.2.2.2.2.2.2.2.2 rfl (lv_at hl 1 rfl) ?_
      refine va_get (D := (dC, dI)) (ci := 3) (v := .ref pD) (C := RX3) (T := TX3) (N := 11) hx hb hts i_X3 hown hK hP 0 rfl rfl 4 (lbz rfl) (hts _ q_53) (fun _ h9 => h9) rfl aKy.1 ?_
      refine lv_iload_n hx hb aKy.2.1 rfl (lv_at hl 2 rfl) ?_
      have hin := hp.1
      have hp := hp.2
      refine va_iald hx hb hK hP 1 0 rfl rfl hin aKy.2.2.1 ?_
      refine lv_topi (fun v_5 aJD => ?_)
      have hp := hp v_5 aJD
      refine lv_iload hx hb aKy.2.2.2.1 (lv_at hl 5 rfl) ?_
      refine lv_isub hx hb aKy.2.2.2.2.1 ?_
      refine lv_topi (fun v_6 ev_6 => ?_)
      have hp := hp v_6 ev_6
      refine va_mabs hx hb (by rw [hml]; exact hl.1.symm) hown (hts _ q_165) (hts _ q_166) (hts _ q_16) (hts _ q_167) (lbz rfl) (lbz rfl) (Nat.zero_le _) (Nat.zero_le _) aKy.2.2.2.2.2.1 ?_
      refine lv_topi (fun v_7 ev_7 => ?_)
      have hp := hp v_7 ev_7
      refine lv_aload_n hx hb aKy.2.2.2.2.2.2.1 rfl (lv_at hl 1 rfl) ?_
      refine va_get (D := (dC, dI)) (ci := 3) (v := .ref pD) (C := RX3) (T := TX3) (N := 11) hx hb hts i_X3 hown hK hP 0 rfl rfl 4 (lbz rfl) (hts _ q_53) (fun _ h9 => h9) rfl aKy.2.2.2.2.2.2.2.1 ?_
      refine lv_iload_n hx hb aKy.2.2.2.2.2.2.2.2.1 rfl (lv_at hl 2 rfl) ?_
      have hin := hp.1
      have hp := hp.2
      refine va_iald hx hb hK hP 1 0 rfl rfl hin aKy.2.2.2.2.2.2.2.2.2.1 ?_
      refine lv_topi (fun v_8 ev_8 => ?_)
      have hp := hp v_8 ev_8
      refine lv_iload hx hb aKy.2.2.2.2.2.2.2.2.2.2.1 (lv_at hl 6 rfl) ?_
      refine lv_isub hx hb aKy.2.2.2.2.2.2.2.2.2.2.2.1 ?_
      refine lv_topi (fun v_9 ev_9 => ?_)
      have hp := hp v_9 ev_9
      refine va_mabs hx hb (by rw [hml]; exact hl.1.symm) hown (hts _ q_165) (hts _ q_166) (hts _ q_16) (hts _ q_167) (lbz rfl) (lbz rfl) (Nat.zero_le _) (Nat.zero_le _) aKy.2.2.2.2.2.2.2.2.2.2.2.2.1 ?_
      refine lv_topi (fun aEr aNB => ?_)
      have hp := hp aEr aNB
      refine va_mmin hx hb (by rw [hml]; exact hl.1.symm) hown (hts _ q_208) (hts _ q_15) (hts _ q_16) (hts _ q_17) (lbz rfl) (lbz rfl) (Nat.zero_le _) (Nat.zero_le _) aKy.2.2.2.2.2.2.2.2.2.2.2.2.2.1 ?_
      refine lv_topi (fun aGH ev_11 => ?_)
      have hp := hp aGH ev_11
      refine lv_iadd hx hb aKy.2.2.2.2.2.2.2.2.2.2.2.2.2.2.1 ?_
      refine lv_topi (fun aEp ev_12 => ?_)
      have hp := hp aEp ev_12
      refine lv_istore (lv' := [(6, .int aEp), (0, .ref vI), (1, .int x1), (2, .int x2), (3, .int x3), (4, .int x4), (5, .int x5)]) hx hb aKy.2.2.2.2.2.2.2.2.2.2.2.2.2.2.2 hl (by decide) rfl (fun ls hl => ?_)
      exact ks_X3_waySeconds_117 C0 x3 aEp H locs ls hp hP hD hS (lv_sub hl [1, 4, 0] rfl)
  · have hp := hp.2 hc
    refine lv_iload_n hx hb aKw.2.1 rfl (lv_at hl 2 rfl) ?_
    refine lv_iload hx hb aKw.2.2.1 (lv_at hl 6 rfl) ?_
    refine lv_ishr hx hb aKw.2.2.2.1 ?_
    refine lv_topi (fun aIQ ev_13 => ?_)
    have hp := hp aIQ ev_13
    refine lv_iconst (v := 1) hx hb aKw.2.2.2.2.1 aDx ?_
    refine lv_iand hx hb aKw.2.2.2.2.2.1 ?_
    refine lv_if_eq (tgt := 67) hx hb aKw.2.2.2.2.2.2.1 (by decide) (fun hc => ?_) (fun hc => ?_)
    · have hp := hp.1 hc
      exact ks_X3_waySeconds_67 C0 hKn x1 x2 x3 x4 x5 x6 H locs ls hp hP hD hS (lv_sub hl [0, 1, 2, 3, 4, 5, 6] rfl)
    · have hp := hp.2 hc
      refine lv_iload hx hb aKw.2.2.2.2.2.2.2.1 (lv_at hl 4 rfl) ?_
      refine lv_aload_n hx hb aKw.2.2.2.2.2.2.2.2.1 rfl (lv_at hl 0 rfl) ?_
      refine va_get (D := (dC, dI)) (ci := 3) (v := .ref pD) (C := RX3) (T := TX3) (N := 11) hx hb hts i_X3 hown hK hP 0 rfl rfl 4 (lbz rfl) (hts _ q_53) (fun _ h9 => h9) rfl aKw.2.2.2.2.2.2.2.2.2.1 ?_
      refine lv_iload hx hb aKw.2.2.2.2.2.2.2.2.2.2.1 (lv_at hl 6 rfl) ?_
      have hin := hp.1
      have hp := hp.2
      refine va_iald hx hb hK hP 1 0 rfl rfl hin aKw.2.2.2.2.2.2.2.2.2.2.2.1 ?_
      refine lv_topi (fun aHe ev_15 => ?_)
      have hp := hp aHe ev_15
      refine va_mmin hx hb (by rw [hml]; exact hl.1.symm) hown (hts _ q_208) (hts _ q_15) (hts _ q_16) (hts _ q_17) (lbz rfl) (lbz rfl) (Nat.zero_le _) (Nat.zero_le _) aKw.2.2.2.2.2.2.2.2.2.2.2.2.1 ?_
      refine lv_topi (fun aHb ev_16 => ?_)
      have hp := hp aHb ev_16
      refine lv_istore (lv' := [(4, .int aHb), (0, .ref vI), (1, .int x1), (2, .int x2), (3, .int x3), (5, .int x5), (6, .int x6)]) hx hb aKw.2.2.2.2.2.2.2.2.2.2.2.2.2.1 hl (by decide) rfl (fun ls hl => ?_)
      refine lv_iload hx hb aKw.2.2.2.2.2.2.2.2.2.2.2.2.2.2.1 (lv_at hl 5 rfl) ?_
      refine lv_aload_n hx hb aKw.2.2.2.2.2.2.2.2.2.2.2.2.2.2.2 rfl (lv_at hl 1 rfl) ?_
      refine va_get (D := (dC, dI)) (ci := 3) (v := .ref pD) (C := RX3) (T := TX3) (N := 11) hx hb hts i_X3 hown hK hP 0 rfl rfl 4 (lbz rfl) (hts _ q_53) (fun _ h9 => h9) rfl aKx.1 ?_
      refine lv_iload hx hb aKx.2.1 (lv_at hl 6 rfl) ?_
      have hin := hp.1
      have hp := hp.2
      refine va_iald hx hb hK hP 1 0 rfl rfl hin aKx.2.2.1 ?_
      refine lv_topi (fun v_17 ev_17 => ?_)
      have hp := hp v_17 ev_17
      refine va_mmax hx hb (by rw [hml]; exact hl.1.symm) hown (hts _ q_209) (hts _ q_134) (hts _ q_16) (hts _ q_135) (lbz rfl) (lbz rfl) (Nat.zero_le _) (Nat.zero_le _) aKx.2.2.2.1 ?_
      refine lv_topi (fun v_18 ev_18 => ?_)
      have hp := hp v_18 ev_18
      refine lv_istore (lv' := [(5, .int v_18), (4, .int aHb), (0, .ref vI), (1, .int x1), (2, .int x2), (3, .int x3), (6, .int x6)]) hx hb aKx.2.2.2.2.1 hl (by decide) rfl (fun ls hl => ?_)
      exact ks_X3_waySeconds_67 C0 hKn x1 x2 x3 aHb v_18 x6 H locs ls hp hP hD hS (lv_sub hl [2, 3, 4, 5, 1, 0, 6] rfl)
set_option maxHeartbeats 4000000 in
set_option maxRecDepth 100000 in
theorem kb_X3_waySeconds_21 (C0 : gc aBz (some .int) 7 RX3 (dC, dI) (tyl cI cC cZ cB cJ) A p s m args meth c) : ∀ (n : Nat), ∀ (x1 x2 x3 x4 x5 x6 : Int32) (H : Heap) (locs : List Loc) (ls : Array Slot), (wb_X3_waySeconds_21 post bD mX dY n) x1 x2 x3 x4 x5 x6 -> va_P (dC, dI) classes (aIA cI cC cZ cB cJ vI tJ jJ mY pG pD pE eO dN bD bJ aI mX dY) H -> va_D A (aIA cI cC cZ cB cJ vI tJ jJ mY pG pD pE eO dN bD bJ aI mX dY) -> va_S A s.heap H locs -> lv_has ls 7 [(0, .ref vI), (1, .int x1), (2, .int x2), (3, .int x3), (4, .int x4), (5, .int x5), (6, .int x6)] -> W p l e rm_X3_waySeconds s m args below meth c H locs 0 0 (MQ below (q_X3_waySeconds dC dI cI cC cZ cB cJ A vI tJ jJ mY pG pD pE eO dN bD bJ aI mX dY post) args s 0 0 A) (F0 m 21 ls []) := by
  intro n
  induction n with
  | zero =>
    intro x1 x2 x3 x4 x5 x6 H locs ls hp
    exact False.elim hp
  | succ n ih =>
    intro x1 x2 x3 x4 x5 x6 H locs ls hp
    exact ks_X3_waySeconds_21 C0 ih x1 x2 x3 x4 x5 x6 H locs ls hp
end S_X3_waySeconds
def wp_X3_waySeconds (post : Int32 -> Prop) (p0 p1 bD : Int32) (mX dY : Nat -> Int32) : Prop := aBb (fun r_1 => (¬ r_1 = 0 -> ∃ n : Nat, wb_X3_waySeconds_21 post bD mX dY n p0 p1 r_1 99 0 0) /\ (r_1 = 0 -> post 0)) p1
set_option maxHeartbeats 4000000 in
set_option maxRecDepth 100000 in
theorem c_X3_waySeconds (l : Launch) (dC : Nat -> ClassId) (dI : Nat -> Nat -> Nat) (cI cC cZ cB cJ : ClassId) (vI tJ jJ mY pG pD pE eO sz : Nat) (p0 p1 dN bD bJ aI : Int32) (mX dY : Nat -> Int32) (post : Int32 -> Prop) (hw : wp_X3_waySeconds post p0 p1 bD mX dY) : Met l aZJ (gw aZJ aBz 7 (some .int)) rm_X3_waySeconds (va_Pc [.ref vI, .int p0, .int p1] (gPre (dC, dI) (tyl cI cC cZ cB cJ) (aIA cI cC cZ cB cJ vI tJ jJ mY pG pD pE eO dN bD bJ aI mX dY) sz)) (q_X3_waySeconds dC dI cI cC cZ cB cJ (va_A (aIA cI cC cZ cB cJ vI tJ jJ mY pG pD pE eO dN bD bJ aI mX dY) sz) vI tJ jJ mY pG pD pE eO dN bD bJ aI mX dY post) 0 0 (va_A (aIA cI cC cZ cB cJ vI tJ jJ mY pG pD pE eO dN bD bJ aI mX dY) sz) := by
  refine aBJ (own := RX3) (dC, dI) (tyl cI cC cZ cB cJ) (aIA cI cC cZ cB cJ vI tJ jJ mY pG pD pE eO dN bD bJ aI mX dY) sz [.ref vI, .int p0, .int p1] (fun A => q_X3_waySeconds dC dI cI cC cZ cB cJ A vI tJ jJ mY pG pD pE eO dN bD bJ aI mX dY post) pn_RX3 rfl (lbz rfl) ?_
  intro p e s m args below meth c A H locs ls C0 hP hD hS hl
  have hl : lv_has ls 7 [(0, .ref vI), (1, .int p0), (2, .int p1)] := hl
  obtain ⟨hx, hb, hr, hml, hown, hts, hlocks, hA, hK, hN, tL, tM, hZL, hTL, hZM, hTM, hZX⟩ := id C0
  have hp := hw
  unfold wp_X3_waySeconds at hp
  refine lv_iload_n hx hb aMc.1 rfl (lv_at hl 2 rfl) ?_
  have hm := mgk (wc := (aBh cI cC cZ cB cJ)) hP mk_20 3 rfl rfl rfl
  refine yW hP hD hS hA (yS mk_20) (aAi mk_20) hm.1 hm.2 (aAk _) (zW _) (aDn (As := [.int p1]) (rest := []) C0 hP hD hS (yS mk_20) hm.1 (aAl _) (aBv l dC dI cI cC cZ cB cJ H.size p1 _ hp) q_320 q_487 q_322 q_321 aBw rfl rfl ⟨lbz rfl, lbz rfl⟩ rfl rfl hl.1 rfl (lv_room (lbz rfl)) aMc.2.1 ⟨Nat.zero_le _, Nat.zero_le _⟩) (fun r_1 u H locs hp hP hD hS => ?_)
  have hPD := PDm (ws' := (aIA cI cC cZ cB cJ vI tJ jJ mY pG pD pE eO dN bD bJ aI mX dY)) hP hD 3 rfl rfl rfl
  have hP := hPD.1
  have hD := hPD.2
  refine lv_istore_n (lv' := [(3, .int r_1), (0, .ref vI), (1, .int p0), (2, .int p1)]) hx hb aMc.2.2.1 rfl hl (by decide) rfl (fun ls hl => ?_)
  refine lv_iload_n hx hb aMc.2.2.2.1 rfl (lv_at hl 0 rfl) ?_
  refine lv_if_ne (tgt := 11) hx hb aMc.2.2.2.2.1 (by decide) (fun hc => ?_) (fun hc => ?_)
  · have hp := hp.1 hc
    refine lv_bipush (v := 99) hx hb aMc.2.2.2.2.2.2.2.1 bp_99 ?_
    refine lv_istore (lv' := [(4, .int 99), (3, .int r_1), (0, .ref vI), (1, .int p0), (2, .int p1)]) hx hb aMc.2.2.2.2.2.2.2.2.1 hl (by decide) rfl (fun ls hl => ?_)
    refine lv_iconst (v := 0) hx hb aMc.2.2.2.2.2.2.2.2.2.1 aCi ?_
    refine lv_istore (lv' := [(5, .int 0), (4, .int 99), (3, .int r_1), (0, .ref vI), (1, .int p0), (2, .int p1)]) hx hb aMc.2.2.2.2.2.2.2.2.2.2.1 hl (by decide) rfl (fun ls hl => ?_)
    refine lv_iconst (v := 0) hx hb aMc.2.2.2.2.2.2.2.2.2.2.2.1 aCi ?_
    refine lv_istore (lv' := [(6, .int 0), (5, .int 0), (4, .int 99), (3, .int r_1), (0, .ref vI), (1, .int p0), (2, .int p1)]) hx hb aMc.2.2.2.2.2.2.2.2.2.2.2.2.1 hl (by decide) rfl (fun ls hl => ?_)
    obtain ⟨n9, hp⟩ := hp
    exact kb_X3_waySeconds_21 C0 n9 p0 p1 r_1 99 0 0 H locs ls hp hP hD hS (lv_sub hl [4, 5, 6, 3, 2, 1, 0] rfl)
  · have hp := hp.2 hc
    refine lv_iconst (v := 0) hx hb aMc.2.2.2.2.2.1 aCi ?_
    exact W.iret (v := 0) hx hb hr (fun t ht hW => ⟨⟨0, (), rfl, hp, by rw [ht]; exact hP, va_K.moved hW.alike hK, hD⟩, hS.F ht⟩) hS.2.2 aMc.2.2.2.2.2.2.1
abbrev aKF (cI cC cZ cB cJ : ClassId) (vI tJ jJ mY pG pD pE eO : Nat) (dN bD bJ aI : Int32) (mX dY : Nat -> Int32) : va_W := [(vI, .inr (3, [.ref tJ, .ref jJ, .ref mY, .ref pG, .ref pD, .ref pE, .ref eO, .int dN, .int bD, .int bJ, .int aI])), (pD, .inl (cI, 8, .inl mX)), (eO, .inl (cI, 5, .inl dY))]
abbrev q_X3_firstOfWay (dC : Nat -> ClassId) (dI : Nat -> Nat -> Nat) (cI cC cZ cB cJ : ClassId) (A : Nat -> Prop) (vI tJ jJ mY pG pD pE eO : Nat) (dN bD bJ aI : Int32) (mX dY : Nat -> Int32) (post : Int32 -> Prop) : Array Value -> State -> Outcome -> State -> Prop := va_Qi (fun (r : Int32) (u : Unit) => post r) (fun u t => gB (dC, dI) (tyl cI cC cZ cB cJ) A (aKF cI cC cZ cB cJ vI tJ jJ mY pG pD pE eO dN bD bJ aI mX dY) t) A
abbrev rm_X3_firstOfWay : Room := { frames := 2, cells := 0, slots := 0, locals := 47 }
section S_X3_firstOfWay
variable {p : Program} {l : Launch} {e : Env} {s : State} {m : MethodId} {args : Array Value} {below : List Frame} {meth : Method} {c : Code} {dC : Nat -> ClassId} {dI : Nat -> Nat -> Nat} {cI cC cZ cB cJ : ClassId} {A : Nat -> Prop} {vI tJ jJ mY pG pD pE eO : Nat} {dN bD bJ aI : Int32} {mX dY : Nat -> Int32} {post : Int32 -> Prop}
def ws_X3_firstOfWay_50 (post : Int32 -> Prop) (K3 : Int32 -> Int32 -> Int32 -> Int32 -> Prop) (bD : Int32) (mX dY : Nat -> Int32) (x1 x2 x3 x4 : Int32) : Prop := ∀ v_2 : Int32, v_2 = x4 + 1 -> K3 x1 x2 x3 v_2
set_option maxHeartbeats 4000000 in
set_option maxRecDepth 100000 in
theorem ks_X3_firstOfWay_50 (C0 : gc aEB (some .int) 5 RX3 (dC, dI) (tyl cI cC cZ cB cJ) A p s m args meth c) {K3 : Int32 -> Int32 -> Int32 -> Int32 -> Prop} (hK3 : ∀ (x1 : Int32) (x2 : Int32) (x3 : Int32) (x4 : Int32) (H : Heap) (locs : List Loc) (ls : Array Slot), K3 x1 x2 x3 x4 -> va_P (dC, dI) classes (aKF cI cC cZ cB cJ vI tJ jJ mY pG pD pE eO dN bD bJ aI mX dY) H -> va_D A (aKF cI cC cZ cB cJ vI tJ jJ mY pG pD pE eO dN bD bJ aI mX dY) -> va_S A s.heap H locs -> lv_has ls 5 [(0, .ref vI), (1, .int x1), (2, .int x2), (3, .int x3), (4, .int x4)] -> W p l e rm_X3_firstOfWay s m args below meth c H locs 0 0 (MQ below (q_X3_firstOfWay dC dI cI cC cZ cB cJ A vI tJ jJ mY pG pD pE eO dN bD bJ aI mX dY post) args s 0 0 A) (F0 m 3 ls [])) : ∀ (x1 x2 x3 x4 : Int32) (H : Heap) (locs : List Loc) (ls : Array Slot), (ws_X3_firstOfWay_50 post K3 bD mX dY) x1 x2 x3 x4 -> va_P (dC, dI) classes (aKF cI cC cZ cB cJ vI tJ jJ mY pG pD pE eO dN bD bJ aI mX dY) H -> va_D A (aKF cI cC cZ cB cJ vI tJ jJ mY pG pD pE eO dN bD bJ aI mX dY) -> va_S A s.heap H locs -> lv_has ls 5 [(0, .ref vI), (1, .int x1), (2, .int x2), (3, .int x3), (4, .int x4)] -> W p l e rm_X3_firstOfWay s m args below meth c H locs 0 0 (MQ below (q_X3_firstOfWay dC dI cI cC cZ cB cJ A vI tJ jJ mY pG pD pE eO dN bD bJ aI mX dY post) args s 0 0 A) (F0 m 50 ls []) := by
  obtain ⟨hx, hb, hr, hml, hown, hts, hlocks, hA, hK, hN, tL, tM, hZL, hTL, hZM, hTM, hZX⟩ := id C0
  intro x1 x2 x3 x4 H locs ls hp hP hD hS hl
  unfold ws_X3_firstOfWay_50 at hp
  obtain ⟨v_2, aGO⟩ : ∃ y : Int32, y = x4 + 1 := ⟨_, rfl⟩
  refine lv_iinc (v := v_2) (lv' := [(4, .int v_2), (0, .ref vI), (1, .int x1), (2, .int x2), (3, .int x3)]) hx hb aKt.2.2.2.2.2.2.2.2.2.2.2.2.2.2.2 hl (k := 4) rfl (by rw [aGO]; rfl) (by decide) rfl (fun ls hl => ?_)
  have hp := hp v_2 aGO
  refine lv_goto (tgt := 3) hx hb eX3_firstOfWay_53.1 (by decide) ?_
  exact hK3 x1 x2 x3 v_2 H locs ls hp hP hD hS (lv_sub hl [1, 2, 3, 4, 0] rfl)
def ws_X3_firstOfWay_3 (post : Int32 -> Prop) (next : Int32 -> Int32 -> Int32 -> Int32 -> Prop) (bD : Int32) (mX dY : Nat -> Int32) (x1 x2 x3 x4 : Int32) : Prop := (bD <= x4 -> post (-1)) /\ (¬ bD <= x4 -> ∀ v_1 : Int32, v_1 = x2 >>> (x4 &&& 31) -> ((v_1 &&& 1) = 0 -> ws_X3_firstOfWay_50 post next bD mX dY x1 x2 x3 x4) /\ (¬ (v_1 &&& 1) = 0 -> bBZ (fun r_3 => ∀ v_4 : Int32, v_4 = 1 <<< (x4 &&& 31) -> ∀ v_5 : Int32, v_5 = x2 &&& (v_4 ^^^ (-1)) -> wp_X3_waySeconds (fun r_6 => ∀ v_7 : Int32, v_7 = r_3 + r_6 -> (¬ v_7 = x3 -> ws_X3_firstOfWay_50 post next bD mX dY x1 x2 x3 x4) /\ (v_7 = x3 -> post x4)) x4 v_5 bD mX dY) x1 x4 mX dY))
noncomputable def wb_X3_firstOfWay_3 (post : Int32 -> Prop) (bD : Int32) (mX dY : Nat -> Int32) : Nat -> Int32 -> Int32 -> Int32 -> Int32 -> Prop := fun n => Nat.rec (motive := fun _ => Int32 -> Int32 -> Int32 -> Int32 -> Prop) (fun _ _ _ _ => False) (fun _ ih => ws_X3_firstOfWay_3 post ih bD mX dY) n
set_option maxHeartbeats 4000000 in
set_option maxRecDepth 100000 in
theorem ks_X3_firstOfWay_3 (C0 : gc aEB (some .int) 5 RX3 (dC, dI) (tyl cI cC cZ cB cJ) A p s m args meth c) {next : Int32 -> Int32 -> Int32 -> Int32 -> Prop} (hKn : ∀ (x1 : Int32) (x2 : Int32) (x3 : Int32) (x4 : Int32) (H : Heap) (locs : List Loc) (ls : Array Slot), next x1 x2 x3 x4 -> va_P (dC, dI) classes (aKF cI cC cZ cB cJ vI tJ jJ mY pG pD pE eO dN bD bJ aI mX dY) H -> va_D A (aKF cI cC cZ cB cJ vI tJ jJ mY pG pD pE eO dN bD bJ aI mX dY) -> va_S A s.heap H locs -> lv_has ls 5 [(0, .ref vI), (1, .int x1), (2, .int x2), (3, .int x3), (4, .int x4)] -> W p l e rm_X3_firstOfWay s m args below meth c H locs 0 0 (MQ below (q_X3_firstOfWay dC dI cI cC cZ cB cJ A vI tJ jJ mY pG pD pE eO dN bD bJ aI mX dY post) args s 0 0 A) (F0 m 3 ls [])) : ∀ (x1 x2 x3 x4 : Int32) (H : Heap) (locs : List Loc) (ls : Array Slot), (ws_X3_firstOfWay_3 post next bD mX dY) x1 x2 x3 x4 -> va_P (dC, dI) classes (aKF cI cC cZ cB cJ vI tJ jJ mY pG pD pE eO dN bD bJ aI mX dY) H -> va_D A (aKF cI cC cZ cB cJ vI tJ jJ mY pG pD pE eO dN bD bJ aI mX dY) -> va_S A s.heap H locs -> lv_has ls 5 [(0, .ref vI), (1, .int x1), (2, .int x2), (3, .int x3), (4, .int x4)] -> W p l e rm_X3_firstOfWay s m args below meth c H locs 0 0 (MQ below (q_X3_firstOfWay dC dI cI cC cZ cB cJ A vI tJ jJ mY pG pD pE eO dN bD bJ aI mX dY post) args s 0 0 A) (F0 m 3 ls []) := by
  obtain ⟨hx, hb, hr, hml, hown, hts, hlocks, hA, hK, hN, tL, tM, hZL, hTL, hZM, hTM, hZX⟩ := id C0
  intro x1 x2 x3 x4 H locs ls hp hP hD hS hl
  unfold ws_X3_firstOfWay_3 at hp
  refine lv_iload hx hb aMW.2.2.1 (lv_at hl 4 rfl) ?_
  refine lv_aload_n hx hb aMW.2.2.2.1 rfl (lv_at hl 0 rfl) ?_
  refine va_get (D := (dC, dI)) (ci := 3) (v := .int bD) (C := RX3) (T := TX3) (N := 11) hx hb hts i_X3 hown hK hP 0 rfl rfl 8 (lbz rfl) (hts _ q_22) (fun _ h9 => h9) rfl aMW.2.2.2.2.1 ?_
  refine lv_icmp_ge (tgt := 56) hx hb aMW.2.2.2.2.2.1 (by decide) (fun hc => ?_) (fun hc => ?_)
  · have hp := hp.1 hc
    refine lv_iconst (v := (-1)) hx hb eX3_firstOfWay_53.2.1 aEJ ?_
    exact W.iret (v := (-1)) hx hb hr (fun t ht hW => ⟨⟨(-1), (), rfl, hp, by rw [ht]; exact hP, va_K.moved hW.alike hK, hD⟩, hS.F ht⟩) hS.2.2 eX3_firstOfWay_53.2.2
  · have hp := hp.2 hc
    refine lv_iload_n hx hb aMW.2.2.2.2.2.2.1 rfl (lv_at hl 2 rfl) ?_
    refine lv_iload hx hb aMW.2.2.2.2.2.2.2.1 (lv_at hl 4 rfl) ?_
    refine lv_ishr hx hb aMW.2.2.2.2.2.2.2.2.1 ?_
    refine lv_topi (fun v_1 aFJ => ?_)
    have hp := hp v_1 aFJ
    refine lv_iconst (v := 1) hx hb aMW.2.2.2.2.2.2.2.2.2.1 aDx ?_
    refine lv_iand hx hb aMW.2.2.2.2.2.2.2.2.2.2.1 ?_
    refine lv_if_eq (tgt := 50) hx hb aMW.2.2.2.2.2.2.2.2.2.2.2.1 (by decide) (fun hc => ?_) (fun hc => ?_)
    · have hp := hp.1 hc
      exact ks_X3_firstOfWay_50 C0 hKn x1 x2 x3 x4 H locs ls hp hP hD hS (lv_sub hl [0, 1, 2, 3, 4] rfl)
    · have hp := hp.2 hc
      refine lv_aload_n hx hb aMW.2.2.2.2.2.2.2.2.2.2.2.2.1 rfl (lv_at hl 0 rfl) ?_
      refine lv_iload_n hx hb aMW.2.2.2.2.2.2.2.2.2.2.2.2.2.1 rfl (lv_at hl 1 rfl) ?_
      refine lv_iload hx hb aMW.2.2.2.2.2.2.2.2.2.2.2.2.2.2.1 (lv_at hl 4 rfl) ?_
      have hm := mgk (wc := (bBP cI cC cZ cB cJ vI tJ jJ mY pG pD pE eO dN bD bJ aI mX dY)) hP mk_85 3 rfl rfl rfl
      refine yW hP hD hS hA (yS mk_85) (aAi mk_85) hm.1 hm.2 (aAk _) (zW _) (zF (As := [.int x1, .int x4]) (rest := []) C0 hP hD hS (yS mk_85) hm.1 (aAl _) 0 3 rfl rfl (c_X3_moveSeconds l dC dI cI cC cZ cB cJ vI tJ jJ mY pG pD pE eO H.size x1 x4 dN bD bJ aI mX dY _ hp) q_229 q_488 q_230 q_231 q_48 h_X3_moveSeconds rfl rfl ⟨lbz rfl, lbz rfl⟩ rfl rfl hl.1 rfl (lv_room (lbz rfl)) aMW.2.2.2.2.2.2.2.2.2.2.2.2.2.2.2 ⟨Nat.zero_le _, Nat.zero_le _⟩) (fun r_3 u H locs hp hP hD hS => ?_)
      have hPD := PDm (ws' := (aKF cI cC cZ cB cJ vI tJ jJ mY pG pD pE eO dN bD bJ aI mX dY)) hP hD 3 rfl rfl rfl
      have hP := hPD.1
      have hD := hPD.2
      refine lv_aload_n hx hb aKt.1 rfl (lv_at hl 0 rfl) ?_
      refine lv_iload hx hb aKt.2.1 (lv_at hl 4 rfl) ?_
      refine lv_iload_n hx hb aKt.2.2.1 rfl (lv_at hl 2 rfl) ?_
      refine lv_iconst (v := 1) hx hb aKt.2.2.2.1 aDx ?_
      refine lv_iload hx hb aKt.2.2.2.2.1 (lv_at hl 4 rfl) ?_
      refine lv_ishl hx hb aKt.2.2.2.2.2.1 ?_
      refine lv_topi (fun v_4 aHM => ?_)
      have hp := hp v_4 aHM
      refine lv_iconst (v := (-1)) hx hb aKt.2.2.2.2.2.2.1 aEJ ?_
      refine lv_ixor hx hb aKt.2.2.2.2.2.2.2.1 ?_
      refine lv_iand hx hb aKt.2.2.2.2.2.2.2.2.1 ?_
      refine lv_topi (fun v_5 aJD => ?_)
      have hp := hp v_5 aJD
      have hm := mgk (wc := (aIA cI cC cZ cB cJ vI tJ jJ mY pG pD pE eO dN bD bJ aI mX dY)) hP mk_85 3 rfl rfl rfl
      refine yW hP hD hS hA (yS mk_85) (aAi mk_85) hm.1 hm.2 (aAk _) (zW _) (zF (As := [.int x4, .int v_5]) (rest := [.int r_3]) C0 hP hD hS (yS mk_85) hm.1 (aAl _) 0 3 rfl rfl (c_X3_waySeconds l dC dI cI cC cZ cB cJ vI tJ jJ mY pG pD pE eO H.size x4 v_5 dN bD bJ aI mX dY _ hp) q_489 q_492 q_490 q_491 q_48 h_X3_waySeconds rfl rfl ⟨lbz rfl, lbz rfl⟩ rfl rfl hl.1 rfl (lv_room (lbz rfl)) aKt.2.2.2.2.2.2.2.2.2.1 ⟨Nat.zero_le _, Nat.zero_le _⟩) (fun r_6 u H locs hp hP hD hS => ?_)
      have hPD := PDm (ws' := (aKF cI cC cZ cB cJ vI tJ jJ mY pG pD pE eO dN bD bJ aI mX dY)) hP hD 3 rfl rfl rfl
      have hP := hPD.1
      have hD := hPD.2
      refine lv_iadd hx hb aKt.2.2.2.2.2.2.2.2.2.2.1 ?_
      refine lv_topi (fun v_7 ev_7 => ?_)
      have hp := hp v_7 ev_7
      refine lv_iload_n hx hb aKt.2.2.2.2.2.2.2.2.2.2.2.1 rfl (lv_at hl 3 rfl) ?_
      refine lv_icmp_ne (tgt := 50) hx hb aKt.2.2.2.2.2.2.2.2.2.2.2.2.1 (by decide) (fun hc => ?_) (fun hc => ?_)
      · have hp := hp.1 hc
        exact ks_X3_firstOfWay_50 C0 hKn x1 x2 x3 x4 H locs ls hp hP hD hS (lv_sub hl [0, 1, 2, 3, 4] rfl)
      · have hp := hp.2 hc
        refine lv_iload hx hb aKt.2.2.2.2.2.2.2.2.2.2.2.2.2.1 (lv_at hl 4 rfl) ?_
        exact W.iret (v := x4) hx hb hr (fun t ht hW => ⟨⟨x4, (), rfl, hp, by rw [ht]; exact hP, va_K.moved hW.alike hK, hD⟩, hS.F ht⟩) hS.2.2 aKt.2.2.2.2.2.2.2.2.2.2.2.2.2.2.1
set_option maxHeartbeats 4000000 in
set_option maxRecDepth 100000 in
theorem kb_X3_firstOfWay_3 (C0 : gc aEB (some .int) 5 RX3 (dC, dI) (tyl cI cC cZ cB cJ) A p s m args meth c) : ∀ (n : Nat), ∀ (x1 x2 x3 x4 : Int32) (H : Heap) (locs : List Loc) (ls : Array Slot), (wb_X3_firstOfWay_3 post bD mX dY n) x1 x2 x3 x4 -> va_P (dC, dI) classes (aKF cI cC cZ cB cJ vI tJ jJ mY pG pD pE eO dN bD bJ aI mX dY) H -> va_D A (aKF cI cC cZ cB cJ vI tJ jJ mY pG pD pE eO dN bD bJ aI mX dY) -> va_S A s.heap H locs -> lv_has ls 5 [(0, .ref vI), (1, .int x1), (2, .int x2), (3, .int x3), (4, .int x4)] -> W p l e rm_X3_firstOfWay s m args below meth c H locs 0 0 (MQ below (q_X3_firstOfWay dC dI cI cC cZ cB cJ A vI tJ jJ mY pG pD pE eO dN bD bJ aI mX dY post) args s 0 0 A) (F0 m 3 ls []) := by
  intro n
  induction n with
  | zero =>
    intro x1 x2 x3 x4 H locs ls hp
    exact False.elim hp
  | succ n ih =>
    intro x1 x2 x3 x4 H locs ls hp
    exact ks_X3_firstOfWay_3 C0 ih x1 x2 x3 x4 H locs ls hp
end S_X3_firstOfWay
def wp_X3_firstOfWay (post : Int32 -> Prop) (p0 p1 p2 bD : Int32) (mX dY : Nat -> Int32) : Prop := ∃ n : Nat, wb_X3_firstOfWay_3 post bD mX dY n p0 p1 p2 0
set_option maxHeartbeats 4000000 in
set_option maxRecDepth 100000 in
theorem c_X3_firstOfWay (l : Launch) (dC : Nat -> ClassId) (dI : Nat -> Nat -> Nat) (cI cC cZ cB cJ : ClassId) (vI tJ jJ mY pG pD pE eO sz : Nat) (p0 p1 p2 dN bD bJ aI : Int32) (mX dY : Nat -> Int32) (post : Int32 -> Prop) (hw : wp_X3_firstOfWay post p0 p1 p2 bD mX dY) : Met l yX3_firstOfWay (gw yX3_firstOfWay aEB 5 (some .int)) rm_X3_firstOfWay (va_Pc [.ref vI, .int p0, .int p1, .int p2] (gPre (dC, dI) (tyl cI cC cZ cB cJ) (aKF cI cC cZ cB cJ vI tJ jJ mY pG pD pE eO dN bD bJ aI mX dY) sz)) (q_X3_firstOfWay dC dI cI cC cZ cB cJ (va_A (aKF cI cC cZ cB cJ vI tJ jJ mY pG pD pE eO dN bD bJ aI mX dY) sz) vI tJ jJ mY pG pD pE eO dN bD bJ aI mX dY post) 0 0 (va_A (aKF cI cC cZ cB cJ vI tJ jJ mY pG pD pE eO dN bD bJ aI mX dY) sz) := by
  refine aBJ (own := RX3) (dC, dI) (tyl cI cC cZ cB cJ) (aKF cI cC cZ cB cJ vI tJ jJ mY pG pD pE eO dN bD bJ aI mX dY) sz [.ref vI, .int p0, .int p1, .int p2] (fun A => q_X3_firstOfWay dC dI cI cC cZ cB cJ A vI tJ jJ mY pG pD pE eO dN bD bJ aI mX dY post) pn_RX3 rfl (lbz rfl) ?_
  intro p e s m args below meth c A H locs ls C0 hP hD hS hl
  have hl : lv_has ls 5 [(0, .ref vI), (1, .int p0), (2, .int p1), (3, .int p2)] := hl
  obtain ⟨hx, hb, hr, hml, hown, hts, hlocks, hA, hK, hN, tL, tM, hZL, hTL, hZM, hTM, hZX⟩ := id C0
  have hp := hw
  unfold wp_X3_firstOfWay at hp
  refine lv_iconst (v := 0) hx hb aMW.1 aCi ?_
  refine lv_istore (lv' := [(4, .int 0), (0, .ref vI), (1, .int p0), (2, .int p1), (3, .int p2)]) hx hb aMW.2.1 hl (by decide) rfl (fun ls hl => ?_)
  obtain ⟨n9, hp⟩ := hp
  exact kb_X3_firstOfWay_3 C0 n9 p0 p1 p2 0 H locs ls hp hP hD hS (lv_sub hl [1, 2, 3, 4, 0] rfl)
abbrev aU7 (cI cC cZ cB cJ : ClassId) (a_x xI xH xB vI wY xX yA xY uD xO tJ jJ mY pG pD pE eO rG : Nat) (dN bD bJ aI : Int32) (mX dY : Nat -> Int32) (jE eW eY dU fY gJ jG nU qB : Int32) (jK : Nat -> Int32) : va_W := [(a_x, .inr (9, [.ref xI, .ref xH, .ref xB, .ref vI, .ref wY, .ref xX, .ref yA, .ref xY, .ref uD])), (xB, .inr (0, [.ref vI, .ref wY, .ref xO])), (vI, .inr (3, [.ref tJ, .ref jJ, .ref mY, .ref pG, .ref pD, .ref pE, .ref eO, .int dN, .int bD, .int bJ, .int aI])), (pD, .inl (cI, 8, .inl mX)), (eO, .inl (cI, 5, .inl dY)), (wY, .inr (2, [.int jE, .int eW, .int eY, .int dU, .int fY, .int gJ, .int jG, .int nU])), (yA, .inr (6, [.ref rG, .int qB])), (rG, .inl (cI, 16, .inl jK))]
abbrev q_X9_route (dC : Nat -> ClassId) (dI : Nat -> Nat -> Nat) (cI cC cZ cB cJ : ClassId) (A : Nat -> Prop) (a_x xI xH xB vI wY xX yA xY uD xO tJ jJ mY pG pD pE eO rG : Nat) (dN bD bJ aI : Int32) (mX dY : Nat -> Int32) (jE eW eY dU fY gJ jG nU : Int32) (post : Int32 -> Int32 -> (Nat -> Int32) -> Prop) : Array Value -> State -> Outcome -> State -> Prop := va_Qi (fun (r : Int32) (u : Int32 × (Nat -> Int32)) => post r u.1 u.2) (fun u t => gB (dC, dI) (tyl cI cC cZ cB cJ) A (aU7 cI cC cZ cB cJ a_x xI xH xB vI wY xX yA xY uD xO tJ jJ mY pG pD pE eO rG dN bD bJ aI mX dY jE eW eY dU fY gJ jG nU u.1 u.2) t) A
abbrev rm_X9_route : Room := { frames := 3, cells := 0, slots := 0, locals := 71 }
section S_X9_route
variable {p : Program} {l : Launch} {e : Env} {s : State} {m : MethodId} {args : Array Value} {below : List Frame} {meth : Method} {c : Code} {dC : Nat -> ClassId} {dI : Nat -> Nat -> Nat} {cI cC cZ cB cJ : ClassId} {A : Nat -> Prop} {a_x xI xH xB vI wY xX yA xY uD xO tJ jJ mY pG pD pE eO rG : Nat} {dN bD bJ aI : Int32} {mX dY : Nat -> Int32} {jE eW eY dU fY gJ jG nU : Int32} {post : Int32 -> Int32 -> (Nat -> Int32) -> Prop}
def ws_X9_route_55 (post : Int32 -> Int32 -> (Nat -> Int32) -> Prop) (next : Int32 -> Int32 -> Int32 -> Int32 -> Int32 -> Int32 -> (Nat -> Int32) -> Prop) (bD : Int32) (mX dY : Nat -> Int32) (fY x2 x3 x4 x5 x6 qB : Int32) (jK : Nat -> Int32) : Prop := (8 <= x6 -> post x4 qB jK) /\ (¬ 8 <= x6 -> (x2 = 0 -> post x4 qB jK) /\ (¬ x2 = 0 -> wp_X3_firstOfWay (fun r_5 => (¬ r_5 = (-1) -> wp_X6_add (fun aKD aF9 => bBZ (fun r_8 => ∀ v_9 : Int32, v_9 = x5 - r_8 -> ∀ aEr : Int32, aEr = 1 <<< (r_5 &&& 31) -> ∀ aGH : Int32, aGH = x2 &&& (aEr ^^^ (-1)) -> ∀ aEp : Int32, aEp = x6 + 1 -> next aGH r_5 x4 v_9 aEp aKD aF9) x3 r_5 mX dY) r_5 qB jK) /\ (r_5 = (-1) -> post x4 qB jK)) x3 x2 x5 bD mX dY))
noncomputable def wb_X9_route_55 (post : Int32 -> Int32 -> (Nat -> Int32) -> Prop) (bD : Int32) (mX dY : Nat -> Int32) (fY : Int32) : Nat -> Int32 -> Int32 -> Int32 -> Int32 -> Int32 -> Int32 -> (Nat -> Int32) -> Prop := fun n => Nat.rec (motive := fun _ => Int32 -> Int32 -> Int32 -> Int32 -> Int32 -> Int32 -> (Nat -> Int32) -> Prop) (fun _ _ _ _ _ _ _ => False) (fun _ ih => ws_X9_route_55 post ih bD mX dY fY) n
set_option maxHeartbeats 4000000 in
set_option maxRecDepth 100000 in
theorem ks_X9_route_55 (C0 : gc aDg (some .int) 8 RX9 (dC, dI) (tyl cI cC cZ cB cJ) A p s m args meth c) {next : Int32 -> Int32 -> Int32 -> Int32 -> Int32 -> Int32 -> (Nat -> Int32) -> Prop} (hKn : ∀ (x2 : Int32) (x3 : Int32) (x4 : Int32) (x5 : Int32) (x6 : Int32) (qB : Int32) (jK : Nat -> Int32) (H : Heap) (locs : List Loc) (ls : Array Slot), next x2 x3 x4 x5 x6 qB jK -> va_P (dC, dI) classes (aU7 cI cC cZ cB cJ a_x xI xH xB vI wY xX yA xY uD xO tJ jJ mY pG pD pE eO rG dN bD bJ aI mX dY jE eW eY dU fY gJ jG nU qB jK) H -> va_D A (aU7 cI cC cZ cB cJ a_x xI xH xB vI wY xX yA xY uD xO tJ jJ mY pG pD pE eO rG dN bD bJ aI mX dY jE eW eY dU fY gJ jG nU qB jK) -> va_S A s.heap H locs -> lv_has ls 8 [(0, .ref a_x), (2, .int x2), (3, .int x3), (4, .int x4), (5, .int x5), (6, .int x6)] -> W p l e rm_X9_route s m args below meth c H locs 0 0 (MQ below (q_X9_route dC dI cI cC cZ cB cJ A a_x xI xH xB vI wY xX yA xY uD xO tJ jJ mY pG pD pE eO rG dN bD bJ aI mX dY jE eW eY dU fY gJ jG nU post) args s 0 0 A) (F0 m 55 ls [])) : ∀ (x2 x3 x4 x5 x6 qB : Int32) (jK : Nat -> Int32) (H : Heap) (locs : List Loc) (ls : Array Slot), (ws_X9_route_55 post next bD mX dY fY) x2 x3 x4 x5 x6 qB jK -> va_P (dC, dI) classes (aU7 cI cC cZ cB cJ a_x xI xH xB vI wY xX yA xY uD xO tJ jJ mY pG pD pE eO rG dN bD bJ aI mX dY jE eW eY dU fY gJ jG nU qB jK) H -> va_D A (aU7 cI cC cZ cB cJ a_x xI xH xB vI wY xX yA xY uD xO tJ jJ mY pG pD pE eO rG dN bD bJ aI mX dY jE eW eY dU fY gJ jG nU qB jK) -> va_S A s.heap H locs -> lv_has ls 8 [(0, .ref a_x), (2, .int x2), (3, .int x3), (4, .int x4), (5, .int x5), (6, .int x6)] -> W p l e rm_X9_route s m args below meth c H locs 0 0 (MQ below (q_X9_route dC dI cI cC cZ cB cJ A a_x xI xH xB vI wY xX yA xY uD xO tJ jJ mY pG pD pE eO rG dN bD bJ aI mX dY jE eW eY dU fY gJ jG nU post) args s 0 0 A) (F0 m 55 ls []) := by
  obtain ⟨hx, hb, hr, hml, hown, hts, hlocks, hA, hK, hN, tL, tM, hZL, hTL, hZM, hTM, hZX⟩ := id C0
  intro x2 x3 x4 x5 x6 qB jK H locs ls hp hP hD hS hl
  unfold ws_X9_route_55 at hp
  refine lv_iload hx hb aWv.2.2.2.2.2.2.2.2.2.2.2.2.2.1 (lv_at hl 5 rfl) ?_
  refine lv_bipush (v := 8) hx hb aWv.2.2.2.2.2.2.2.2.2.2.2.2.2.2.1 bp_8 ?_
  refine lv_icmp_ge (tgt := 130) hx hb aWv.2.2.2.2.2.2.2.2.2.2.2.2.2.2.2 (by decide) (fun hc => ?_) (fun hc => ?_)
  · have hp := hp.1 hc
    refine lv_iload hx hb eX9_route_120.2.2.2.2.2.1 (lv_at hl 3 rfl) ?_
    exact W.iret (v := x4) hx hb hr (fun t ht hW => ⟨⟨x4, (qB, jK), rfl, hp, by rw [ht]; exact hP, va_K.moved hW.alike hK, hD⟩, hS.F ht⟩) hS.2.2 eX9_route_120.2.2.2.2.2.2
  · have hp := hp.2 hc
    refine lv_iload_n hx hb aWw.1 rfl (lv_at hl 1 rfl) ?_
    refine lv_if_eq (tgt := 130) hx hb aWw.2.1 (by decide) (fun hc => ?_) (fun hc => ?_)
    · have hp := hp.1 hc
      refine lv_iload hx hb eX9_route_120.2.2.2.2.2.1 (lv_at hl 3 rfl) ?_
      exact W.iret (v := x4) hx hb hr (fun t ht hW => ⟨⟨x4, (qB, jK), rfl, hp, by rw [ht]; exact hP, va_K.moved hW.alike hK, hD⟩, hS.F ht⟩) hS.2.2 eX9_route_120.2.2.2.2.2.2
    · have hp := hp.2 hc
      refine lv_aload_n hx hb aWw.2.2.1 rfl (lv_at hl 0 rfl) ?_
      refine va_get (D := (dC, dI)) (ci := 9) (v := .ref vI) (C := RX9) (T := TX9) (N := 9) hx hb hts aC3 hown hK hP 0 rfl rfl 3 (lbz rfl) (hts _ q_74) (fun _ h9 => h9) rfl aWw.2.2.2.1 ?_
      refine lv_iload_n hx hb aWw.2.2.2.2.1 rfl (lv_at hl 2 rfl) ?_
      refine lv_iload_n hx hb aWw.2.2.2.2.2.1 rfl (lv_at hl 1 rfl) ?_
      refine lv_iload hx hb aWw.2.2.2.2.2.2.1 (lv_at hl 4 rfl) ?_
      have hm := mgk (wc := (aKF cI cC cZ cB cJ vI tJ jJ mY pG pD pE eO dN bD bJ aI mX dY)) hP mk_35 8 rfl rfl rfl
      refine yW hP hD hS hA (yS mk_35) (aAi mk_35) hm.1 hm.2 (aAk _) (zW _) (zF (As := [.int x3, .int x2, .int x5]) (rest := []) C0 hP hD hS (yS mk_35) hm.1 (aAl _) 2 3 rfl rfl (c_X3_firstOfWay l dC dI cI cC cZ cB cJ vI tJ jJ mY pG pD pE eO H.size x3 x2 x5 dN bD bJ aI mX dY _ hp) q_499 q_502 q_500 q_501 q_48 h_X3_firstOfWay rfl rfl ⟨lbz rfl, lbz rfl⟩ rfl rfl hl.1 rfl (lv_room (lbz rfl)) aWw.2.2.2.2.2.2.2.1 ⟨Nat.zero_le _, Nat.zero_le _⟩) (fun r_5 u H locs hp hP hD hS => ?_)
      have hPD := PDm (ws' := (aU7 cI cC cZ cB cJ a_x xI xH xB vI wY xX yA xY uD xO tJ jJ mY pG pD pE eO rG dN bD bJ aI mX dY jE eW eY dU fY gJ jG nU qB jK)) hP hD 8 rfl rfl rfl
      have hP := hPD.1
      have hD := hPD.2
      refine lv_istore (lv' := [(7, .int r_5), (0, .ref a_x), (2, .int x2), (3, .int x3), (4, .int x4), (5, .int x5), (6, .int x6)]) hx hb aWw.2.2.2.2.2.2.2.2.1 hl (by decide) rfl (fun ls hl => ?_)
      refine lv_iload hx hb aWw.2.2.2.2.2.2.2.2.2.1 (lv_at hl 0 rfl) ?_
      refine lv_iconst (v := (-1)) hx hb aWw.2.2.2.2.2.2.2.2.2.2.1 aEJ ?_
      refine lv_icmp_ne (tgt := 88) hx hb aWw.2.2.2.2.2.2.2.2.2.2.2.1 (by decide) (fun hc => ?_) (fun hc => ?_)
      · have hp := hp.1 hc
        refine lv_aload_n hx hb aWw.2.2.2.2.2.2.2.2.2.2.2.2.2.1 rfl (lv_at hl 1 rfl) ?_
        refine va_get (D := (dC, dI)) (ci := 9) (v := .ref yA) (C := RX9) (T := TX9) (N := 9) hx hb hts aC3 hown hK hP 0 rfl rfl 6 (lbz rfl) (hts _ q_363) (fun _ h9 => h9) rfl aWw.2.2.2.2.2.2.2.2.2.2.2.2.2.2.1 ?_
        refine lv_iload hx hb aWw.2.2.2.2.2.2.2.2.2.2.2.2.2.2.2 (lv_at hl 0 rfl) ?_
        have hm := mgk (wc := (wd_X6_add cI cC cZ cB cJ yA rG qB jK)) hP mk_132 8 rfl rfl rfl
        refine aBn hP hD hS hA (yS mk_132) (aAi mk_132) hm.1 hm.2 (aAk _) (zW _) (zF (As := [.int r_5]) (rest := []) C0 hP hD hS (yS mk_132) hm.1 (aAl _) 6 6 rfl rfl (c_X6_add l dC dI cI cC cZ cB cJ yA rG H.size r_5 qB jK _ hp) q_369 q_372 q_370 q_371 q_365 h_X6_add rfl rfl ⟨lbz rfl, lbz rfl⟩ rfl rfl hl.1 rfl (lv_room (lbz rfl)) aWx.1 ⟨Nat.zero_le _, Nat.zero_le _⟩) (fun u H locs hp hP hD hS => ?_)
        obtain ⟨aKD, aF9⟩ := u
        have hPD := PDm (ws' := (aU7 cI cC cZ cB cJ a_x xI xH xB vI wY xX yA xY uD xO tJ jJ mY pG pD pE eO rG dN bD bJ aI mX dY jE eW eY dU fY gJ jG nU aKD aF9)) hP hD 8 rfl rfl rfl
        have hP := hPD.1
        have hD := hPD.2
        refine lv_iload hx hb aWx.2.1 (lv_at hl 5 rfl) ?_
        refine lv_aload_n hx hb aWx.2.2.1 rfl (lv_at hl 1 rfl) ?_
        refine va_get (D := (dC, dI)) (ci := 9) (v := .ref vI) (C := RX9) (T := TX9) (N := 9) hx hb hts aC3 hown hK hP 0 rfl rfl 3 (lbz rfl) (hts _ q_74) (fun _ h9 => h9) rfl aWx.2.2.2.1 ?_
        refine lv_iload_n hx hb aWx.2.2.2.2.1 rfl (lv_at hl 3 rfl) ?_
        refine lv_iload hx hb aWx.2.2.2.2.2.1 (lv_at hl 0 rfl) ?_
        have hm := mgk (wc := (bBP cI cC cZ cB cJ vI tJ jJ mY pG pD pE eO dN bD bJ aI mX dY)) hP mk_35 8 rfl rfl rfl
        refine yW hP hD hS hA (yS mk_35) (aAi mk_35) hm.1 hm.2 (aAk _) (zW _) (zF (As := [.int x3, .int r_5]) (rest := [.int x5]) C0 hP hD hS (yS mk_35) hm.1 (aAl _) 2 3 rfl rfl (c_X3_moveSeconds l dC dI cI cC cZ cB cJ vI tJ jJ mY pG pD pE eO H.size x3 r_5 dN bD bJ aI mX dY _ hp) q_229 q_503 q_230 q_231 q_48 h_X3_moveSeconds rfl rfl ⟨lbz rfl, lbz rfl⟩ rfl rfl hl.1 rfl (lv_room (lbz rfl)) aWx.2.2.2.2.2.2.1 ⟨Nat.zero_le _, Nat.zero_le _⟩) (fun r_8 u H locs hp hP hD hS => ?_)
        have hPD := PDm (ws' := (aU7 cI cC cZ cB cJ a_x xI xH xB vI wY xX yA xY uD xO tJ jJ mY pG pD pE eO rG dN bD bJ aI mX dY jE eW eY dU fY gJ jG nU aKD aF9)) hP hD 8 rfl rfl rfl
        have hP := hPD.1
        have hD := hPD.2
        refine lv_isub hx hb aWx.2.2.2.2.2.2.2.1 ?_
        refine lv_topi (fun v_9 ev_9 => ?_)
        have hp := hp v_9 ev_9
        refine lv_istore (lv' := [(5, .int v_9), (7, .int r_5), (0, .ref a_x), (2, .int x2), (3, .int x3), (4, .int x4), (6, .int x6)]) hx hb aWx.2.2.2.2.2.2.2.2.1 hl (by decide) rfl (fun ls hl => ?_)
        refine lv_iload_n hx hb aWx.2.2.2.2.2.2.2.2.2.1 rfl (lv_at hl 3 rfl) ?_
        refine lv_iconst (v := 1) hx hb aWx.2.2.2.2.2.2.2.2.2.2.1 aDx ?_
        refine lv_iload hx hb aWx.2.2.2.2.2.2.2.2.2.2.2.1 (lv_at hl 1 rfl) ?_
        refine lv_ishl hx hb aWx.2.2.2.2.2.2.2.2.2.2.2.2.1 ?_
        refine lv_topi (fun aEr aNB => ?_)
        have hp := hp aEr aNB
        refine lv_iconst (v := (-1)) hx hb aWx.2.2.2.2.2.2.2.2.2.2.2.2.2.1 aEJ ?_
        refine lv_ixor hx hb aWx.2.2.2.2.2.2.2.2.2.2.2.2.2.2.1 ?_
        refine lv_iand hx hb aWx.2.2.2.2.2.2.2.2.2.2.2.2.2.2.2 ?_
        refine lv_topi (fun aGH ev_11 => ?_)
        have hp := hp aGH ev_11
        refine lv_istore_n (lv' := [(2, .int aGH), (5, .int v_9), (7, .int r_5), (0, .ref a_x), (3, .int x3), (4, .int x4), (6, .int x6)]) hx hb eX9_route_120.1 rfl hl (by decide) rfl (fun ls hl => ?_)
        refine lv_iload hx hb eX9_route_120.2.1 (lv_at hl 2 rfl) ?_
        refine lv_istore_n (lv' := [(3, .int r_5), (2, .int aGH), (5, .int v_9), (7, .int r_5), (0, .ref a_x), (4, .int x4), (6, .int x6)]) hx hb eX9_route_120.2.2.1 rfl hl (by decide) rfl (fun ls hl => ?_)
        obtain ⟨aEp, ev_12⟩ : ∃ y : Int32, y = x6 + 1 := ⟨_, rfl⟩
        refine lv_iinc (v := aEp) (lv' := [(6, .int aEp), (3, .int r_5), (2, .int aGH), (5, .int v_9), (7, .int r_5), (0, .ref a_x), (4, .int x4)]) hx hb eX9_route_120.2.2.2.1 hl (k := 6) rfl (by rw [ev_12]; rfl) (by decide) rfl (fun ls hl => ?_)
        have hp := hp aEp ev_12
        refine lv_goto (tgt := 55) hx hb eX9_route_120.2.2.2.2.1 (by decide) ?_
        exact hKn aGH r_5 x4 v_9 aEp aKD aF9 H locs ls hp hP hD hS (lv_sub hl [5, 2, 1, 6, 3, 0] rfl)
      · have hp := hp.2 hc
        refine lv_goto (tgt := 130) hx hb aWw.2.2.2.2.2.2.2.2.2.2.2.2.1 (by decide) ?_
        refine lv_iload hx hb eX9_route_120.2.2.2.2.2.1 (lv_at hl 4 rfl) ?_
        exact W.iret (v := x4) hx hb hr (fun t ht hW => ⟨⟨x4, (qB, jK), rfl, hp, by rw [ht]; exact hP, va_K.moved hW.alike hK, hD⟩, hS.F ht⟩) hS.2.2 eX9_route_120.2.2.2.2.2.2
set_option maxHeartbeats 4000000 in
set_option maxRecDepth 100000 in
theorem kb_X9_route_55 (C0 : gc aDg (some .int) 8 RX9 (dC, dI) (tyl cI cC cZ cB cJ) A p s m args meth c) : ∀ (n : Nat), ∀ (x2 x3 x4 x5 x6 qB : Int32) (jK : Nat -> Int32) (H : Heap) (locs : List Loc) (ls : Array Slot), (wb_X9_route_55 post bD mX dY fY n) x2 x3 x4 x5 x6 qB jK -> va_P (dC, dI) classes (aU7 cI cC cZ cB cJ a_x xI xH xB vI wY xX yA xY uD xO tJ jJ mY pG pD pE eO rG dN bD bJ aI mX dY jE eW eY dU fY gJ jG nU qB jK) H -> va_D A (aU7 cI cC cZ cB cJ a_x xI xH xB vI wY xX yA xY uD xO tJ jJ mY pG pD pE eO rG dN bD bJ aI mX dY jE eW eY dU fY gJ jG nU qB jK) -> va_S A s.heap H locs -> lv_has ls 8 [(0, .ref a_x), (2, .int x2), (3, .int x3), (4, .int x4), (5, .int x5), (6, .int x6)] -> W p l e rm_X9_route s m args below meth c H locs 0 0 (MQ below (q_X9_route dC dI cI cC cZ cB cJ A a_x xI xH xB vI wY xX yA xY uD xO tJ jJ mY pG pD pE eO rG dN bD bJ aI mX dY jE eW eY dU fY gJ jG nU post) args s 0 0 A) (F0 m 55 ls []) := by
  intro n
  induction n with
  | zero =>
    intro x2 x3 x4 x5 x6 qB jK H locs ls hp
    exact False.elim hp
  | succ n ih =>
    intro x2 x3 x4 x5 x6 qB jK H locs ls hp
    exact ks_X9_route_55 C0 ih x2 x3 x4 x5 x6 qB jK H locs ls hp
end S_X9_route
def wp_X9_route (post : Int32 -> Int32 -> (Nat -> Int32) -> Prop) (p0 bD : Int32) (mX dY : Nat -> Int32) (fY qB : Int32) (jK : Nat -> Int32) : Prop := wp_X3_areStandings (fun r_1 => (¬ r_1 = 0 -> wp_X6_clear (fun aUU => wp_X0_withoutLadder (fun r_3 => wp_X3_waySeconds (fun r_4 => ∃ n : Nat, wb_X9_route_55 post bD mX dY fY n r_3 fY r_4 r_4 0 aUU jK) fY r_3 bD mX dY) p0 fY) qB) /\ (r_1 = 0 -> post (-1) qB jK)) p0 bD
set_option maxHeartbeats 4000000 in
set_option maxRecDepth 100000 in
theorem c_X9_route (l : Launch) (dC : Nat -> ClassId) (dI : Nat -> Nat -> Nat) (cI cC cZ cB cJ : ClassId) (a_x xI xH xB vI wY xX yA xY uD xO tJ jJ mY pG pD pE eO rG sz : Nat) (p0 dN bD bJ aI : Int32) (mX dY : Nat -> Int32) (jE eW eY dU fY gJ jG nU qB : Int32) (jK : Nat -> Int32) (post : Int32 -> Int32 -> (Nat -> Int32) -> Prop) (hw : wp_X9_route post p0 bD mX dY fY qB jK) : Met l yX9_route (gw yX9_route aDg 8 (some .int)) rm_X9_route (va_Pc [.ref a_x, .int p0] (gPre (dC, dI) (tyl cI cC cZ cB cJ) (aU7 cI cC cZ cB cJ a_x xI xH xB vI wY xX yA xY uD xO tJ jJ mY pG pD pE eO rG dN bD bJ aI mX dY jE eW eY dU fY gJ jG nU qB jK) sz)) (q_X9_route dC dI cI cC cZ cB cJ (va_A (aU7 cI cC cZ cB cJ a_x xI xH xB vI wY xX yA xY uD xO tJ jJ mY pG pD pE eO rG dN bD bJ aI mX dY jE eW eY dU fY gJ jG nU qB jK) sz) a_x xI xH xB vI wY xX yA xY uD xO tJ jJ mY pG pD pE eO rG dN bD bJ aI mX dY jE eW eY dU fY gJ jG nU post) 0 0 (va_A (aU7 cI cC cZ cB cJ a_x xI xH xB vI wY xX yA xY uD xO tJ jJ mY pG pD pE eO rG dN bD bJ aI mX dY jE eW eY dU fY gJ jG nU qB jK) sz) := by
  refine aBJ (own := RX9) (dC, dI) (tyl cI cC cZ cB cJ) (aU7 cI cC cZ cB cJ a_x xI xH xB vI wY xX yA xY uD xO tJ jJ mY pG pD pE eO rG dN bD bJ aI mX dY jE eW eY dU fY gJ jG nU qB jK) sz [.ref a_x, .int p0] (fun A => q_X9_route dC dI cI cC cZ cB cJ A a_x xI xH xB vI wY xX yA xY uD xO tJ jJ mY pG pD pE eO rG dN bD bJ aI mX dY jE eW eY dU fY gJ jG nU post) pn_RX9 rfl (lbz rfl) ?_
  intro p e s m args below meth c A H locs ls C0 hP hD hS hl
  have hl : lv_has ls 8 [(0, .ref a_x), (1, .int p0)] := hl
  obtain ⟨hx, hb, hr, hml, hown, hts, hlocks, hA, hK, hN, tL, tM, hZL, hTL, hZM, hTM, hZX⟩ := id C0
  have hp := hw
  unfold wp_X9_route at hp
  refine lv_aload_n hx hb bAr.1 rfl (lv_at hl 0 rfl) ?_
  refine va_get (D := (dC, dI)) (ci := 9) (v := .ref vI) (C := RX9) (T := TX9) (N := 9) hx hb hts aC3 hown hK hP 0 rfl rfl 3 (lbz rfl) (hts _ q_74) (fun _ h9 => h9) rfl bAr.2.1 ?_
  refine lv_iload_n hx hb bAr.2.2.1 rfl (lv_at hl 1 rfl) ?_
  have hm := mgk (wc := (aVM cI cC cZ cB cJ vI tJ jJ mY pG pD pE eO dN bD bJ aI)) hP mk_32 8 rfl rfl rfl
  refine yW hP hD hS hA (yS mk_32) (aAi mk_32) hm.1 hm.2 (aAk _) (zW _) (zF (As := [.int p0]) (rest := []) C0 hP hD hS (yS mk_32) hm.1 (aAl _) 2 3 rfl rfl (c_X3_areStandings l dC dI cI cC cZ cB cJ vI tJ jJ mY pG pD pE eO H.size p0 dN bD bJ aI _ hp) q_483 q_486 q_484 q_485 q_48 h_X3_areStandings rfl rfl ⟨lbz rfl, lbz rfl⟩ rfl rfl hl.1 rfl (lv_room (lbz rfl)) bAr.2.2.2.1 ⟨Nat.zero_le _, Nat.zero_le _⟩) (fun r_1 u H locs hp hP hD hS => ?_)
  have hPD := PDm (ws' := (aU7 cI cC cZ cB cJ a_x xI xH xB vI wY xX yA xY uD xO tJ jJ mY pG pD pE eO rG dN bD bJ aI mX dY jE eW eY dU fY gJ jG nU qB jK)) hP hD 8 rfl rfl rfl
  have hP := hPD.1
  have hD := hPD.2
  refine lv_if_ne (tgt := 13) hx hb bAr.2.2.2.2.1 (by decide) (fun hc => ?_) (fun hc => ?_)
  · have hp := hp.1 hc
    refine lv_aload_n hx hb bAr.2.2.2.2.2.2.2.1 rfl (lv_at hl 0 rfl) ?_
    refine va_get (D := (dC, dI)) (ci := 9) (v := .ref yA) (C := RX9) (T := TX9) (N := 9) hx hb hts aC3 hown hK hP 0 rfl rfl 6 (lbz rfl) (hts _ q_363) (fun _ h9 => h9) rfl bAr.2.2.2.2.2.2.2.2.1 ?_
    have hm := mgk (wc := (wd_X6_clear cI cC cZ cB cJ yA rG qB)) hP mk_133 8 rfl rfl rfl
    refine aBn hP hD hS hA (yS mk_133) (aAi mk_133) hm.1 hm.2 (aAk _) (zW _) (zF (As := []) (rest := []) C0 hP hD hS (yS mk_133) hm.1 (aAl _) 6 6 rfl rfl (c_X6_clear l dC dI cI cC cZ cB cJ yA rG H.size qB _ hp) q_364 q_368 q_366 q_367 q_365 h_X6_clear rfl rfl ⟨lbz rfl, lbz rfl⟩ rfl rfl hl.1 rfl (lv_room (lbz rfl)) bAr.2.2.2.2.2.2.2.2.2.1 ⟨Nat.zero_le _, Nat.zero_le _⟩) (fun u H locs hp hP hD hS => ?_)
    obtain ⟨aUU, rfl⟩ : ∃ z, z = u := ⟨_, rfl⟩
    have hPD := PDm (ws' := (aU7 cI cC cZ cB cJ a_x xI xH xB vI wY xX yA xY uD xO tJ jJ mY pG pD pE eO rG dN bD bJ aI mX dY jE eW eY dU fY gJ jG nU aUU jK)) hP hD 8 rfl rfl rfl
    have hP := hPD.1
    have hD := hPD.2
    refine lv_aload_n hx hb bAr.2.2.2.2.2.2.2.2.2.2.1 rfl (lv_at hl 0 rfl) ?_
    refine va_get (D := (dC, dI)) (ci := 9) (v := .ref xB) (C := RX9) (T := TX9) (N := 9) hx hb hts aC3 hown hK hP 0 rfl rfl 2 (lbz rfl) (hts _ q_146) (fun _ h9 => h9) rfl bAr.2.2.2.2.2.2.2.2.2.2.2.1 ?_
    refine lv_iload_n hx hb bAr.2.2.2.2.2.2.2.2.2.2.2.2.1 rfl (lv_at hl 1 rfl) ?_
    have hm := mgk (wc := (wd_X0_withoutLadder cI cC cZ cB cJ xB vI wY xO jE eW eY dU fY gJ jG nU)) hP mk_134 8 rfl rfl rfl
    refine yW hP hD hS hA (yS mk_134) (aAi mk_134) hm.1 hm.2 (aAk _) (zW _) (zF (As := [.int p0]) (rest := []) C0 hP hD hS (yS mk_134) hm.1 (aAl _) 1 0 rfl rfl (c_X0_withoutLadder l dC dI cI cC cZ cB cJ xB vI wY xO H.size p0 jE eW eY dU fY gJ jG nU _ hp) q_493 q_496 q_494 q_495 q_187 h_X0_withoutLadder rfl rfl ⟨lbz rfl, lbz rfl⟩ rfl rfl hl.1 rfl (lv_room (lbz rfl)) bAr.2.2.2.2.2.2.2.2.2.2.2.2.2.1 ⟨Nat.zero_le _, Nat.zero_le _⟩) (fun r_3 u H locs hp hP hD hS => ?_)
    have hPD := PDm (ws' := (aU7 cI cC cZ cB cJ a_x xI xH xB vI wY xX yA xY uD xO tJ jJ mY pG pD pE eO rG dN bD bJ aI mX dY jE eW eY dU fY gJ jG nU aUU jK)) hP hD 8 rfl rfl rfl
    have hP := hPD.1
    have hD := hPD.2
    refine lv_istore_n (lv' := [(2, .int r_3), (0, .ref a_x), (1, .int p0)]) hx hb bAr.2.2.2.2.2.2.2.2.2.2.2.2.2.2.1 rfl hl (by decide) rfl (fun ls hl => ?_)
    refine lv_aload_n hx hb bAr.2.2.2.2.2.2.2.2.2.2.2.2.2.2.2 rfl (lv_at hl 1 rfl) ?_
    refine va_get (D := (dC, dI)) (ci := 9) (v := .ref wY) (C := RX9) (T := TX9) (N := 9) hx hb hts aC3 hown hK hP 0 rfl rfl 4 (lbz rfl) (hts _ q_179) (fun _ h9 => h9) rfl aWv.1 ?_
    refine va_get (D := (dC, dI)) (ci := 2) (v := .int fY) (C := RX2) (T := TX2) (N := 8) hx hb hts i_X2 hown hK hP 5 rfl rfl 4 (lbz rfl) (hts _ q_497) (fun _ h9 => h9) rfl aWv.2.1 ?_
    refine lv_istore_n (lv' := [(3, .int fY), (2, .int r_3), (0, .ref a_x), (1, .int p0)]) hx hb aWv.2.2.1 rfl hl (by decide) rfl (fun ls hl => ?_)
    refine lv_aload_n hx hb aWv.2.2.2.1 rfl (lv_at hl 2 rfl) ?_
    refine va_get (D := (dC, dI)) (ci := 9) (v := .ref vI) (C := RX9) (T := TX9) (N := 9) hx hb hts aC3 hown hK hP 0 rfl rfl 3 (lbz rfl) (hts _ q_74) (fun _ h9 => h9) rfl aWv.2.2.2.2.1 ?_
    refine lv_iload_n hx hb aWv.2.2.2.2.2.1 rfl (lv_at hl 0 rfl) ?_
    refine lv_iload_n hx hb aWv.2.2.2.2.2.2.1 rfl (lv_at hl 1 rfl) ?_
    have hm := mgk (wc := (aIA cI cC cZ cB cJ vI tJ jJ mY pG pD pE eO dN bD bJ aI mX dY)) hP mk_35 8 rfl rfl rfl
    refine yW hP hD hS hA (yS mk_35) (aAi mk_35) hm.1 hm.2 (aAk _) (zW _) (zF (As := [.int fY, .int r_3]) (rest := []) C0 hP hD hS (yS mk_35) hm.1 (aAl _) 2 3 rfl rfl (c_X3_waySeconds l dC dI cI cC cZ cB cJ vI tJ jJ mY pG pD pE eO H.size fY r_3 dN bD bJ aI mX dY _ hp) q_489 q_498 q_490 q_491 q_48 h_X3_waySeconds rfl rfl ⟨lbz rfl, lbz rfl⟩ rfl rfl hl.1 rfl (lv_room (lbz rfl)) aWv.2.2.2.2.2.2.2.1 ⟨Nat.zero_le _, Nat.zero_le _⟩) (fun r_4 u H locs hp hP hD hS => ?_)
    have hPD := PDm (ws' := (aU7 cI cC cZ cB cJ a_x xI xH xB vI wY xX yA xY uD xO tJ jJ mY pG pD pE eO rG dN bD bJ aI mX dY jE eW eY dU fY gJ jG nU aUU jK)) hP hD 8 rfl rfl rfl
    have hP := hPD.1
    have hD := hPD.2
    refine lv_istore (lv' := [(4, .int r_4), (3, .int fY), (2, .int r_3), (0, .ref a_x), (1, .int p0)]) hx hb aWv.2.2.2.2.2.2.2.2.1 hl (by decide) rfl (fun ls hl => ?_)
    refine lv_iload hx hb aWv.2.2.2.2.2.2.2.2.2.1 (lv_at hl 0 rfl) ?_
    refine lv_istore (lv' := [(5, .int r_4), (4, .int r_4), (3, .int fY), (2, .int r_3), (0, .ref a_x), (1, .int p0)]) hx hb aWv.2.2.2.2.2.2.2.2.2.2.1 hl (by decide) rfl (fun ls hl => ?_)
    refine lv_iconst (v := 0) hx hb aWv.2.2.2.2.2.2.2.2.2.2.2.1 aCi ?_
    refine lv_istore (lv' := [(6, .int 0), (5, .int r_4), (4, .int r_4), (3, .int fY), (2, .int r_3), (0, .ref a_x), (1, .int p0)]) hx hb aWv.2.2.2.2.2.2.2.2.2.2.2.2.1 hl (by decide) rfl (fun ls hl => ?_)
    obtain ⟨n9, hp⟩ := hp
    exact kb_X9_route_55 C0 n9 r_3 fY r_4 r_4 0 aUU jK H locs ls hp hP hD hS (lv_sub hl [5, 4, 3, 2, 1, 0] rfl)
  · have hp := hp.2 hc
    refine lv_iconst (v := (-1)) hx hb bAr.2.2.2.2.2.1 aEJ ?_
    exact W.iret (v := (-1)) hx hb hr (fun t ht hW => ⟨⟨(-1), (qB, jK), rfl, hp, by rw [ht]; exact hP, va_K.moved hW.alike hK, hD⟩, hS.F ht⟩) hS.2.2 bAr.2.2.2.2.2.2.1
abbrev aF4 (cI cC cZ cB cJ : ClassId) (xH xB vI uJ rW uQ uP uO wY xO tJ jJ mY pG pD pE eO uS tX uR rY tY : Nat) (oY rJ pX rO : Int32) (rD sG : Nat -> Int32) (dN bD bJ aI : Int32) (uU gF pL mX oE : Nat -> Int32) (jE eW eY dU fY gJ jG nU pQ qI sY uG pY nJ : Int32) (qY qU pN : Nat -> Int32) : va_W := [(xH, .inr (5, [.ref xB, .ref vI, .ref uJ, .ref rW, .ref uQ, .ref uP, .ref uO, .int oY, .int rJ, .int pX, .int rO])), (uJ, .inl (cI, 8, .inl rD)), (rW, .inl (cI, 128, .inl sG)), (xB, .inr (0, [.ref vI, .ref wY, .ref xO])), (vI, .inr (3, [.ref tJ, .ref jJ, .ref mY, .ref pG, .ref pD, .ref pE, .ref eO, .int dN, .int bD, .int bJ, .int aI])), (tJ, .inl (cI, 16, .inl uU)), (jJ, .inl (cI, 16, .inl gF)), (mY, .inl (cI, 16, .inl pL)), (pD, .inl (cI, 8, .inl mX)), (pE, .inl (cI, 8, .inl oE)), (wY, .inr (2, [.int jE, .int eW, .int eY, .int dU, .int fY, .int gJ, .int jG, .int nU])), (xO, .inr (7, [.ref uS, .ref tX, .ref uR, .ref rY, .ref tY, .int pQ, .int qI, .int sY, .int uG, .int pY, .int nJ])), (uS, .inl (cI, 7, .inl qY)), (uR, .inl (cI, 40, .inl qU)), (rY, .inl (cI, 40, .inl pN))]
abbrev q_X5_timeAll (dC : Nat -> ClassId) (dI : Nat -> Nat -> Nat) (cI cC cZ cB cJ : ClassId) (A : Nat -> Prop) (xH xB vI uJ rW uQ uP uO wY xO tJ jJ mY pG pD pE eO uS tX uR rY tY : Nat) (oY rJ pX rO : Int32) (rD : Nat -> Int32) (dN bD bJ aI : Int32) (uU gF pL mX oE : Nat -> Int32) (jE eW eY dU fY gJ jG nU pQ qI sY uG pY nJ : Int32) (pN : Nat -> Int32) (post : (Nat -> Int32) -> (Nat -> Int32) -> (Nat -> Int32) -> Prop) : Array Value -> State -> Outcome -> State -> Prop := va_Qv (fun (u : (Nat -> Int32) × (Nat -> Int32) × (Nat -> Int32)) => post u.1 u.2.1 u.2.2) (fun u t => gB (dC, dI) (tyl cI cC cZ cB cJ) A (aF4 cI cC cZ cB cJ xH xB vI uJ rW uQ uP uO wY xO tJ jJ mY pG pD pE eO uS tX uR rY tY oY rJ pX rO rD u.1 dN bD bJ aI uU gF pL mX oE jE eW eY dU fY gJ jG nU pQ qI sY uG pY nJ u.2.1 u.2.2 pN) t) A
abbrev bCE : Room := { frames := 3, cells := 0, slots := 0, locals := 73 }
section S_X5_timeAll
variable {p : Program} {l : Launch} {e : Env} {s : State} {m : MethodId} {args : Array Value} {below : List Frame} {meth : Method} {c : Code} {dC : Nat -> ClassId} {dI : Nat -> Nat -> Nat} {cI cC cZ cB cJ : ClassId} {A : Nat -> Prop} {xH xB vI uJ rW uQ uP uO wY xO tJ jJ mY pG pD pE eO uS tX uR rY tY : Nat} {oY rJ pX rO : Int32} {rD : Nat -> Int32} {dN bD bJ aI : Int32} {uU gF pL mX oE : Nat -> Int32} {jE eW eY dU fY gJ jG nU pQ qI sY uG pY nJ : Int32} {pN : Nat -> Int32} {post : (Nat -> Int32) -> (Nat -> Int32) -> (Nat -> Int32) -> Prop}
def ws_X5_timeAll_60 (post : (Nat -> Int32) -> (Nat -> Int32) -> (Nat -> Int32) -> Prop) (K2 : Int32 -> (Nat -> Int32) -> (Nat -> Int32) -> (Nat -> Int32) -> Prop) (K15 : Int32 -> Int32 -> (Nat -> Int32) -> (Nat -> Int32) -> (Nat -> Int32) -> Prop) (oY : Int32) (rD : Nat -> Int32) (dN bD : Int32) (uU gF pL mX oE : Nat -> Int32) (dU pQ : Int32) (pN : Nat -> Int32) (x1 x2 : Int32) (sG qY qU : Nat -> Int32) : Prop := ∀ v_4 : Int32, v_4 = x2 + 1 -> K15 x1 v_4 sG qY qU
set_option maxHeartbeats 4000000 in
set_option maxRecDepth 100000 in
theorem ks_X5_timeAll_60 (C0 : gc aEv none 3 RX5 (dC, dI) (tyl cI cC cZ cB cJ) A p s m args meth c) {K2 : Int32 -> (Nat -> Int32) -> (Nat -> Int32) -> (Nat -> Int32) -> Prop} {K15 : Int32 -> Int32 -> (Nat -> Int32) -> (Nat -> Int32) -> (Nat -> Int32) -> Prop} (hK2 : ∀ (x1 : Int32) (sG : Nat -> Int32) (qY : Nat -> Int32) (qU : Nat -> Int32) (H : Heap) (locs : List Loc) (ls : Array Slot), K2 x1 sG qY qU -> va_P (dC, dI) classes (aF4 cI cC cZ cB cJ xH xB vI uJ rW uQ uP uO wY xO tJ jJ mY pG pD pE eO uS tX uR rY tY oY rJ pX rO rD sG dN bD bJ aI uU gF pL mX oE jE eW eY dU fY gJ jG nU pQ qI sY uG pY nJ qY qU pN) H -> va_D A (aF4 cI cC cZ cB cJ xH xB vI uJ rW uQ uP uO wY xO tJ jJ mY pG pD pE eO uS tX uR rY tY oY rJ pX rO rD sG dN bD bJ aI uU gF pL mX oE jE eW eY dU fY gJ jG nU pQ qI sY uG pY nJ qY qU pN) -> va_S A s.heap H locs -> lv_has ls 3 [(0, .ref xH), (1, .int x1)] -> W p l e bCE s m args below meth c H locs 0 0 (MQ below (q_X5_timeAll dC dI cI cC cZ cB cJ A xH xB vI uJ rW uQ uP uO wY xO tJ jJ mY pG pD pE eO uS tX uR rY tY oY rJ pX rO rD dN bD bJ aI uU gF pL mX oE jE eW eY dU fY gJ jG nU pQ qI sY uG pY nJ pN post) args s 0 0 A) (F0 m 2 ls [])) (hK15 : ∀ (x1 : Int32) (x2 : Int32) (sG : Nat -> Int32) (qY : Nat -> Int32) (qU : Nat -> Int32) (H : Heap) (locs : List Loc) (ls : Array Slot), K15 x1 x2 sG qY qU -> va_P (dC, dI) classes (aF4 cI cC cZ cB cJ xH xB vI uJ rW uQ uP uO wY xO tJ jJ mY pG pD pE eO uS tX uR rY tY oY rJ pX rO rD sG dN bD bJ aI uU gF pL mX oE jE eW eY dU fY gJ jG nU pQ qI sY uG pY nJ qY qU pN) H -> va_D A (aF4 cI cC cZ cB cJ xH xB vI uJ rW uQ uP uO wY xO tJ jJ mY pG pD pE eO uS tX uR rY tY oY rJ pX rO rD sG dN bD bJ aI uU gF pL mX oE jE eW eY dU fY gJ jG nU pQ qI sY uG pY nJ qY qU pN) -> va_S A s.heap H locs -> lv_has ls 3 [(0, .ref xH), (1, .int x1), (2, .int x2)] -> W p l e bCE s m args below meth c H locs 0 0 (MQ below (q_X5_timeAll dC dI cI cC cZ cB cJ A xH xB vI uJ rW uQ uP uO wY xO tJ jJ mY pG pD pE eO uS tX uR rY tY oY rJ pX rO rD dN bD bJ aI uU gF pL mX oE jE eW eY dU fY gJ jG nU pQ qI sY uG pY nJ pN post) args s 0 0 A) (F0 m 15 ls [])) : ∀ (x1 x2 : Int32) (sG qY qU : Nat -> Int32) (H : Heap) (locs : List Loc) (ls : Array Slot), (ws_X5_timeAll_60 post K2 K15 oY rD dN bD uU gF pL mX oE dU pQ pN) x1 x2 sG qY qU -> va_P (dC, dI) classes (aF4 cI cC cZ cB cJ xH xB vI uJ rW uQ uP uO wY xO tJ jJ mY pG pD pE eO uS tX uR rY tY oY rJ pX rO rD sG dN bD bJ aI uU gF pL mX oE jE eW eY dU fY gJ jG nU pQ qI sY uG pY nJ qY qU pN) H -> va_D A (aF4 cI cC cZ cB cJ xH xB vI uJ rW uQ uP uO wY xO tJ jJ mY pG pD pE eO uS tX uR rY tY oY rJ pX rO rD sG dN bD bJ aI uU gF pL mX oE jE eW eY dU fY gJ jG nU pQ qI sY uG pY nJ qY qU pN) -> va_S A s.heap H locs -> lv_has ls 3 [(0, .ref xH), (1, .int x1), (2, .int x2)] -> W p l e bCE s m args below meth c H locs 0 0 (MQ below (q_X5_timeAll dC dI cI cC cZ cB cJ A xH xB vI uJ rW uQ uP uO wY xO tJ jJ mY pG pD pE eO uS tX uR rY tY oY rJ pX rO rD dN bD bJ aI uU gF pL mX oE jE eW eY dU fY gJ jG nU pQ qI sY uG pY nJ pN post) args s 0 0 A) (F0 m 60 ls []) := by
  obtain ⟨hx, hb, hr, hml, hown, hts, hlocks, hA, hK, hN, tL, tM, hZL, hTL, hZM, hTM, hZX⟩ := id C0
  intro x1 x2 sG qY qU H locs ls hp hP hD hS hl
  unfold ws_X5_timeAll_60 at hp
  obtain ⟨v_4, aHM⟩ : ∃ y : Int32, y = x2 + 1 := ⟨_, rfl⟩
  refine lv_iinc (v := v_4) (lv' := [(2, .int v_4), (0, .ref xH), (1, .int x1)]) hx hb eX5_timeAll_53.2.2.2.2.2.1 hl (k := 2) rfl (by rw [aHM]; rfl) (by decide) rfl (fun ls hl => ?_)
  have hp := hp v_4 aHM
  refine lv_goto (tgt := 15) hx hb eX5_timeAll_53.2.2.2.2.2.2.1 (by decide) ?_
  exact hK15 x1 v_4 sG qY qU H locs ls hp hP hD hS (lv_sub hl [1, 2, 0] rfl)
def ws_X5_timeAll_15 (post : (Nat -> Int32) -> (Nat -> Int32) -> (Nat -> Int32) -> Prop) (K2 : Int32 -> (Nat -> Int32) -> (Nat -> Int32) -> (Nat -> Int32) -> Prop) (next : Int32 -> Int32 -> (Nat -> Int32) -> (Nat -> Int32) -> (Nat -> Int32) -> Prop) (oY : Int32) (rD : Nat -> Int32) (dN bD : Int32) (uU gF pL mX oE : Nat -> Int32) (dU pQ : Int32) (pN : Nat -> Int32) (x1 x2 : Int32) (sG qY qU : Nat -> Int32) : Prop := (bD <= x2 -> ∀ v_1 : Int32, v_1 = x1 + 1 -> K2 v_1 sG qY qU) /\ (¬ bD <= x2 -> wp_X5_wantedFrom (fun r_2 => ∀ v_3 : Int32, v_3 = r_2 >>> (x1 &&& 31) -> ((v_3 &&& 1) = 0 -> ws_X5_timeAll_60 post K2 next oY rD dN bD uU gF pL mX oE dU pQ pN x1 x2 sG qY qU) /\ (¬ (v_3 &&& 1) = 0 -> ∀ v_5 : Int32, v_5 = x1 * 8 -> ∀ v_6 : Int32, v_6 = v_5 + x2 -> aSP (fun r_7 ru_given_8 ru_stack_9 => vp_in v_6 128 /\ (ws_X5_timeAll_60 post K2 next oY rD dN bD uU gF pL mX oE dU pQ pN x1 x2 (upd sG v_6.toNatClampNeg r_7) ru_given_8 ru_stack_9)) x1 x2 0 0 dN uU gF pL mX oE dU pQ qY qU pN)) x2 oY rD)
noncomputable def wb_X5_timeAll_15 (post : (Nat -> Int32) -> (Nat -> Int32) -> (Nat -> Int32) -> Prop) (K2 : Int32 -> (Nat -> Int32) -> (Nat -> Int32) -> (Nat -> Int32) -> Prop) (oY : Int32) (rD : Nat -> Int32) (dN bD : Int32) (uU gF pL mX oE : Nat -> Int32) (dU pQ : Int32) (pN : Nat -> Int32) : Nat -> Int32 -> Int32 -> (Nat -> Int32) -> (Nat -> Int32) -> (Nat -> Int32) -> Prop := fun n => Nat.rec (motive := fun _ => Int32 -> Int32 -> (Nat -> Int32) -> (Nat -> Int32) -> (Nat -> Int32) -> Prop) (fun _ _ _ _ _ => False) (fun _ ih => ws_X5_timeAll_15 post K2 ih oY rD dN bD uU gF pL mX oE dU pQ pN) n
set_option maxHeartbeats 4000000 in
set_option maxRecDepth 100000 in
theorem ks_X5_timeAll_15 (C0 : gc aEv none 3 RX5 (dC, dI) (tyl cI cC cZ cB cJ) A p s m args meth c) {K2 : Int32 -> (Nat -> Int32) -> (Nat -> Int32) -> (Nat -> Int32) -> Prop} {next : Int32 -> Int32 -> (Nat -> Int32) -> (Nat -> Int32) -> (Nat -> Int32) -> Prop} (hK2 : ∀ (x1 : Int32) (sG : Nat -> Int32) (qY : Nat -> Int32) (qU : Nat -> Int32) (H : Heap) (locs : List Loc) (ls : Array Slot), K2 x1 sG qY qU -> va_P (dC, dI) classes (aF4 cI cC cZ cB cJ xH xB vI uJ rW uQ uP uO wY xO tJ jJ mY pG pD pE eO uS tX uR rY tY oY rJ pX rO rD sG dN bD bJ aI uU gF pL mX oE jE eW eY dU fY gJ jG nU pQ qI sY uG pY nJ qY qU pN) H -> va_D A (aF4 cI cC cZ cB cJ xH xB vI uJ rW uQ uP uO wY xO tJ jJ mY pG pD pE eO uS tX uR rY tY oY rJ pX rO rD sG dN bD bJ aI uU gF pL mX oE jE eW eY dU fY gJ jG nU pQ qI sY uG pY nJ qY qU pN) -> va_S A s.heap H locs -> lv_has ls 3 [(0, .ref xH), (1, .int x1)] -> W p l e bCE s m args below meth c H locs 0 0 (MQ below (q_X5_timeAll dC dI cI cC cZ cB cJ A xH xB vI uJ rW uQ uP uO wY xO tJ jJ mY pG pD pE eO uS tX uR rY tY oY rJ pX rO rD dN bD bJ aI uU gF pL mX oE jE eW eY dU fY gJ jG nU pQ qI sY uG pY nJ pN post) args s 0 0 A) (F0 m 2 ls [])) (hKn : ∀ (x1 : Int32) (x2 : Int32) (sG : Nat -> Int32) (qY : Nat -> Int32) (qU : Nat -> Int32) (H : Heap) (locs : List Loc) (ls : Array Slot), next x1 x2 sG qY qU -> va_P (dC, dI) classes (aF4 cI cC cZ cB cJ xH xB vI uJ rW uQ uP uO wY xO tJ jJ mY pG pD pE eO uS tX uR rY tY oY rJ pX rO rD sG dN bD bJ aI uU gF pL mX oE jE eW eY dU fY gJ jG nU pQ qI sY uG pY nJ qY qU pN) H -> va_D A (aF4 cI cC cZ cB cJ xH xB vI uJ rW uQ uP uO wY xO tJ jJ mY pG pD pE eO uS tX uR rY tY oY rJ pX rO rD sG dN bD bJ aI uU gF pL mX oE jE eW eY dU fY gJ jG nU pQ qI sY uG pY nJ qY qU pN) -> va_S A s.heap H locs -> lv_has ls 3 [(0, .ref xH), (1, .int x1), (2, .int x2)] -> W p l e bCE s m args below meth c H locs 0 0 (MQ below (q_X5_timeAll dC dI cI cC cZ cB cJ A xH xB vI uJ rW uQ uP uO wY xO tJ jJ mY pG pD pE eO uS tX uR rY tY oY rJ pX rO rD dN bD bJ aI uU gF pL mX oE jE eW eY dU fY gJ jG nU pQ qI sY uG pY nJ pN post) args s 0 0 A) (F0 m 15 ls [])) : ∀ (x1 x2 : Int32) (sG qY qU : Nat -> Int32) (H : Heap) (locs : List Loc) (ls : Array Slot), (ws_X5_timeAll_15 post K2 next oY rD dN bD uU gF pL mX oE dU pQ pN) x1 x2 sG qY qU -> va_P (dC, dI) classes (aF4 cI cC cZ cB cJ xH xB vI uJ rW uQ uP uO wY xO tJ jJ mY pG pD pE eO uS tX uR rY tY oY rJ pX rO rD sG dN bD bJ aI uU gF pL mX oE jE eW eY dU fY gJ jG nU pQ qI sY uG pY nJ qY qU pN) H -> va_D A (aF4 cI cC cZ cB cJ xH xB vI uJ rW uQ uP uO wY xO tJ jJ mY pG pD pE eO uS tX uR rY tY oY rJ pX rO rD sG dN bD bJ aI uU gF pL mX oE jE eW eY dU fY gJ jG nU pQ qI sY uG pY nJ qY qU pN) -> va_S A s.heap H locs -> lv_has ls 3 [(0, .ref xH), (1, .int x1), (2, .int x2)] -> W p l e bCE s m args below meth c H locs 0 0 (MQ below (q_X5_timeAll dC dI cI cC cZ cB cJ A xH xB vI uJ rW uQ uP uO wY xO tJ jJ mY pG pD pE eO uS tX uR rY tY oY rJ pX rO rD dN bD bJ aI uU gF pL mX oE jE eW eY dU fY gJ jG nU pQ qI sY uG pY nJ pN post) args s 0 0 A) (F0 m 15 ls []) := by
  obtain ⟨hx, hb, hr, hml, hown, hts, hlocks, hA, hK, hN, tL, tM, hZL, hTL, hZM, hTM, hZX⟩ := id C0
  intro x1 x2 sG qY qU H locs ls hp hP hD hS hl
  unfold ws_X5_timeAll_15 at hp
  refine lv_iload_n hx hb aTc.2.2.2.2.2.2.2.2.2.1 rfl (lv_at hl 2 rfl) ?_
  refine lv_aload_n hx hb aTc.2.2.2.2.2.2.2.2.2.2.1 rfl (lv_at hl 0 rfl) ?_
  refine va_get (D := (dC, dI)) (ci := 5) (v := .ref vI) (C := RX5) (T := TX5) (N := 11) hx hb hts i_X5 hown hK hP 0 rfl rfl 1 (lbz rfl) (hts _ q_419) (fun _ h9 => h9) rfl aTc.2.2.2.2.2.2.2.2.2.2.2.1 ?_
  refine va_get (D := (dC, dI)) (ci := 3) (v := .int bD) (C := RX3) (T := TX3) (N := 11) hx hb hts i_X3 hown hK hP 4 rfl rfl 8 (lbz rfl) (hts _ q_420) (fun _ h9 => h9) rfl aTc.2.2.2.2.2.2.2.2.2.2.2.2.1 ?_
  refine lv_icmp_ge (tgt := 66) hx hb aTc.2.2.2.2.2.2.2.2.2.2.2.2.2.1 (by decide) (fun hc => ?_) (fun hc => ?_)
  · have hp := hp.1 hc
    obtain ⟨v_1, aFJ⟩ : ∃ y : Int32, y = x1 + 1 := ⟨_, rfl⟩
    refine lv_iinc (v := v_1) (lv' := [(1, .int v_1), (0, .ref xH), (2, .int x2)]) hx hb eX5_timeAll_53.2.2.2.2.2.2.2.1 hl (k := 1) rfl (by rw [aFJ]; rfl) (by decide) rfl (fun ls hl => ?_)
    have hp := hp v_1 aFJ
    refine lv_goto (tgt := 2) hx hb eX5_timeAll_53.2.2.2.2.2.2.2.2.1 (by decide) ?_
    exact hK2 v_1 sG qY qU H locs ls hp hP hD hS (lv_sub hl [1, 0] rfl)
  · have hp := hp.2 hc
    refine lv_aload_n hx hb aTc.2.2.2.2.2.2.2.2.2.2.2.2.2.2.1 rfl (lv_at hl 0 rfl) ?_
    refine lv_iload_n hx hb aTc.2.2.2.2.2.2.2.2.2.2.2.2.2.2.2 rfl (lv_at hl 2 rfl) ?_
    have hm := mgk (wc := (aZe cI cC cZ cB cJ xH xB vI uJ rW uQ uP uO oY rJ pX rO rD)) hP mk_135 15 rfl rfl rfl
    refine yW hP hD hS hA (yS mk_135) (aAi mk_135) hm.1 hm.2 (aAk _) (zW _) (zF (As := [.int x2]) (rest := []) C0 hP hD hS (yS mk_135) hm.1 (aAl _) 0 5 rfl rfl (c_X5_wantedFrom l dC dI cI cC cZ cB cJ xH xB vI uJ rW uQ uP uO H.size x2 oY rJ pX rO rD _ hp) q_449 q_505 q_450 q_451 aRn h_X5_wantedFrom rfl rfl ⟨lbz rfl, lbz rfl⟩ rfl rfl hl.1 rfl (lv_room (lbz rfl)) aQo.1 ⟨Nat.zero_le _, Nat.zero_le _⟩) (fun r_2 u H locs hp hP hD hS => ?_)
    have hPD := PDm (ws' := (aF4 cI cC cZ cB cJ xH xB vI uJ rW uQ uP uO wY xO tJ jJ mY pG pD pE eO uS tX uR rY tY oY rJ pX rO rD sG dN bD bJ aI uU gF pL mX oE jE eW eY dU fY gJ jG nU pQ qI sY uG pY nJ qY qU pN)) hP hD 15 rfl rfl rfl
    have hP := hPD.1
    have hD := hPD.2
    refine lv_iload_n hx hb aQo.2.1 rfl (lv_at hl 1 rfl) ?_
    refine lv_ishr hx hb aQo.2.2.1 ?_
    refine lv_topi (fun v_3 aGW => ?_)
    have hp := hp v_3 aGW
    refine lv_iconst (v := 1) hx hb aQo.2.2.2.1 aDx ?_
    refine lv_iand hx hb aQo.2.2.2.2.1 ?_
    refine lv_if_eq (tgt := 60) hx hb aQo.2.2.2.2.2.1 (by decide) (fun hc => ?_) (fun hc => ?_)
    · have hp := hp.1 hc
      exact ks_X5_timeAll_60 C0 hK2 hKn x1 x2 sG qY qU H locs ls hp hP hD hS (lv_sub hl [0, 1, 2] rfl)
    · have hp := hp.2 hc
      refine lv_aload_n hx hb aQo.2.2.2.2.2.2.1 rfl (lv_at hl 0 rfl) ?_
      refine va_get (D := (dC, dI)) (ci := 5) (v := .ref rW) (C := RX5) (T := TX5) (N := 11) hx hb hts i_X5 hown hK hP 0 rfl rfl 3 (lbz rfl) (hts _ q_506) (fun _ h9 => h9) rfl aQo.2.2.2.2.2.2.2.1 ?_
      refine lv_iload_n hx hb aQo.2.2.2.2.2.2.2.2.1 rfl (lv_at hl 1 rfl) ?_
      refine lv_bipush (v := 8) hx hb aQo.2.2.2.2.2.2.2.2.2.1 bp_8 ?_
      refine lv_imul hx hb aQo.2.2.2.2.2.2.2.2.2.2.1 ?_
      refine lv_topi (fun v_5 aJD => ?_)
      have hp := hp v_5 aJD
      refine lv_iload_n hx hb aQo.2.2.2.2.2.2.2.2.2.2.2.1 rfl (lv_at hl 2 rfl) ?_
      refine lv_iadd hx hb aQo.2.2.2.2.2.2.2.2.2.2.2.2.1 ?_
      refine lv_topi (fun v_6 ev_6 => ?_)
      have hp := hp v_6 ev_6
      refine lv_aload_n hx hb aQo.2.2.2.2.2.2.2.2.2.2.2.2.2.1 rfl (lv_at hl 0 rfl) ?_
      refine va_get (D := (dC, dI)) (ci := 5) (v := .ref xB) (C := RX5) (T := TX5) (N := 11) hx hb hts i_X5 hown hK hP 0 rfl rfl 0 (lbz rfl) (hts _ q_423) (fun _ h9 => h9) rfl aQo.2.2.2.2.2.2.2.2.2.2.2.2.2.2.1 ?_
      refine lv_iload_n hx hb aQo.2.2.2.2.2.2.2.2.2.2.2.2.2.2.2 rfl (lv_at hl 1 rfl) ?_
      refine lv_iload_n hx hb eX5_timeAll_53.1 rfl (lv_at hl 2 rfl) ?_
      refine lv_iconst (v := 0) hx hb eX5_timeAll_53.2.1 aCi ?_
      refine lv_iconst (v := 0) hx hb eX5_timeAll_53.2.2.1 aCi ?_
      have hm := mgk (wc := (aDu cI cC cZ cB cJ xB vI wY xO tJ jJ mY pG pD pE eO uS tX uR rY tY dN bD bJ aI uU gF pL mX oE jE eW eY dU fY gJ jG nU pQ qI sY uG pY nJ qY qU pN)) hP mk_136 15 rfl rfl rfl
      refine yW hP hD hS hA (yS mk_136) (aAi mk_136) hm.1 hm.2 (aAk _) (zW _) (zF (As := [.int x1, .int x2, .int 0, .int 0]) (rest := [.int v_6, .ref rW]) C0 hP hD hS (yS mk_136) hm.1 (aAl _) 3 0 rfl rfl (c_X0_pickSeconds l dC dI cI cC cZ cB cJ xB vI wY xO tJ jJ mY pG pD pE eO uS tX uR rY tY H.size x1 x2 0 0 dN bD bJ aI uU gF pL mX oE jE eW eY dU fY gJ jG nU pQ qI sY uG pY nJ qY qU pN _ hp) q_325 q_507 q_326 q_327 q_187 h_X0_pickSeconds rfl rfl ⟨lbz rfl, lbz rfl⟩ rfl rfl hl.1 rfl (lv_room (lbz rfl)) eX5_timeAll_53.2.2.2.1 ⟨Nat.zero_le _, Nat.zero_le _⟩) (fun r_7 u H locs hp hP hD hS => ?_)
      obtain ⟨ru_given_8, ru_stack_9⟩ := u
      have hPD := PDm (ws' := (aF4 cI cC cZ cB cJ xH xB vI uJ rW uQ uP uO wY xO tJ jJ mY pG pD pE eO uS tX uR rY tY oY rJ pX rO rD sG dN bD bJ aI uU gF pL mX oE jE eW eY dU fY gJ jG nU pQ qI sY uG pY nJ ru_given_8 ru_stack_9 pN)) hP hD 15 rfl rfl rfl
      have hP := hPD.1
      have hD := hPD.2
      have hin := hp.1
      have hp := hp.2
      refine va_iast hx hb hK hP hD hS 2 0 rfl rfl hin eX5_timeAll_53.2.2.2.2.1 (fun H locs hP hD hS => ?_)
      have hPD := PDw (ws' := (aF4 cI cC cZ cB cJ xH xB vI uJ rW uQ uP uO wY xO tJ jJ mY pG pD pE eO uS tX uR rY tY oY rJ pX rO rD (upd sG v_6.toNatClampNeg r_7) dN bD bJ aI uU gF pL mX oE jE eW eY dU fY gJ jG nU pQ qI sY uG pY nJ ru_given_8 ru_stack_9 pN)) hP hD rfl
      have hP := hPD.1
      have hD := hPD.2
      exact ks_X5_timeAll_60 C0 hK2 hKn x1 x2 (upd sG v_6.toNatClampNeg r_7) ru_given_8 ru_stack_9 H locs ls hp hP hD hS (lv_sub hl [0, 1, 2] rfl)
set_option maxHeartbeats 4000000 in
set_option maxRecDepth 100000 in
theorem kb_X5_timeAll_15 (C0 : gc aEv none 3 RX5 (dC, dI) (tyl cI cC cZ cB cJ) A p s m args meth c) {K2 : Int32 -> (Nat -> Int32) -> (Nat -> Int32) -> (Nat -> Int32) -> Prop} (hK2 : ∀ (x1 : Int32) (sG : Nat -> Int32) (qY : Nat -> Int32) (qU : Nat -> Int32) (H : Heap) (locs : List Loc) (ls : Array Slot), K2 x1 sG qY qU -> va_P (dC, dI) classes (aF4 cI cC cZ cB cJ xH xB vI uJ rW uQ uP uO wY xO tJ jJ mY pG pD pE eO uS tX uR rY tY oY rJ pX rO rD sG dN bD bJ aI uU gF pL mX oE jE eW eY dU fY gJ jG nU pQ qI sY uG pY nJ qY qU pN) H -> va_D A (aF4 cI cC cZ cB cJ xH xB vI uJ rW uQ uP uO wY xO tJ jJ mY pG pD pE eO uS tX uR rY tY oY rJ pX rO rD sG dN bD bJ aI uU gF pL mX oE jE eW eY dU fY gJ jG nU pQ qI sY uG pY nJ qY qU pN) -> va_S A s.heap H locs -> lv_has ls 3 [(0, .ref xH), (1, .int x1)] -> W p l e bCE s m args below meth c H locs 0 0 (MQ below (q_X5_timeAll dC dI cI cC cZ cB cJ A xH xB vI uJ rW uQ uP uO wY xO tJ jJ mY pG pD pE eO uS tX uR rY tY oY rJ pX rO rD dN bD bJ aI uU gF pL mX oE jE eW eY dU fY gJ jG nU pQ qI sY uG pY nJ pN post) args s 0 0 A) (F0 m 2 ls [])) : ∀ (n : Nat), ∀ (x1 x2 : Int32) (sG qY qU : Nat -> Int32) (H : Heap) (locs : List Loc) (ls : Array Slot), (wb_X5_timeAll_15 post K2 oY rD dN bD uU gF pL mX oE dU pQ pN n) x1 x2 sG qY qU -> va_P (dC, dI) classes (aF4 cI cC cZ cB cJ xH xB vI uJ rW uQ uP uO wY xO tJ jJ mY pG pD pE eO uS tX uR rY tY oY rJ pX rO rD sG dN bD bJ aI uU gF pL mX oE jE eW eY dU fY gJ jG nU pQ qI sY uG pY nJ qY qU pN) H -> va_D A (aF4 cI cC cZ cB cJ xH xB vI uJ rW uQ uP uO wY xO tJ jJ mY pG pD pE eO uS tX uR rY tY oY rJ pX rO rD sG dN bD bJ aI uU gF pL mX oE jE eW eY dU fY gJ jG nU pQ qI sY uG pY nJ qY qU pN) -> va_S A s.heap H locs -> lv_has ls 3 [(0, .ref xH), (1, .int x1), (2, .int x2)] -> W p l e bCE s m args below meth c H locs 0 0 (MQ below (q_X5_timeAll dC dI cI cC cZ cB cJ A xH xB vI uJ rW uQ uP uO wY xO tJ jJ mY pG pD pE eO uS tX uR rY tY oY rJ pX rO rD dN bD bJ aI uU gF pL mX oE jE eW eY dU fY gJ jG nU pQ qI sY uG pY nJ pN post) args s 0 0 A) (F0 m 15 ls []) := by
  intro n
  induction n with
  | zero =>
    intro x1 x2 sG qY qU H locs ls hp
    exact False.elim hp
  | succ n ih =>
    intro x1 x2 sG qY qU H locs ls hp
    exact ks_X5_timeAll_15 C0 hK2 ih x1 x2 sG qY qU H locs ls hp
def ws_X5_timeAll_2 (post : (Nat -> Int32) -> (Nat -> Int32) -> (Nat -> Int32) -> Prop) (next : Int32 -> (Nat -> Int32) -> (Nat -> Int32) -> (Nat -> Int32) -> Prop) (oY : Int32) (rD : Nat -> Int32) (dN bD : Int32) (uU gF pL mX oE : Nat -> Int32) (dU pQ : Int32) (pN : Nat -> Int32) (x1 : Int32) (sG qY qU : Nat -> Int32) : Prop := (dN <= x1 -> post sG qY qU) /\ (¬ dN <= x1 -> ∃ n : Nat, wb_X5_timeAll_15 post next oY rD dN bD uU gF pL mX oE dU pQ pN n x1 0 sG qY qU)
noncomputable def wb_X5_timeAll_2 (post : (Nat -> Int32) -> (Nat -> Int32) -> (Nat -> Int32) -> Prop) (oY : Int32) (rD : Nat -> Int32) (dN bD : Int32) (uU gF pL mX oE : Nat -> Int32) (dU pQ : Int32) (pN : Nat -> Int32) : Nat -> Int32 -> (Nat -> Int32) -> (Nat -> Int32) -> (Nat -> Int32) -> Prop := fun n => Nat.rec (motive := fun _ => Int32 -> (Nat -> Int32) -> (Nat -> Int32) -> (Nat -> Int32) -> Prop) (fun _ _ _ _ => False) (fun _ ih => ws_X5_timeAll_2 post ih oY rD dN bD uU gF pL mX oE dU pQ pN) n
set_option maxHeartbeats 4000000 in
set_option maxRecDepth 100000 in
theorem ks_X5_timeAll_2 (C0 : gc aEv none 3 RX5 (dC, dI) (tyl cI cC cZ cB cJ) A p s m args meth c) {next : Int32 -> (Nat -> Int32) -> (Nat -> Int32) -> (Nat -> Int32) -> Prop} (hKn : ∀ (x1 : Int32) (sG : Nat -> Int32) (qY : Nat -> Int32) (qU : Nat -> Int32) (H : Heap) (locs : List Loc) (ls : Array Slot), next x1 sG qY qU -> va_P (dC, dI) classes (aF4 cI cC cZ cB cJ xH xB vI uJ rW uQ uP uO wY xO tJ jJ mY pG pD pE eO uS tX uR rY tY oY rJ pX rO rD sG dN bD bJ aI uU gF pL mX oE jE eW eY dU fY gJ jG nU pQ qI sY uG pY nJ qY qU pN) H -> va_D A (aF4 cI cC cZ cB cJ xH xB vI uJ rW uQ uP uO wY xO tJ jJ mY pG pD pE eO uS tX uR rY tY oY rJ pX rO rD sG dN bD bJ aI uU gF pL mX oE jE eW eY dU fY gJ jG nU pQ qI sY uG pY nJ qY qU pN) -> va_S A s.heap H locs -> lv_has ls 3 [(0, .ref xH), (1, .int x1)] -> W p l e bCE s m args below meth c H locs 0 0 (MQ below (q_X5_timeAll dC dI cI cC cZ cB cJ A xH xB vI uJ rW uQ uP uO wY xO tJ jJ mY pG pD pE eO uS tX uR rY tY oY rJ pX rO rD dN bD bJ aI uU gF pL mX oE jE eW eY dU fY gJ jG nU pQ qI sY uG pY nJ pN post) args s 0 0 A) (F0 m 2 ls [])) : ∀ (x1 : Int32) (sG qY qU : Nat -> Int32) (H : Heap) (locs : List Loc) (ls : Array Slot), (ws_X5_timeAll_2 post next oY rD dN bD uU gF pL mX oE dU pQ pN) x1 sG qY qU -> va_P (dC, dI) classes (aF4 cI cC cZ cB cJ xH xB vI uJ rW uQ uP uO wY xO tJ jJ mY pG pD pE eO uS tX uR rY tY oY rJ pX rO rD sG dN bD bJ aI uU gF pL mX oE jE eW eY dU fY gJ jG nU pQ qI sY uG pY nJ qY qU pN) H -> va_D A (aF4 cI cC cZ cB cJ xH xB vI uJ rW uQ uP uO wY xO tJ jJ mY pG pD pE eO uS tX uR rY tY oY rJ pX rO rD sG dN bD bJ aI uU gF pL mX oE jE eW eY dU fY gJ jG nU pQ qI sY uG pY nJ qY qU pN) -> va_S A s.heap H locs -> lv_has ls 3 [(0, .ref xH), (1, .int x1)] -> W p l e bCE s m args below meth c H locs 0 0 (MQ below (q_X5_timeAll dC dI cI cC cZ cB cJ A xH xB vI uJ rW uQ uP uO wY xO tJ jJ mY pG pD pE eO uS tX uR rY tY oY rJ pX rO rD dN bD bJ aI uU gF pL mX oE jE eW eY dU fY gJ jG nU pQ qI sY uG pY nJ pN post) args s 0 0 A) (F0 m 2 ls []) := by
  obtain ⟨hx, hb, hr, hml, hown, hts, hlocks, hA, hK, hN, tL, tM, hZL, hTL, hZM, hTM, hZX⟩ := id C0
  intro x1 sG qY qU H locs ls hp hP hD hS hl
  unfold ws_X5_timeAll_2 at hp
  refine lv_iload_n hx hb aTc.2.2.1 rfl (lv_at hl 1 rfl) ?_
  refine lv_aload_n hx hb aTc.2.2.2.1 rfl (lv_at hl 0 rfl) ?_
  refine va_get (D := (dC, dI)) (ci := 5) (v := .ref vI) (C := RX5) (T := TX5) (N := 11) hx hb hts i_X5 hown hK hP 0 rfl rfl 1 (lbz rfl) (hts _ q_419) (fun _ h9 => h9) rfl aTc.2.2.2.2.1 ?_
  refine va_get (D := (dC, dI)) (ci := 3) (v := .int dN) (C := RX3) (T := TX3) (N := 11) hx hb hts i_X3 hown hK hP 4 rfl rfl 7 (lbz rfl) (hts _ q_504) (fun _ h9 => h9) rfl aTc.2.2.2.2.2.1 ?_
  refine lv_icmp_ge (tgt := 72) hx hb aTc.2.2.2.2.2.2.1 (by decide) (fun hc => ?_) (fun hc => ?_)
  · have hp := hp.1 hc
    exact W.vret hx hb hr (fun t ht hW => ⟨⟨(sG, qY, qU), rfl, hp, by rw [ht]; exact hP, va_K.moved hW.alike hK, hD⟩, hS.F ht⟩) hS.2.2 eX5_timeAll_53.2.2.2.2.2.2.2.2.2
  · have hp := hp.2 hc
    refine lv_iconst (v := 0) hx hb aTc.2.2.2.2.2.2.2.1 aCi ?_
    refine lv_istore_n (lv' := [(2, .int 0), (0, .ref xH), (1, .int x1)]) hx hb aTc.2.2.2.2.2.2.2.2.1 rfl hl (by decide) rfl (fun ls hl => ?_)
    obtain ⟨n9, hp⟩ := hp
    exact kb_X5_timeAll_15 C0 hKn n9 x1 0 sG qY qU H locs ls hp hP hD hS (lv_sub hl [1, 2, 0] rfl)
set_option maxHeartbeats 4000000 in
set_option maxRecDepth 100000 in
theorem kb_X5_timeAll_2 (C0 : gc aEv none 3 RX5 (dC, dI) (tyl cI cC cZ cB cJ) A p s m args meth c) : ∀ (n : Nat), ∀ (x1 : Int32) (sG qY qU : Nat -> Int32) (H : Heap) (locs : List Loc) (ls : Array Slot), (wb_X5_timeAll_2 post oY rD dN bD uU gF pL mX oE dU pQ pN n) x1 sG qY qU -> va_P (dC, dI) classes (aF4 cI cC cZ cB cJ xH xB vI uJ rW uQ uP uO wY xO tJ jJ mY pG pD pE eO uS tX uR rY tY oY rJ pX rO rD sG dN bD bJ aI uU gF pL mX oE jE eW eY dU fY gJ jG nU pQ qI sY uG pY nJ qY qU pN) H -> va_D A (aF4 cI cC cZ cB cJ xH xB vI uJ rW uQ uP uO wY xO tJ jJ mY pG pD pE eO uS tX uR rY tY oY rJ pX rO rD sG dN bD bJ aI uU gF pL mX oE jE eW eY dU fY gJ jG nU pQ qI sY uG pY nJ qY qU pN) -> va_S A s.heap H locs -> lv_has ls 3 [(0, .ref xH), (1, .int x1)] -> W p l e bCE s m args below meth c H locs 0 0 (MQ below (q_X5_timeAll dC dI cI cC cZ cB cJ A xH xB vI uJ rW uQ uP uO wY xO tJ jJ mY pG pD pE eO uS tX uR rY tY oY rJ pX rO rD dN bD bJ aI uU gF pL mX oE jE eW eY dU fY gJ jG nU pQ qI sY uG pY nJ pN post) args s 0 0 A) (F0 m 2 ls []) := by
  intro n
  induction n with
  | zero =>
    intro x1 sG qY qU H locs ls hp
    exact False.elim hp
  | succ n ih =>
    intro x1 sG qY qU H locs ls hp
    exact ks_X5_timeAll_2 C0 ih x1 sG qY qU H locs ls hp
end S_X5_timeAll
def wp_X5_timeAll (post : (Nat -> Int32) -> (Nat -> Int32) -> (Nat -> Int32) -> Prop) (oY : Int32) (rD sG : Nat -> Int32) (dN bD : Int32) (uU gF pL mX oE : Nat -> Int32) (dU pQ : Int32) (qY qU pN : Nat -> Int32) : Prop := ∃ n : Nat, wb_X5_timeAll_2 post oY rD dN bD uU gF pL mX oE dU pQ pN n 0 sG qY qU
set_option maxHeartbeats 4000000 in
set_option maxRecDepth 100000 in
theorem c_X5_timeAll (l : Launch) (dC : Nat -> ClassId) (dI : Nat -> Nat -> Nat) (cI cC cZ cB cJ : ClassId) (xH xB vI uJ rW uQ uP uO wY xO tJ jJ mY pG pD pE eO uS tX uR rY tY sz : Nat) (oY rJ pX rO : Int32) (rD sG : Nat -> Int32) (dN bD bJ aI : Int32) (uU gF pL mX oE : Nat -> Int32) (jE eW eY dU fY gJ jG nU pQ qI sY uG pY nJ : Int32) (qY qU pN : Nat -> Int32) (post : (Nat -> Int32) -> (Nat -> Int32) -> (Nat -> Int32) -> Prop) (hw : wp_X5_timeAll post oY rD sG dN bD uU gF pL mX oE dU pQ qY qU pN) : Met l yX5_timeAll (gw yX5_timeAll aEv 3 none) bCE (va_Pc [.ref xH] (gPre (dC, dI) (tyl cI cC cZ cB cJ) (aF4 cI cC cZ cB cJ xH xB vI uJ rW uQ uP uO wY xO tJ jJ mY pG pD pE eO uS tX uR rY tY oY rJ pX rO rD sG dN bD bJ aI uU gF pL mX oE jE eW eY dU fY gJ jG nU pQ qI sY uG pY nJ qY qU pN) sz)) (q_X5_timeAll dC dI cI cC cZ cB cJ (va_A (aF4 cI cC cZ cB cJ xH xB vI uJ rW uQ uP uO wY xO tJ jJ mY pG pD pE eO uS tX uR rY tY oY rJ pX rO rD sG dN bD bJ aI uU gF pL mX oE jE eW eY dU fY gJ jG nU pQ qI sY uG pY nJ qY qU pN) sz) xH xB vI uJ rW uQ uP uO wY xO tJ jJ mY pG pD pE eO uS tX uR rY tY oY rJ pX rO rD dN bD bJ aI uU gF pL mX oE jE eW eY dU fY gJ jG nU pQ qI sY uG pY nJ pN post) 0 0 (va_A (aF4 cI cC cZ cB cJ xH xB vI uJ rW uQ uP uO wY xO tJ jJ mY pG pD pE eO uS tX uR rY tY oY rJ pX rO rD sG dN bD bJ aI uU gF pL mX oE jE eW eY dU fY gJ jG nU pQ qI sY uG pY nJ qY qU pN) sz) := by
  refine aBJ (own := RX5) (dC, dI) (tyl cI cC cZ cB cJ) (aF4 cI cC cZ cB cJ xH xB vI uJ rW uQ uP uO wY xO tJ jJ mY pG pD pE eO uS tX uR rY tY oY rJ pX rO rD sG dN bD bJ aI uU gF pL mX oE jE eW eY dU fY gJ jG nU pQ qI sY uG pY nJ qY qU pN) sz [.ref xH] (fun A => q_X5_timeAll dC dI cI cC cZ cB cJ A xH xB vI uJ rW uQ uP uO wY xO tJ jJ mY pG pD pE eO uS tX uR rY tY oY rJ pX rO rD dN bD bJ aI uU gF pL mX oE jE eW eY dU fY gJ jG nU pQ qI sY uG pY nJ pN post) pn_RX5 rfl (lbz rfl) ?_
  intro p e s m args below meth c A H locs ls C0 hP hD hS hl
  have hl : lv_has ls 3 [(0, .ref xH)] := hl
  obtain ⟨hx, hb, hr, hml, hown, hts, hlocks, hA, hK, hN, tL, tM, hZL, hTL, hZM, hTM, hZX⟩ := id C0
  have hp := hw
  unfold wp_X5_timeAll at hp
  refine lv_iconst (v := 0) hx hb aTc.1 aCi ?_
  refine lv_istore_n (lv' := [(1, .int 0), (0, .ref xH)]) hx hb aTc.2.1 rfl hl (by decide) rfl (fun ls hl => ?_)
  obtain ⟨n9, hp⟩ := hp
  exact kb_X5_timeAll_2 C0 n9 0 sG qY qU H locs ls hp hP hD hS (lv_sub hl [1, 0] rfl)
abbrev aLJ (cI cC cZ cB cJ : ClassId) (xH xB vI uJ rW uQ uP uO tJ jJ mY pG pD pE eO : Nat) (oY rJ pX rO : Int32) (rD sG : Nat -> Int32) (dN bD bJ aI : Int32) : va_W := [(xH, .inr (5, [.ref xB, .ref vI, .ref uJ, .ref rW, .ref uQ, .ref uP, .ref uO, .int oY, .int rJ, .int pX, .int rO])), (uJ, .inl (cI, 8, .inl rD)), (rW, .inl (cI, 128, .inl sG)), (vI, .inr (3, [.ref tJ, .ref jJ, .ref mY, .ref pG, .ref pD, .ref pE, .ref eO, .int dN, .int bD, .int bJ, .int aI]))]
abbrev q_X5_quickest (dC : Nat -> ClassId) (dI : Nat -> Nat -> Nat) (cI cC cZ cB cJ : ClassId) (A : Nat -> Prop) (xH xB vI uJ rW uQ uP uO tJ jJ mY pG pD pE eO : Nat) (oY rJ pX rO : Int32) (rD sG : Nat -> Int32) (dN bD bJ aI : Int32) (post : Int32 -> Prop) : Array Value -> State -> Outcome -> State -> Prop := va_Qi (fun (r : Int32) (u : Unit) => post r) (fun u t => gB (dC, dI) (tyl cI cC cZ cB cJ) A (aLJ cI cC cZ cB cJ xH xB vI uJ rW uQ uP uO tJ jJ mY pG pD pE eO oY rJ pX rO rD sG dN bD bJ aI) t) A
abbrev rm_X5_quickest : Room := { frames := 0, cells := 0, slots := 0, locals := 0 }
section S_X5_quickest
variable {p : Program} {l : Launch} {e : Env} {s : State} {m : MethodId} {args : Array Value} {below : List Frame} {meth : Method} {c : Code} {dC : Nat -> ClassId} {dI : Nat -> Nat -> Nat} {cI cC cZ cB cJ : ClassId} {A : Nat -> Prop} {xH xB vI uJ rW uQ uP uO tJ jJ mY pG pD pE eO : Nat} {oY rJ pX rO : Int32} {rD sG : Nat -> Int32} {dN bD bJ aI : Int32} {post : Int32 -> Prop}
def ws_X5_quickest_76 (post : Int32 -> Prop) (K8 : Int32 -> Int32 -> Int32 -> Int32 -> Int32 -> Prop) (rD sG : Nat -> Int32) (bD x1 x2 x3 x4 x5 : Int32) : Prop := ∀ v_2 : Int32, v_2 = x5 + 1 -> K8 x1 x2 x3 x4 v_2
set_option maxHeartbeats 4000000 in
set_option maxRecDepth 100000 in
theorem ks_X5_quickest_76 (C0 : gc aDW (some .int) 7 RX5 (dC, dI) (tyl cI cC cZ cB cJ) A p s m args meth c) {K8 : Int32 -> Int32 -> Int32 -> Int32 -> Int32 -> Prop} (hK8 : ∀ (x1 : Int32) (x2 : Int32) (x3 : Int32) (x4 : Int32) (x5 : Int32) (H : Heap) (locs : List Loc) (ls : Array Slot), K8 x1 x2 x3 x4 x5 -> va_P (dC, dI) classes (aLJ cI cC cZ cB cJ xH xB vI uJ rW uQ uP uO tJ jJ mY pG pD pE eO oY rJ pX rO rD sG dN bD bJ aI) H -> va_D A (aLJ cI cC cZ cB cJ xH xB vI uJ rW uQ uP uO tJ jJ mY pG pD pE eO oY rJ pX rO rD sG dN bD bJ aI) -> va_S A s.heap H locs -> lv_has ls 7 [(0, .ref xH), (1, .int x1), (2, .int x2), (3, .int x3), (4, .int x4), (5, .int x5)] -> W p l e rm_X5_quickest s m args below meth c H locs 0 0 (MQ below (q_X5_quickest dC dI cI cC cZ cB cJ A xH xB vI uJ rW uQ uP uO tJ jJ mY pG pD pE eO oY rJ pX rO rD sG dN bD bJ aI post) args s 0 0 A) (F0 m 8 ls [])) : ∀ (x1 x2 x3 x4 x5 : Int32) (H : Heap) (locs : List Loc) (ls : Array Slot), (ws_X5_quickest_76 post K8 rD sG bD) x1 x2 x3 x4 x5 -> va_P (dC, dI) classes (aLJ cI cC cZ cB cJ xH xB vI uJ rW uQ uP uO tJ jJ mY pG pD pE eO oY rJ pX rO rD sG dN bD bJ aI) H -> va_D A (aLJ cI cC cZ cB cJ xH xB vI uJ rW uQ uP uO tJ jJ mY pG pD pE eO oY rJ pX rO rD sG dN bD bJ aI) -> va_S A s.heap H locs -> lv_has ls 7 [(0, .ref xH), (1, .int x1), (2, .int x2), (3, .int x3), (4, .int x4), (5, .int x5)] -> W p l e rm_X5_quickest s m args below meth c H locs 0 0 (MQ below (q_X5_quickest dC dI cI cC cZ cB cJ A xH xB vI uJ rW uQ uP uO tJ jJ mY pG pD pE eO oY rJ pX rO rD sG dN bD bJ aI post) args s 0 0 A) (F0 m 76 ls []) := by
  obtain ⟨hx, hb, hr, hml, hown, hts, hlocks, hA, hK, hN, tL, tM, hZL, hTL, hZM, hTM, hZX⟩ := id C0
  intro x1 x2 x3 x4 x5 H locs ls hp hP hD hS hl
  unfold ws_X5_quickest_76 at hp
  obtain ⟨v_2, aGO⟩ : ∃ y : Int32, y = x5 + 1 := ⟨_, rfl⟩
  refine lv_iinc (v := v_2) (lv' := [(5, .int v_2), (0, .ref xH), (1, .int x1), (2, .int x2), (3, .int x3), (4, .int x4)]) hx hb aOR.2.2.2.2.2.2.2.2.2.2.2.2.2.1 hl (k := 5) rfl (by rw [aGO]; rfl) (by decide) rfl (fun ls hl => ?_)
  have hp := hp v_2 aGO
  refine lv_goto (tgt := 8) hx hb aOR.2.2.2.2.2.2.2.2.2.2.2.2.2.2.1 (by decide) ?_
  exact hK8 x1 x2 x3 x4 v_2 H locs ls hp hP hD hS (lv_sub hl [1, 2, 3, 4, 5, 0] rfl)
def ws_X5_quickest_69 (post : Int32 -> Prop) (K8 : Int32 -> Int32 -> Int32 -> Int32 -> Int32 -> Prop) (rD sG : Nat -> Int32) (bD x1 x2 x5 x6 : Int32) : Prop := ws_X5_quickest_76 post K8 rD sG bD x1 x2 x5 x6 x5
set_option maxHeartbeats 4000000 in
set_option maxRecDepth 100000 in
theorem ks_X5_quickest_69 (C0 : gc aDW (some .int) 7 RX5 (dC, dI) (tyl cI cC cZ cB cJ) A p s m args meth c) {K8 : Int32 -> Int32 -> Int32 -> Int32 -> Int32 -> Prop} (hK8 : ∀ (x1 : Int32) (x2 : Int32) (x3 : Int32) (x4 : Int32) (x5 : Int32) (H : Heap) (locs : List Loc) (ls : Array Slot), K8 x1 x2 x3 x4 x5 -> va_P (dC, dI) classes (aLJ cI cC cZ cB cJ xH xB vI uJ rW uQ uP uO tJ jJ mY pG pD pE eO oY rJ pX rO rD sG dN bD bJ aI) H -> va_D A (aLJ cI cC cZ cB cJ xH xB vI uJ rW uQ uP uO tJ jJ mY pG pD pE eO oY rJ pX rO rD sG dN bD bJ aI) -> va_S A s.heap H locs -> lv_has ls 7 [(0, .ref xH), (1, .int x1), (2, .int x2), (3, .int x3), (4, .int x4), (5, .int x5)] -> W p l e rm_X5_quickest s m args below meth c H locs 0 0 (MQ below (q_X5_quickest dC dI cI cC cZ cB cJ A xH xB vI uJ rW uQ uP uO tJ jJ mY pG pD pE eO oY rJ pX rO rD sG dN bD bJ aI post) args s 0 0 A) (F0 m 8 ls [])) : ∀ (x1 x2 x5 x6 : Int32) (H : Heap) (locs : List Loc) (ls : Array Slot), (ws_X5_quickest_69 post K8 rD sG bD) x1 x2 x5 x6 -> va_P (dC, dI) classes (aLJ cI cC cZ cB cJ xH xB vI uJ rW uQ uP uO tJ jJ mY pG pD pE eO oY rJ pX rO rD sG dN bD bJ aI) H -> va_D A (aLJ cI cC cZ cB cJ xH xB vI uJ rW uQ uP uO tJ jJ mY pG pD pE eO oY rJ pX rO rD sG dN bD bJ aI) -> va_S A s.heap H locs -> lv_has ls 7 [(0, .ref xH), (1, .int x1), (2, .int x2), (5, .int x5), (6, .int x6)] -> W p l e rm_X5_quickest s m args below meth c H locs 0 0 (MQ below (q_X5_quickest dC dI cI cC cZ cB cJ A xH xB vI uJ rW uQ uP uO tJ jJ mY pG pD pE eO oY rJ pX rO rD sG dN bD bJ aI post) args s 0 0 A) (F0 m 69 ls []) := by
  obtain ⟨hx, hb, hr, hml, hown, hts, hlocks, hA, hK, hN, tL, tM, hZL, hTL, hZM, hTM, hZX⟩ := id C0
  intro x1 x2 x5 x6 H locs ls hp hP hD hS hl
  unfold ws_X5_quickest_69 at hp
  refine lv_iload hx hb aOR.2.2.2.2.2.2.2.2.2.1 (lv_at hl 3 rfl) ?_
  refine lv_istore_n (lv' := [(3, .int x5), (0, .ref xH), (1, .int x1), (2, .int x2), (5, .int x5), (6, .int x6)]) hx hb aOR.2.2.2.2.2.2.2.2.2.2.1 rfl hl (by decide) rfl (fun ls hl => ?_)
  refine lv_iload hx hb aOR.2.2.2.2.2.2.2.2.2.2.2.1 (lv_at hl 5 rfl) ?_
  refine lv_istore (lv' := [(4, .int x6), (3, .int x5), (0, .ref xH), (1, .int x1), (2, .int x2), (5, .int x5), (6, .int x6)]) hx hb aOR.2.2.2.2.2.2.2.2.2.2.2.2.1 hl (by decide) rfl (fun ls hl => ?_)
  exact ks_X5_quickest_76 C0 hK8 x1 x2 x5 x6 x5 H locs ls hp hP hD hS (lv_sub hl [2, 3, 4, 1, 0, 5] rfl)
def ws_X5_quickest_8 (post : Int32 -> Prop) (next : Int32 -> Int32 -> Int32 -> Int32 -> Int32 -> Prop) (rD sG : Nat -> Int32) (bD x1 x2 x3 x4 x5 : Int32) : Prop := (bD <= x5 -> post x3) /\ (¬ bD <= x5 -> ∀ v_1 : Int32, v_1 = x2 >>> (x5 &&& 31) -> ((v_1 &&& 1) = 0 -> ws_X5_quickest_76 post next rD sG bD x1 x2 x3 x4 x5) /\ (¬ (v_1 &&& 1) = 0 -> vp_in x5 8 /\ (∀ v_3 : Int32, v_3 = rD x5.toNatClampNeg -> ∀ v_4 : Int32, v_4 = v_3 >>> (x1 &&& 31) -> ((v_4 &&& 1) = 0 -> ws_X5_quickest_76 post next rD sG bD x1 x2 x3 x4 x5) /\ (¬ (v_4 &&& 1) = 0 -> ∀ v_5 : Int32, v_5 = x1 * 8 -> ∀ v_6 : Int32, v_6 = v_5 + x5 -> vp_in v_6 128 /\ (∀ v_7 : Int32, v_7 = sG v_6.toNatClampNeg -> (x3 = (-1) -> ws_X5_quickest_69 post next rD sG bD x1 x2 x5 v_7) /\ (¬ x3 = (-1) -> (x4 <= v_7 -> ws_X5_quickest_76 post next rD sG bD x1 x2 x3 x4 x5) /\ (¬ x4 <= v_7 -> ws_X5_quickest_69 post next rD sG bD x1 x2 x5 v_7)))))))
noncomputable def wb_X5_quickest_8 (post : Int32 -> Prop) (rD sG : Nat -> Int32) (bD : Int32) : Nat -> Int32 -> Int32 -> Int32 -> Int32 -> Int32 -> Prop := fun n => Nat.rec (motive := fun _ => Int32 -> Int32 -> Int32 -> Int32 -> Int32 -> Prop) (fun _ _ _ _ _ => False) (fun _ ih => ws_X5_quickest_8 post ih rD sG bD) n
set_option maxHeartbeats 4000000 in
set_option maxRecDepth 100000 in
theorem ks_X5_quickest_8 (C0 : gc aDW (some .int) 7 RX5 (dC, dI) (tyl cI cC cZ cB cJ) A p s m args meth c) {next : Int32 -> Int32 -> Int32 -> Int32 -> Int32 -> Prop} (hKn : ∀ (x1 : Int32) (x2 : Int32) (x3 : Int32) (x4 : Int32) (x5 : Int32) (H : Heap) (locs : List Loc) (ls : Array Slot), next x1 x2 x3 x4 x5 -> va_P (dC, dI) classes (aLJ cI cC cZ cB cJ xH xB vI uJ rW uQ uP uO tJ jJ mY pG pD pE eO oY rJ pX rO rD sG dN bD bJ aI) H -> va_D A (aLJ cI cC cZ cB cJ xH xB vI uJ rW uQ uP uO tJ jJ mY pG pD pE eO oY rJ pX rO rD sG dN bD bJ aI) -> va_S A s.heap H locs -> lv_has ls 7 [(0, .ref xH), (1, .int x1), (2, .int x2), (3, .int x3), (4, .int x4), (5, .int x5)] -> W p l e rm_X5_quickest s m args below meth c H locs 0 0 (MQ below (q_X5_quickest dC dI cI cC cZ cB cJ A xH xB vI uJ rW uQ uP uO tJ jJ mY pG pD pE eO oY rJ pX rO rD sG dN bD bJ aI post) args s 0 0 A) (F0 m 8 ls [])) : ∀ (x1 x2 x3 x4 x5 : Int32) (H : Heap) (locs : List Loc) (ls : Array Slot), (ws_X5_quickest_8 post next rD sG bD) x1 x2 x3 x4 x5 -> va_P (dC, dI) classes (aLJ cI cC cZ cB cJ xH xB vI uJ rW uQ uP uO tJ jJ mY pG pD pE eO oY rJ pX rO rD sG dN bD bJ aI) H -> va_D A (aLJ cI cC cZ cB cJ xH xB vI uJ rW uQ uP uO tJ jJ mY pG pD pE eO oY rJ pX rO rD sG dN bD bJ aI) -> va_S A s.heap H locs -> lv_has ls 7 [(0, .ref xH), (1, .int x1), (2, .int x2), (3, .int x3), (4, .int x4), (5, .int x5)] -> W p l e rm_X5_quickest s m args below meth c H locs 0 0 (MQ below (q_X5_quickest dC dI cI cC cZ cB cJ A xH xB vI uJ rW uQ uP uO tJ jJ mY pG pD pE eO oY rJ pX rO rD sG dN bD bJ aI post) args s 0 0 A) (F0 m 8 ls []) := by
  obtain ⟨hx, hb, hr, hml, hown, hts, hlocks, hA, hK, hN, tL, tM, hZL, hTL, hZM, hTM, hZX⟩ := id C0
  intro x1 x2 x3 x4 x5 H locs ls hp hP hD hS hl
  unfold ws_X5_quickest_8 at hp
  refine lv_iload hx hb aQn.2.2.2.2.2.2.1 (lv_at hl 5 rfl) ?_
  refine lv_aload_n hx hb aQn.2.2.2.2.2.2.2.1 rfl (lv_at hl 0 rfl) ?_
  refine va_get (D := (dC, dI)) (ci := 5) (v := .ref vI) (C := RX5) (T := TX5) (N := 11) hx hb hts i_X5 hown hK hP 0 rfl rfl 1 (lbz rfl) (hts _ q_419) (fun _ h9 => h9) rfl aQn.2.2.2.2.2.2.2.2.1 ?_
  refine va_get (D := (dC, dI)) (ci := 3) (v := .int bD) (C := RX3) (T := TX3) (N := 11) hx hb hts i_X3 hown hK hP 3 rfl rfl 8 (lbz rfl) (hts _ q_420) (fun _ h9 => h9) rfl aQn.2.2.2.2.2.2.2.2.2.1 ?_
  refine lv_icmp_ge (tgt := 82) hx hb aQn.2.2.2.2.2.2.2.2.2.2.1 (by decide) (fun hc => ?_) (fun hc => ?_)
  · have hp := hp.1 hc
    refine lv_iload_n hx hb aOR.2.2.2.2.2.2.2.2.2.2.2.2.2.2.2 rfl (lv_at hl 3 rfl) ?_
    exact W.iret (v := x3) hx hb hr (fun t ht hW => ⟨⟨x3, (), rfl, hp, by rw [ht]; exact hP, va_K.moved hW.alike hK, hD⟩, hS.F ht⟩) hS.2.2 dX5_quickest_83
  · have hp := hp.2 hc
    refine lv_iload_n hx hb aQn.2.2.2.2.2.2.2.2.2.2.2.1 rfl (lv_at hl 2 rfl) ?_
    refine lv_iload hx hb aQn.2.2.2.2.2.2.2.2.2.2.2.2.1 (lv_at hl 5 rfl) ?_
    refine lv_ishr hx hb aQn.2.2.2.2.2.2.2.2.2.2.2.2.2.1 ?_
    refine lv_topi (fun v_1 aFJ => ?_)
    have hp := hp v_1 aFJ
    refine lv_iconst (v := 1) hx hb aQn.2.2.2.2.2.2.2.2.2.2.2.2.2.2.1 aDx ?_
    refine lv_iand hx hb aQn.2.2.2.2.2.2.2.2.2.2.2.2.2.2.2 ?_
    refine lv_if_eq (tgt := 76) hx hb aOQ.1 (by decide) (fun hc => ?_) (fun hc => ?_)
    · have hp := hp.1 hc
      exact ks_X5_quickest_76 C0 hKn x1 x2 x3 x4 x5 H locs ls hp hP hD hS (lv_sub hl [0, 1, 2, 3, 4, 5] rfl)
    · have hp := hp.2 hc
      refine lv_aload_n hx hb aOQ.2.1 rfl (lv_at hl 0 rfl) ?_
      refine va_get (D := (dC, dI)) (ci := 5) (v := .ref uJ) (C := RX5) (T := TX5) (N := 11) hx hb hts i_X5 hown hK hP 0 rfl rfl 2 (lbz rfl) (hts _ q_421) (fun _ h9 => h9) rfl aOQ.2.2.1 ?_
      refine lv_iload hx hb aOQ.2.2.2.1 (lv_at hl 5 rfl) ?_
      have hin := hp.1
      have hp := hp.2
      refine va_iald hx hb hK hP 1 0 rfl rfl hin aOQ.2.2.2.2.1 ?_
      refine lv_topi (fun v_3 aGW => ?_)
      have hp := hp v_3 aGW
      refine lv_iload_n hx hb aOQ.2.2.2.2.2.1 rfl (lv_at hl 1 rfl) ?_
      refine lv_ishr hx hb aOQ.2.2.2.2.2.2.1 ?_
      refine lv_topi (fun v_4 aHM => ?_)
      have hp := hp v_4 aHM
      refine lv_iconst (v := 1) hx hb aOQ.2.2.2.2.2.2.2.1 aDx ?_
      refine lv_iand hx hb aOQ.2.2.2.2.2.2.2.2.1 ?_
      refine lv_if_eq (tgt := 76) hx hb aOQ.2.2.2.2.2.2.2.2.2.1 (by decide) (fun hc => ?_) (fun hc => ?_)
      · have hp := hp.1 hc
        exact ks_X5_quickest_76 C0 hKn x1 x2 x3 x4 x5 H locs ls hp hP hD hS (lv_sub hl [0, 1, 2, 3, 4, 5] rfl)
      · have hp := hp.2 hc
        refine lv_aload_n hx hb aOQ.2.2.2.2.2.2.2.2.2.2.1 rfl (lv_at hl 0 rfl) ?_
        refine va_get (D := (dC, dI)) (ci := 5) (v := .ref rW) (C := RX5) (T := TX5) (N := 11) hx hb hts i_X5 hown hK hP 0 rfl rfl 3 (lbz rfl) (hts _ q_506) (fun _ h9 => h9) rfl aOQ.2.2.2.2.2.2.2.2.2.2.2.1 ?_
        refine lv_iload_n hx hb aOQ.2.2.2.2.2.2.2.2.2.2.2.2.1 rfl (lv_at hl 1 rfl) ?_
        refine lv_bipush (v := 8) hx hb aOQ.2.2.2.2.2.2.2.2.2.2.2.2.2.1 bp_8 ?_
        refine lv_imul hx hb aOQ.2.2.2.2.2.2.2.2.2.2.2.2.2.2.1 ?_
        refine lv_topi (fun v_5 aJD => ?_)
        have hp := hp v_5 aJD
        refine lv_iload hx hb aOQ.2.2.2.2.2.2.2.2.2.2.2.2.2.2.2 (lv_at hl 5 rfl) ?_
        refine lv_iadd hx hb aOR.1 ?_
        refine lv_topi (fun v_6 ev_6 => ?_)
        have hp := hp v_6 ev_6
        have hin := hp.1
        have hp := hp.2
        refine va_iald hx hb hK hP 2 0 rfl rfl hin aOR.2.1 ?_
        refine lv_topi (fun v_7 ev_7 => ?_)
        have hp := hp v_7 ev_7
        refine lv_istore (lv' := [(6, .int v_7), (0, .ref xH), (1, .int x1), (2, .int x2), (3, .int x3), (4, .int x4), (5, .int x5)]) hx hb aOR.2.2.1 hl (by decide) rfl (fun ls hl => ?_)
        refine lv_iload_n hx hb aOR.2.2.2.1 rfl (lv_at hl 4 rfl) ?_
        refine lv_iconst (v := (-1)) hx hb aOR.2.2.2.2.1 aEJ ?_
        refine lv_icmp_eq (tgt := 69) hx hb aOR.2.2.2.2.2.1 (by decide) (fun hc => ?_) (fun hc => ?_)
        · have hp := hp.1 hc
          exact ks_X5_quickest_69 C0 hKn x1 x2 x5 v_7 H locs ls hp hP hD hS (lv_sub hl [1, 2, 3, 6, 0] rfl)
        · have hp := hp.2 hc
          refine lv_iload hx hb aOR.2.2.2.2.2.2.1 (lv_at hl 0 rfl) ?_
          refine lv_iload hx hb aOR.2.2.2.2.2.2.2.1 (lv_at hl 5 rfl) ?_
          refine lv_icmp_ge (tgt := 76) hx hb aOR.2.2.2.2.2.2.2.2.1 (by decide) (fun hc => ?_) (fun hc => ?_)
          · have hp := hp.1 hc
            exact ks_X5_quickest_76 C0 hKn x1 x2 x3 x4 x5 H locs ls hp hP hD hS (lv_sub hl [1, 2, 3, 4, 5, 6] rfl)
          · have hp := hp.2 hc
            exact ks_X5_quickest_69 C0 hKn x1 x2 x5 v_7 H locs ls hp hP hD hS (lv_sub hl [1, 2, 3, 6, 0] rfl)
set_option maxHeartbeats 4000000 in
set_option maxRecDepth 100000 in
theorem kb_X5_quickest_8 (C0 : gc aDW (some .int) 7 RX5 (dC, dI) (tyl cI cC cZ cB cJ) A p s m args meth c) : ∀ (n : Nat), ∀ (x1 x2 x3 x4 x5 : Int32) (H : Heap) (locs : List Loc) (ls : Array Slot), (wb_X5_quickest_8 post rD sG bD n) x1 x2 x3 x4 x5 -> va_P (dC, dI) classes (aLJ cI cC cZ cB cJ xH xB vI uJ rW uQ uP uO tJ jJ mY pG pD pE eO oY rJ pX rO rD sG dN bD bJ aI) H -> va_D A (aLJ cI cC cZ cB cJ xH xB vI uJ rW uQ uP uO tJ jJ mY pG pD pE eO oY rJ pX rO rD sG dN bD bJ aI) -> va_S A s.heap H locs -> lv_has ls 7 [(0, .ref xH), (1, .int x1), (2, .int x2), (3, .int x3), (4, .int x4), (5, .int x5)] -> W p l e rm_X5_quickest s m args below meth c H locs 0 0 (MQ below (q_X5_quickest dC dI cI cC cZ cB cJ A xH xB vI uJ rW uQ uP uO tJ jJ mY pG pD pE eO oY rJ pX rO rD sG dN bD bJ aI post) args s 0 0 A) (F0 m 8 ls []) := by
  intro n
  induction n with
  | zero =>
    intro x1 x2 x3 x4 x5 H locs ls hp
    exact False.elim hp
  | succ n ih =>
    intro x1 x2 x3 x4 x5 H locs ls hp
    exact ks_X5_quickest_8 C0 ih x1 x2 x3 x4 x5 H locs ls hp
end S_X5_quickest
def wp_X5_quickest (post : Int32 -> Prop) (p0 p1 : Int32) (rD sG : Nat -> Int32) (bD : Int32) : Prop := ∃ n : Nat, wb_X5_quickest_8 post rD sG bD n p0 p1 (-1) 0 0
set_option maxHeartbeats 4000000 in
set_option maxRecDepth 100000 in
theorem c_X5_quickest (l : Launch) (dC : Nat -> ClassId) (dI : Nat -> Nat -> Nat) (cI cC cZ cB cJ : ClassId) (xH xB vI uJ rW uQ uP uO tJ jJ mY pG pD pE eO sz : Nat) (p0 p1 oY rJ pX rO : Int32) (rD sG : Nat -> Int32) (dN bD bJ aI : Int32) (post : Int32 -> Prop) (hw : wp_X5_quickest post p0 p1 rD sG bD) : Met l yX5_quickest (gw yX5_quickest aDW 7 (some .int)) rm_X5_quickest (va_Pc [.ref xH, .int p0, .int p1] (gPre (dC, dI) (tyl cI cC cZ cB cJ) (aLJ cI cC cZ cB cJ xH xB vI uJ rW uQ uP uO tJ jJ mY pG pD pE eO oY rJ pX rO rD sG dN bD bJ aI) sz)) (q_X5_quickest dC dI cI cC cZ cB cJ (va_A (aLJ cI cC cZ cB cJ xH xB vI uJ rW uQ uP uO tJ jJ mY pG pD pE eO oY rJ pX rO rD sG dN bD bJ aI) sz) xH xB vI uJ rW uQ uP uO tJ jJ mY pG pD pE eO oY rJ pX rO rD sG dN bD bJ aI post) 0 0 (va_A (aLJ cI cC cZ cB cJ xH xB vI uJ rW uQ uP uO tJ jJ mY pG pD pE eO oY rJ pX rO rD sG dN bD bJ aI) sz) := by
  refine aBJ (own := RX5) (dC, dI) (tyl cI cC cZ cB cJ) (aLJ cI cC cZ cB cJ xH xB vI uJ rW uQ uP uO tJ jJ mY pG pD pE eO oY rJ pX rO rD sG dN bD bJ aI) sz [.ref xH, .int p0, .int p1] (fun A => q_X5_quickest dC dI cI cC cZ cB cJ A xH xB vI uJ rW uQ uP uO tJ jJ mY pG pD pE eO oY rJ pX rO rD sG dN bD bJ aI post) pn_RX5 rfl (lbz rfl) ?_
  intro p e s m args below meth c A H locs ls C0 hP hD hS hl
  have hl : lv_has ls 7 [(0, .ref xH), (1, .int p0), (2, .int p1)] := hl
  obtain ⟨hx, hb, hr, hml, hown, hts, hlocks, hA, hK, hN, tL, tM, hZL, hTL, hZM, hTM, hZX⟩ := id C0
  have hp := hw
  unfold wp_X5_quickest at hp
  refine lv_iconst (v := (-1)) hx hb aQn.1 aEJ ?_
  refine lv_istore_n (lv' := [(3, .int (-1)), (0, .ref xH), (1, .int p0), (2, .int p1)]) hx hb aQn.2.1 rfl hl (by decide) rfl (fun ls hl => ?_)
  refine lv_iconst (v := 0) hx hb aQn.2.2.1 aCi ?_
  refine lv_istore (lv' := [(4, .int 0), (3, .int (-1)), (0, .ref xH), (1, .int p0), (2, .int p1)]) hx hb aQn.2.2.2.1 hl (by decide) rfl (fun ls hl => ?_)
  refine lv_iconst (v := 0) hx hb aQn.2.2.2.2.1 aCi ?_
  refine lv_istore (lv' := [(5, .int 0), (4, .int 0), (3, .int (-1)), (0, .ref xH), (1, .int p0), (2, .int p1)]) hx hb aQn.2.2.2.2.2.1 hl (by decide) rfl (fun ls hl => ?_)
  obtain ⟨n9, hp⟩ := hp
  exact kb_X5_quickest_8 C0 n9 p0 p1 (-1) 0 0 H locs ls hp hP hD hS (lv_sub hl [3, 4, 5, 2, 1, 0] rfl)
abbrev bBq (cI cC cZ cB cJ : ClassId) (vI tJ jJ mY pG pD pE eO : Nat) (dN bD bJ aI : Int32) (oE dY : Nat -> Int32) : va_W := [(vI, .inr (3, [.ref tJ, .ref jJ, .ref mY, .ref pG, .ref pD, .ref pE, .ref eO, .int dN, .int bD, .int bJ, .int aI])), (pE, .inl (cI, 8, .inl oE)), (eO, .inl (cI, 5, .inl dY))]
abbrev q_X3_downsSeconds (dC : Nat -> ClassId) (dI : Nat -> Nat -> Nat) (cI cC cZ cB cJ : ClassId) (A : Nat -> Prop) (vI tJ jJ mY pG pD pE eO : Nat) (dN bD bJ aI : Int32) (oE dY : Nat -> Int32) (post : Int32 -> Prop) : Array Value -> State -> Outcome -> State -> Prop := va_Qi (fun (r : Int32) (u : Unit) => post r) (fun u t => gB (dC, dI) (tyl cI cC cZ cB cJ) A (bBq cI cC cZ cB cJ vI tJ jJ mY pG pD pE eO dN bD bJ aI oE dY) t) A
abbrev rm_X3_downsSeconds : Room := { frames := 1, cells := 0, slots := 0, locals := 21 }
def wp_X3_downsSeconds (post : Int32 -> Prop) (p0 p1 : Int32) (oE dY : Nat -> Int32) : Prop := ∀ v_1 : Int32, v_1 = dY (4 : Int32).toNatClampNeg -> ∀ v_2 : Int32, v_2 = (if 1 < v_1 then v_1 else 1) -> ∀ v_3 : Int32, v_3 = p1 + v_2 -> ∀ v_4 : Int32, v_4 = v_3 - 1 -> ¬ v_2 = 0 /\ (∀ v_5 : Int32, v_5 = v_4 / v_2 -> aYG (fun r_6 => post (v_5 * r_6)) p0 oE)
set_option maxHeartbeats 4000000 in
set_option maxRecDepth 100000 in
theorem c_X3_downsSeconds (l : Launch) (dC : Nat -> ClassId) (dI : Nat -> Nat -> Nat) (cI cC cZ cB cJ : ClassId) (vI tJ jJ mY pG pD pE eO sz : Nat) (p0 p1 dN bD bJ aI : Int32) (oE dY : Nat -> Int32) (post : Int32 -> Prop) (hw : wp_X3_downsSeconds post p0 p1 oE dY) : Met l aXr (gw aXr aH7 4 (some .int)) rm_X3_downsSeconds (va_Pc [.ref vI, .int p0, .int p1] (gPre (dC, dI) (tyl cI cC cZ cB cJ) (bBq cI cC cZ cB cJ vI tJ jJ mY pG pD pE eO dN bD bJ aI oE dY) sz)) (q_X3_downsSeconds dC dI cI cC cZ cB cJ (va_A (bBq cI cC cZ cB cJ vI tJ jJ mY pG pD pE eO dN bD bJ aI oE dY) sz) vI tJ jJ mY pG pD pE eO dN bD bJ aI oE dY post) 0 0 (va_A (bBq cI cC cZ cB cJ vI tJ jJ mY pG pD pE eO dN bD bJ aI oE dY) sz) := by
  refine aBJ (own := RX3) (dC, dI) (tyl cI cC cZ cB cJ) (bBq cI cC cZ cB cJ vI tJ jJ mY pG pD pE eO dN bD bJ aI oE dY) sz [.ref vI, .int p0, .int p1] (fun A => q_X3_downsSeconds dC dI cI cC cZ cB cJ A vI tJ jJ mY pG pD pE eO dN bD bJ aI oE dY post) pn_RX3 rfl (lbz rfl) ?_
  intro p e s m args below meth c A H locs ls C0 hP hD hS hl
  have hl : lv_has ls 4 [(0, .ref vI), (1, .int p0), (2, .int p1)] := hl
  obtain ⟨hx, hb, hr, hml, hown, hts, hlocks, hA, hK, hN, tL, tM, hZL, hTL, hZM, hTM, hZX⟩ := id C0
  have hp := hw
  unfold wp_X3_downsSeconds at hp
  refine lv_iconst (v := 1) hx hb aJt.1 aDx ?_
  refine lv_aload_n hx hb aJt.2.1 rfl (lv_at hl 0 rfl) ?_
  refine va_get (D := (dC, dI)) (ci := 3) (v := .ref eO) (C := RX3) (T := TX3) (N := 11) hx hb hts i_X3 hown hK hP 0 rfl rfl 6 (lbz rfl) (hts _ q_225) (fun _ h9 => h9) rfl aJt.2.2.1 ?_
  refine lv_iconst (v := 4) hx hb aJt.2.2.2.1 ic_4 ?_
  refine va_iald hx hb hK hP 2 0 rfl rfl (g_in rfl) aJt.2.2.2.2.1 ?_
  refine lv_topi (fun v_1 aFJ => ?_)
  have hp := hp v_1 aFJ
  refine va_mmax hx hb (by rw [hml]; exact hl.1.symm) hown (hts _ q_209) (hts _ q_134) (hts _ q_16) (hts _ q_135) (lbz rfl) (lbz rfl) (Nat.zero_le _) (Nat.zero_le _) aJt.2.2.2.2.2.1 ?_
  refine lv_topi (fun v_2 aGO => ?_)
  have hp := hp v_2 aGO
  refine lv_istore_n (lv' := [(3, .int v_2), (0, .ref vI), (1, .int p0), (2, .int p1)]) hx hb aJt.2.2.2.2.2.2.1 rfl hl (by decide) rfl (fun ls hl => ?_)
  refine lv_iload_n hx hb aJt.2.2.2.2.2.2.2.1 rfl (lv_at hl 3 rfl) ?_
  refine lv_iload_n hx hb aJt.2.2.2.2.2.2.2.2.1 rfl (lv_at hl 0 rfl) ?_
  refine lv_iadd hx hb aJt.2.2.2.2.2.2.2.2.2.1 ?_
  refine lv_topi (fun v_3 aGW => ?_)
  have hp := hp v_3 aGW
  refine lv_iconst (v := 1) hx hb aJt.2.2.2.2.2.2.2.2.2.2.1 aDx ?_
  refine lv_isub hx hb aJt.2.2.2.2.2.2.2.2.2.2.2.1 ?_
  refine lv_topi (fun v_4 aHM => ?_)
  have hp := hp v_4 aHM
  refine lv_iload_n hx hb aJt.2.2.2.2.2.2.2.2.2.2.2.2.1 rfl (lv_at hl 0 rfl) ?_
  have hne := hp.1
  have hp := hp.2
  refine lv_idiv hx hb aJt.2.2.2.2.2.2.2.2.2.2.2.2.2.1 hne ?_
  refine lv_topi (fun v_5 aJD => ?_)
  have hp := hp v_5 aJD
  refine lv_aload_n hx hb aJt.2.2.2.2.2.2.2.2.2.2.2.2.2.2.1 rfl (lv_at hl 1 rfl) ?_
  refine lv_iload_n hx hb aJt.2.2.2.2.2.2.2.2.2.2.2.2.2.2.2 rfl (lv_at hl 2 rfl) ?_
  have hm := mgk (wc := (bBO cI cC cZ cB cJ vI tJ jJ mY pG pD pE eO dN bD bJ aI oE)) hP mk_137 3 rfl rfl rfl
  refine yW hP hD hS hA (yS mk_137) (aAi mk_137) hm.1 hm.2 (aAk _) (zW _) (zF (As := [.int p0]) (rest := [.int v_5]) C0 hP hD hS (yS mk_137) hm.1 (aAl _) 0 3 rfl rfl (c_X3_downSeconds l dC dI cI cC cZ cB cJ vI tJ jJ mY pG pD pE eO H.size p0 dN bD bJ aI oE _ hp) q_201 q_508 q_202 q_203 q_48 h_X3_downSeconds rfl rfl ⟨lbz rfl, lbz rfl⟩ rfl rfl hl.1 rfl (lv_room (lbz rfl)) eX3_downsSeconds_20.1 ⟨Nat.zero_le _, Nat.zero_le _⟩) (fun r_6 u H locs hp hP hD hS => ?_)
  have hPD := PDm (ws' := (bBq cI cC cZ cB cJ vI tJ jJ mY pG pD pE eO dN bD bJ aI oE dY)) hP hD 3 rfl rfl rfl
  have hP := hPD.1
  have hD := hPD.2
  refine lv_imul hx hb eX3_downsSeconds_20.2.1 ?_
  exact W.iret (v := v_5 * r_6) hx hb hr (fun t ht hW => ⟨⟨v_5 * r_6, (), rfl, hp, by rw [ht]; exact hP, va_K.moved hW.alike hK, hD⟩, hS.F ht⟩) hS.2.2 eX3_downsSeconds_20.2.2
abbrev aCM (cI cC cZ cB cJ : ClassId) (xH xB vI uJ rW uQ uP uO wY xO tJ jJ mY pG pD pE eO : Nat) (oY rJ pX rO : Int32) (rD sG vQ : Nat -> Int32) (dN bD bJ aI : Int32) (mX oE dY : Nat -> Int32) (jE eW eY dU fY gJ jG nU : Int32) : va_W := [(xH, .inr (5, [.ref xB, .ref vI, .ref uJ, .ref rW, .ref uQ, .ref uP, .ref uO, .int oY, .int rJ, .int pX, .int rO])), (uJ, .inl (cI, 8, .inl rD)), (rW, .inl (cI, 128, .inl sG)), (uQ, .inl (cI, 8, .inl vQ)), (xB, .inr (0, [.ref vI, .ref wY, .ref xO])), (vI, .inr (3, [.ref tJ, .ref jJ, .ref mY, .ref pG, .ref pD, .ref pE, .ref eO, .int dN, .int bD, .int bJ, .int aI])), (pD, .inl (cI, 8, .inl mX)), (pE, .inl (cI, 8, .inl oE)), (eO, .inl (cI, 5, .inl dY)), (wY, .inr (2, [.int jE, .int eW, .int eY, .int dU, .int fY, .int gJ, .int jG, .int nU]))]
abbrev aNS (dC : Nat -> ClassId) (dI : Nat -> Nat -> Nat) (cI cC cZ cB cJ : ClassId) (A : Nat -> Prop) (xH xB vI uJ rW uQ uP uO wY xO tJ jJ mY pG pD pE eO : Nat) (oY : Int32) (rD sG : Nat -> Int32) (dN bD bJ aI : Int32) (mX oE dY : Nat -> Int32) (jE eW eY dU fY gJ jG nU : Int32) (post : Int32 -> Int32 -> Int32 -> Int32 -> (Nat -> Int32) -> Prop) : Array Value -> State -> Outcome -> State -> Prop := va_Qi (fun (r : Int32) (u : Int32 × Int32 × Int32 × (Nat -> Int32)) => post r u.1 u.2.1 u.2.2.1 u.2.2.2) (fun u t => gB (dC, dI) (tyl cI cC cZ cB cJ) A (aCM cI cC cZ cB cJ xH xB vI uJ rW uQ uP uO wY xO tJ jJ mY pG pD pE eO oY u.1 u.2.1 u.2.2.1 rD sG u.2.2.2 dN bD bJ aI mX oE dY jE eW eY dU fY gJ jG nU) t) A
abbrev aNK : Room := { frames := 2, cells := 0, slots := 0, locals := 47 }
section S_X5_workSeconds
variable {p : Program} {l : Launch} {e : Env} {s : State} {m : MethodId} {args : Array Value} {below : List Frame} {meth : Method} {c : Code} {dC : Nat -> ClassId} {dI : Nat -> Nat -> Nat} {cI cC cZ cB cJ : ClassId} {A : Nat -> Prop} {xH xB vI uJ rW uQ uP uO wY xO tJ jJ mY pG pD pE eO : Nat} {oY : Int32} {rD sG : Nat -> Int32} {dN bD bJ aI : Int32} {mX oE dY : Nat -> Int32} {jE eW eY dU fY gJ jG nU : Int32} {post : Int32 -> Int32 -> Int32 -> Int32 -> (Nat -> Int32) -> Prop}
def ws_X5_workSeconds_109 (post : Int32 -> Int32 -> Int32 -> Int32 -> (Nat -> Int32) -> Prop) (next : Int32 -> Int32 -> Int32 -> Int32 -> Int32 -> (Nat -> Int32) -> Prop) (oY : Int32) (rD sG : Nat -> Int32) (dN bD : Int32) (mX oE dY : Nat -> Int32) (fY x1 x2 rJ pX rO : Int32) (vQ : Nat -> Int32) : Prop := (bD <= x2 -> wp_X0_withoutLadder (fun r_1 => wp_X3_waySeconds (fun r_2 => ∀ v_3 : Int32, v_3 = r_2 + pX -> post (v_3 + rO) r_2 pX rO vQ) fY r_1 bD mX dY) x1 fY) /\ (¬ bD <= x2 -> vp_in x2 8 /\ (∀ v_4 : Int32, v_4 = vQ x2.toNatClampNeg -> wp_X3_downsSeconds (fun r_5 => ∀ v_6 : Int32, v_6 = rO + r_5 -> ∀ v_7 : Int32, v_7 = x2 + 1 -> next x1 v_7 rJ pX v_6 vQ) x2 v_4 oE dY))
noncomputable def wb_X5_workSeconds_109 (post : Int32 -> Int32 -> Int32 -> Int32 -> (Nat -> Int32) -> Prop) (oY : Int32) (rD sG : Nat -> Int32) (dN bD : Int32) (mX oE dY : Nat -> Int32) (fY : Int32) : Nat -> Int32 -> Int32 -> Int32 -> Int32 -> Int32 -> (Nat -> Int32) -> Prop := fun n => Nat.rec (motive := fun _ => Int32 -> Int32 -> Int32 -> Int32 -> Int32 -> (Nat -> Int32) -> Prop) (fun _ _ _ _ _ _ => False) (fun _ ih => ws_X5_workSeconds_109 post ih oY rD sG dN bD mX oE dY fY) n
set_option maxHeartbeats 4000000 in
set_option maxRecDepth 100000 in
theorem ks_X5_workSeconds_109 (C0 : gc aA3 (some .int) 4 RX5 (dC, dI) (tyl cI cC cZ cB cJ) A p s m args meth c) {next : Int32 -> Int32 -> Int32 -> Int32 -> Int32 -> (Nat -> Int32) -> Prop} (hKn : ∀ (x1 : Int32) (x2 : Int32) (rJ : Int32) (pX : Int32) (rO : Int32) (vQ : Nat -> Int32) (H : Heap) (locs : List Loc) (ls : Array Slot), next x1 x2 rJ pX rO vQ -> va_P (dC, dI) classes (aCM cI cC cZ cB cJ xH xB vI uJ rW uQ uP uO wY xO tJ jJ mY pG pD pE eO oY rJ pX rO rD sG vQ dN bD bJ aI mX oE dY jE eW eY dU fY gJ jG nU) H -> va_D A (aCM cI cC cZ cB cJ xH xB vI uJ rW uQ uP uO wY xO tJ jJ mY pG pD pE eO oY rJ pX rO rD sG vQ dN bD bJ aI mX oE dY jE eW eY dU fY gJ jG nU) -> va_S A s.heap H locs -> lv_has ls 4 [(0, .ref xH), (1, .int x1), (2, .int x2)] -> W p l e aNK s m args below meth c H locs 0 0 (MQ below (aNS dC dI cI cC cZ cB cJ A xH xB vI uJ rW uQ uP uO wY xO tJ jJ mY pG pD pE eO oY rD sG dN bD bJ aI mX oE dY jE eW eY dU fY gJ jG nU post) args s 0 0 A) (F0 m 109 ls [])) : ∀ (x1 x2 rJ pX rO : Int32) (vQ : Nat -> Int32) (H : Heap) (locs : List Loc) (ls : Array Slot), (ws_X5_workSeconds_109 post next oY rD sG dN bD mX oE dY fY) x1 x2 rJ pX rO vQ -> va_P (dC, dI) classes (aCM cI cC cZ cB cJ xH xB vI uJ rW uQ uP uO wY xO tJ jJ mY pG pD pE eO oY rJ pX rO rD sG vQ dN bD bJ aI mX oE dY jE eW eY dU fY gJ jG nU) H -> va_D A (aCM cI cC cZ cB cJ xH xB vI uJ rW uQ uP uO wY xO tJ jJ mY pG pD pE eO oY rJ pX rO rD sG vQ dN bD bJ aI mX oE dY jE eW eY dU fY gJ jG nU) -> va_S A s.heap H locs -> lv_has ls 4 [(0, .ref xH), (1, .int x1), (2, .int x2)] -> W p l e aNK s m args below meth c H locs 0 0 (MQ below (aNS dC dI cI cC cZ cB cJ A xH xB vI uJ rW uQ uP uO wY xO tJ jJ mY pG pD pE eO oY rD sG dN bD bJ aI mX oE dY jE eW eY dU fY gJ jG nU post) args s 0 0 A) (F0 m 109 ls []) := by
  obtain ⟨hx, hb, hr, hml, hown, hts, hlocks, hA, hK, hN, tL, tM, hZL, hTL, hZM, hTM, hZX⟩ := id C0
  intro x1 x2 rJ pX rO vQ H locs ls hp hP hD hS hl
  unfold ws_X5_workSeconds_109 at hp
  refine lv_iload_n hx hb aIx.2.2.2.1 rfl (lv_at hl 2 rfl) ?_
  refine lv_aload_n hx hb aIx.2.2.2.2.1 rfl (lv_at hl 0 rfl) ?_
  refine va_get (D := (dC, dI)) (ci := 5) (v := .ref vI) (C := RX5) (T := TX5) (N := 11) hx hb hts i_X5 hown hK hP 0 rfl rfl 1 (lbz rfl) (hts _ q_419) (fun _ h9 => h9) rfl aIx.2.2.2.2.2.1 ?_
  refine va_get (D := (dC, dI)) (ci := 3) (v := .int bD) (C := RX3) (T := TX3) (N := 11) hx hb hts i_X3 hown hK hP 5 rfl rfl 8 (lbz rfl) (hts _ q_420) (fun _ h9 => h9) rfl aIx.2.2.2.2.2.2.1 ?_
  refine lv_icmp_ge (tgt := 149) hx hb aIx.2.2.2.2.2.2.2.1 (by decide) (fun hc => ?_) (fun hc => ?_)
  · have hp := hp.1 hc
    refine lv_aload_n hx hb aIy.2.2.2.2.2.2.2.1 rfl (lv_at hl 0 rfl) ?_
    refine lv_aload_n hx hb aIy.2.2.2.2.2.2.2.2.1 rfl (lv_at hl 0 rfl) ?_
    refine va_get (D := (dC, dI)) (ci := 5) (v := .ref vI) (C := RX5) (T := TX5) (N := 11) hx hb hts i_X5 hown hK hP 0 rfl rfl 1 (lbz rfl) (hts _ q_419) (fun _ h9 => h9) rfl aIy.2.2.2.2.2.2.2.2.2.1 ?_
    refine lv_aload_n hx hb aIy.2.2.2.2.2.2.2.2.2.2.1 rfl (lv_at hl 0 rfl) ?_
    refine va_get (D := (dC, dI)) (ci := 5) (v := .ref xB) (C := RX5) (T := TX5) (N := 11) hx hb hts i_X5 hown hK hP 0 rfl rfl 0 (lbz rfl) (hts _ q_423) (fun _ h9 => h9) rfl aIy.2.2.2.2.2.2.2.2.2.2.2.1 ?_
    refine va_get (D := (dC, dI)) (ci := 0) (v := .ref wY) (C := RX0) (T := TX0) (N := 3) hx hb hts i_X0 hown hK hP 4 rfl rfl 1 (lbz rfl) (hts _ q_437) (fun _ h9 => h9) rfl aIy.2.2.2.2.2.2.2.2.2.2.2.2.1 ?_
    refine va_get (D := (dC, dI)) (ci := 2) (v := .int fY) (C := RX2) (T := TX2) (N := 8) hx hb hts i_X2 hown hK hP 9 rfl rfl 4 (lbz rfl) (hts _ q_511) (fun _ h9 => h9) rfl aIy.2.2.2.2.2.2.2.2.2.2.2.2.2.1 ?_
    refine lv_aload_n hx hb aIy.2.2.2.2.2.2.2.2.2.2.2.2.2.2.1 rfl (lv_at hl 0 rfl) ?_
    refine va_get (D := (dC, dI)) (ci := 5) (v := .ref xB) (C := RX5) (T := TX5) (N := 11) hx hb hts i_X5 hown hK hP 0 rfl rfl 0 (lbz rfl) (hts _ q_423) (fun _ h9 => h9) rfl aIy.2.2.2.2.2.2.2.2.2.2.2.2.2.2.2 ?_
    refine lv_iload_n hx hb aMg.1 rfl (lv_at hl 1 rfl) ?_
    have hm := mgk (wc := (wd_X0_withoutLadder cI cC cZ cB cJ xB vI wY xO jE eW eY dU fY gJ jG nU)) hP mk_138 10 rfl rfl rfl
    refine yW hP hD hS hA (yS mk_138) (aAi mk_138) hm.1 hm.2 (aAk _) (zW _) (zF (As := [.int x1]) (rest := [.int fY, .ref vI, .ref xH]) C0 hP hD hS (yS mk_138) hm.1 (aAl _) 4 0 rfl rfl (c_X0_withoutLadder l dC dI cI cC cZ cB cJ xB vI wY xO H.size x1 jE eW eY dU fY gJ jG nU _ hp) q_493 q_512 q_494 q_495 q_187 h_X0_withoutLadder rfl rfl ⟨lbz rfl, lbz rfl⟩ rfl rfl hl.1 rfl (lv_room (lbz rfl)) aMg.2.1 ⟨Nat.zero_le _, Nat.zero_le _⟩) (fun r_1 u H locs hp hP hD hS => ?_)
    have hPD := PDm (ws' := (aCM cI cC cZ cB cJ xH xB vI uJ rW uQ uP uO wY xO tJ jJ mY pG pD pE eO oY rJ pX rO rD sG vQ dN bD bJ aI mX oE dY jE eW eY dU fY gJ jG nU)) hP hD 10 rfl rfl rfl
    have hP := hPD.1
    have hD := hPD.2
    have hm := mgk (wc := (aIA cI cC cZ cB cJ vI tJ jJ mY pG pD pE eO dN bD bJ aI mX dY)) hP mk_139 10 rfl rfl rfl
    refine yW hP hD hS hA (yS mk_139) (aAi mk_139) hm.1 hm.2 (aAk _) (zW _) (zF (As := [.int fY, .int r_1]) (rest := [.ref xH]) C0 hP hD hS (yS mk_139) hm.1 (aAl _) 5 3 rfl rfl (c_X3_waySeconds l dC dI cI cC cZ cB cJ vI tJ jJ mY pG pD pE eO H.size fY r_1 dN bD bJ aI mX dY _ hp) q_489 q_513 q_490 q_491 q_48 h_X3_waySeconds rfl rfl ⟨lbz rfl, lbz rfl⟩ rfl rfl hl.1 rfl (lv_room (lbz rfl)) aMg.2.2.1 ⟨Nat.zero_le _, Nat.zero_le _⟩) (fun r_2 u H locs hp hP hD hS => ?_)
    have hPD := PDm (ws' := (aCM cI cC cZ cB cJ xH xB vI uJ rW uQ uP uO wY xO tJ jJ mY pG pD pE eO oY rJ pX rO rD sG vQ dN bD bJ aI mX oE dY jE eW eY dU fY gJ jG nU)) hP hD 10 rfl rfl rfl
    have hP := hPD.1
    have hD := hPD.2
    refine va_put (D := (dC, dI)) (ci := 5) (v := .int r_2) (ty := .int) (C := RX5) (T := TX5) (N := 11) hx hb hts i_X5 tyX5 tyX5_ok nmX5 hown hK hP hD hS 0 rfl rfl 8 (lbz rfl) (hts _ q_514) (fun _ h9 => h9) rfl (tyX5_ok 8 (lbz rfl)) rfl rfl (lbz rfl) aMg.2.2.2.1 (fun H locs hP hD hS => ?_)
    have hPD := PDw (ws' := (aCM cI cC cZ cB cJ xH xB vI uJ rW uQ uP uO wY xO tJ jJ mY pG pD pE eO oY r_2 pX rO rD sG vQ dN bD bJ aI mX oE dY jE eW eY dU fY gJ jG nU)) hP hD rfl
    have hP := hPD.1
    have hD := hPD.2
    refine lv_aload_n hx hb aMg.2.2.2.2.1 rfl (lv_at hl 0 rfl) ?_
    refine va_get (D := (dC, dI)) (ci := 5) (v := .int r_2) (C := RX5) (T := TX5) (N := 11) hx hb hts i_X5 hown hK hP 0 rfl rfl 8 (lbz rfl) (hts _ q_514) (fun _ h9 => h9) rfl aMg.2.2.2.2.2.1 ?_
    refine lv_aload_n hx hb aMg.2.2.2.2.2.2.1 rfl (lv_at hl 0 rfl) ?_
    refine va_get (D := (dC, dI)) (ci := 5) (v := .int pX) (C := RX5) (T := TX5) (N := 11) hx hb hts i_X5 hown hK hP 0 rfl rfl 9 (lbz rfl) (hts _ q_509) (fun _ h9 => h9) rfl aMg.2.2.2.2.2.2.2.1 ?_
    refine lv_iadd hx hb aMg.2.2.2.2.2.2.2.2.1 ?_
    refine lv_topi (fun v_3 aGW => ?_)
    have hp := hp v_3 aGW
    refine lv_aload_n hx hb aMg.2.2.2.2.2.2.2.2.2.1 rfl (lv_at hl 0 rfl) ?_
    refine va_get (D := (dC, dI)) (ci := 5) (v := .int rO) (C := RX5) (T := TX5) (N := 11) hx hb hts i_X5 hown hK hP 0 rfl rfl 10 (lbz rfl) (hts _ q_510) (fun _ h9 => h9) rfl aMg.2.2.2.2.2.2.2.2.2.2.1 ?_
    refine lv_iadd hx hb aMg.2.2.2.2.2.2.2.2.2.2.2.1 ?_
    exact W.iret (v := v_3 + rO) hx hb hr (fun t ht hW => ⟨⟨v_3 + rO, (r_2, pX, rO, vQ), rfl, hp, by rw [ht]; exact hP, va_K.moved hW.alike hK, hD⟩, hS.F ht⟩) hS.2.2 aMg.2.2.2.2.2.2.2.2.2.2.2.2
  · have hp := hp.2 hc
    refine lv_aload_n hx hb aIx.2.2.2.2.2.2.2.2.1 rfl (lv_at hl 0 rfl) ?_
    refine lv_dup hx hb aIx.2.2.2.2.2.2.2.2.2.1 rfl ?_
    refine va_get (D := (dC, dI)) (ci := 5) (v := .int rO) (C := RX5) (T := TX5) (N := 11) hx hb hts i_X5 hown hK hP 0 rfl rfl 10 (lbz rfl) (hts _ q_510) (fun _ h9 => h9) rfl aIx.2.2.2.2.2.2.2.2.2.2.1 ?_
    refine lv_aload_n hx hb aIx.2.2.2.2.2.2.2.2.2.2.2.1 rfl (lv_at hl 0 rfl) ?_
    refine va_get (D := (dC, dI)) (ci := 5) (v := .ref vI) (C := RX5) (T := TX5) (N := 11) hx hb hts i_X5 hown hK hP 0 rfl rfl 1 (lbz rfl) (hts _ q_419) (fun _ h9 => h9) rfl aIx.2.2.2.2.2.2.2.2.2.2.2.2.1 ?_
    refine lv_iload_n hx hb aIx.2.2.2.2.2.2.2.2.2.2.2.2.2.1 rfl (lv_at hl 2 rfl) ?_
    refine lv_aload_n hx hb aIx.2.2.2.2.2.2.2.2.2.2.2.2.2.2.1 rfl (lv_at hl 0 rfl) ?_
    refine va_get (D := (dC, dI)) (ci := 5) (v := .ref uQ) (C := RX5) (T := TX5) (N := 11) hx hb hts i_X5 hown hK hP 0 rfl rfl 4 (lbz rfl) (hts _ q_515) (fun _ h9 => h9) rfl aIx.2.2.2.2.2.2.2.2.2.2.2.2.2.2.2 ?_
    refine lv_iload_n hx hb aIy.1 rfl (lv_at hl 2 rfl) ?_
    have hin := hp.1
    have hp := hp.2
    refine va_iald hx hb hK hP 3 0 rfl rfl hin aIy.2.1 ?_
    refine lv_topi (fun v_4 aHM => ?_)
    have hp := hp v_4 aHM
    have hm := mgk (wc := (bBq cI cC cZ cB cJ vI tJ jJ mY pG pD pE eO dN bD bJ aI oE dY)) hP mk_140 10 rfl rfl rfl
    refine yW hP hD hS hA (yS mk_140) (aAi mk_140) hm.1 hm.2 (aAk _) (zW _) (zF (As := [.int x2, .int v_4]) (rest := [.int rO, .ref xH]) C0 hP hD hS (yS mk_140) hm.1 (aAl _) 5 3 rfl rfl (c_X3_downsSeconds l dC dI cI cC cZ cB cJ vI tJ jJ mY pG pD pE eO H.size x2 v_4 dN bD bJ aI oE dY _ hp) q_516 q_519 q_517 q_518 q_48 h_X3_downsSeconds rfl rfl ⟨lbz rfl, lbz rfl⟩ rfl rfl hl.1 rfl (lv_room (lbz rfl)) aIy.2.2.1 ⟨Nat.zero_le _, Nat.zero_le _⟩) (fun r_5 u H locs hp hP hD hS => ?_)
    have hPD := PDm (ws' := (aCM cI cC cZ cB cJ xH xB vI uJ rW uQ uP uO wY xO tJ jJ mY pG pD pE eO oY rJ pX rO rD sG vQ dN bD bJ aI mX oE dY jE eW eY dU fY gJ jG nU)) hP hD 10 rfl rfl rfl
    have hP := hPD.1
    have hD := hPD.2
    refine lv_iadd hx hb aIy.2.2.2.1 ?_
    refine lv_topi (fun v_6 ev_6 => ?_)
    have hp := hp v_6 ev_6
    refine va_put (D := (dC, dI)) (ci := 5) (v := .int v_6) (ty := .int) (C := RX5) (T := TX5) (N := 11) hx hb hts i_X5 tyX5 tyX5_ok nmX5 hown hK hP hD hS 0 rfl rfl 10 (lbz rfl) (hts _ q_510) (fun _ h9 => h9) rfl (tyX5_ok 10 (lbz rfl)) rfl rfl (lbz rfl) aIy.2.2.2.2.1 (fun H locs hP hD hS => ?_)
    have hPD := PDw (ws' := (aCM cI cC cZ cB cJ xH xB vI uJ rW uQ uP uO wY xO tJ jJ mY pG pD pE eO oY rJ pX v_6 rD sG vQ dN bD bJ aI mX oE dY jE eW eY dU fY gJ jG nU)) hP hD rfl
    have hP := hPD.1
    have hD := hPD.2
    obtain ⟨v_7, ev_7⟩ : ∃ y : Int32, y = x2 + 1 := ⟨_, rfl⟩
    refine lv_iinc (v := v_7) (lv' := [(2, .int v_7), (0, .ref xH), (1, .int x1)]) hx hb aIy.2.2.2.2.2.1 hl (k := 2) rfl (by rw [ev_7]; rfl) (by decide) rfl (fun ls hl => ?_)
    have hp := hp v_7 ev_7
    refine lv_goto (tgt := 109) hx hb aIy.2.2.2.2.2.2.1 (by decide) ?_
    exact hKn x1 v_7 rJ pX v_6 vQ H locs ls hp hP hD hS (lv_sub hl [1, 2, 0] rfl)
set_option maxHeartbeats 4000000 in
set_option maxRecDepth 100000 in
theorem kb_X5_workSeconds_109 (C0 : gc aA3 (some .int) 4 RX5 (dC, dI) (tyl cI cC cZ cB cJ) A p s m args meth c) : ∀ (n : Nat), ∀ (x1 x2 rJ pX rO : Int32) (vQ : Nat -> Int32) (H : Heap) (locs : List Loc) (ls : Array Slot), (wb_X5_workSeconds_109 post oY rD sG dN bD mX oE dY fY n) x1 x2 rJ pX rO vQ -> va_P (dC, dI) classes (aCM cI cC cZ cB cJ xH xB vI uJ rW uQ uP uO wY xO tJ jJ mY pG pD pE eO oY rJ pX rO rD sG vQ dN bD bJ aI mX oE dY jE eW eY dU fY gJ jG nU) H -> va_D A (aCM cI cC cZ cB cJ xH xB vI uJ rW uQ uP uO wY xO tJ jJ mY pG pD pE eO oY rJ pX rO rD sG vQ dN bD bJ aI mX oE dY jE eW eY dU fY gJ jG nU) -> va_S A s.heap H locs -> lv_has ls 4 [(0, .ref xH), (1, .int x1), (2, .int x2)] -> W p l e aNK s m args below meth c H locs 0 0 (MQ below (aNS dC dI cI cC cZ cB cJ A xH xB vI uJ rW uQ uP uO wY xO tJ jJ mY pG pD pE eO oY rD sG dN bD bJ aI mX oE dY jE eW eY dU fY gJ jG nU post) args s 0 0 A) (F0 m 109 ls []) := by
  intro n
  induction n with
  | zero =>
    intro x1 x2 rJ pX rO vQ H locs ls hp
    exact False.elim hp
  | succ n ih =>
    intro x1 x2 rJ pX rO vQ H locs ls hp
    exact ks_X5_workSeconds_109 C0 ih x1 x2 rJ pX rO vQ H locs ls hp
def ws_X5_workSeconds_96 (post : Int32 -> Int32 -> Int32 -> Int32 -> (Nat -> Int32) -> Prop) (K28 : Int32 -> Int32 -> Int32 -> Int32 -> Int32 -> (Nat -> Int32) -> Prop) (oY : Int32) (rD sG : Nat -> Int32) (dN bD : Int32) (mX oE dY : Nat -> Int32) (fY x1 x2 rJ pX rO : Int32) (vQ : Nat -> Int32) : Prop := ∀ v_9 : Int32, v_9 = x2 + 1 -> K28 x1 v_9 rJ pX rO vQ
set_option maxHeartbeats 4000000 in
set_option maxRecDepth 100000 in
theorem ks_X5_workSeconds_96 (C0 : gc aA3 (some .int) 4 RX5 (dC, dI) (tyl cI cC cZ cB cJ) A p s m args meth c) {K28 : Int32 -> Int32 -> Int32 -> Int32 -> Int32 -> (Nat -> Int32) -> Prop} (hK28 : ∀ (x1 : Int32) (x2 : Int32) (rJ : Int32) (pX : Int32) (rO : Int32) (vQ : Nat -> Int32) (H : Heap) (locs : List Loc) (ls : Array Slot), K28 x1 x2 rJ pX rO vQ -> va_P (dC, dI) classes (aCM cI cC cZ cB cJ xH xB vI uJ rW uQ uP uO wY xO tJ jJ mY pG pD pE eO oY rJ pX rO rD sG vQ dN bD bJ aI mX oE dY jE eW eY dU fY gJ jG nU) H -> va_D A (aCM cI cC cZ cB cJ xH xB vI uJ rW uQ uP uO wY xO tJ jJ mY pG pD pE eO oY rJ pX rO rD sG vQ dN bD bJ aI mX oE dY jE eW eY dU fY gJ jG nU) -> va_S A s.heap H locs -> lv_has ls 4 [(0, .ref xH), (1, .int x1), (2, .int x2)] -> W p l e aNK s m args below meth c H locs 0 0 (MQ below (aNS dC dI cI cC cZ cB cJ A xH xB vI uJ rW uQ uP uO wY xO tJ jJ mY pG pD pE eO oY rD sG dN bD bJ aI mX oE dY jE eW eY dU fY gJ jG nU post) args s 0 0 A) (F0 m 28 ls [])) : ∀ (x1 x2 rJ pX rO : Int32) (vQ : Nat -> Int32) (H : Heap) (locs : List Loc) (ls : Array Slot), (ws_X5_workSeconds_96 post K28 oY rD sG dN bD mX oE dY fY) x1 x2 rJ pX rO vQ -> va_P (dC, dI) classes (aCM cI cC cZ cB cJ xH xB vI uJ rW uQ uP uO wY xO tJ jJ mY pG pD pE eO oY rJ pX rO rD sG vQ dN bD bJ aI mX oE dY jE eW eY dU fY gJ jG nU) H -> va_D A (aCM cI cC cZ cB cJ xH xB vI uJ rW uQ uP uO wY xO tJ jJ mY pG pD pE eO oY rJ pX rO rD sG vQ dN bD bJ aI mX oE dY jE eW eY dU fY gJ jG nU) -> va_S A s.heap H locs -> lv_has ls 4 [(0, .ref xH), (1, .int x1), (2, .int x2)] -> W p l e aNK s m args below meth c H locs 0 0 (MQ below (aNS dC dI cI cC cZ cB cJ A xH xB vI uJ rW uQ uP uO wY xO tJ jJ mY pG pD pE eO oY rD sG dN bD bJ aI mX oE dY jE eW eY dU fY gJ jG nU post) args s 0 0 A) (F0 m 96 ls []) := by
  obtain ⟨hx, hb, hr, hml, hown, hts, hlocks, hA, hK, hN, tL, tM, hZL, hTL, hZM, hTM, hZX⟩ := id C0
  intro x1 x2 rJ pX rO vQ H locs ls hp hP hD hS hl
  unfold ws_X5_workSeconds_96 at hp
  obtain ⟨v_9, ev_9⟩ : ∃ y : Int32, y = x2 + 1 := ⟨_, rfl⟩
  refine lv_iinc (v := v_9) (lv' := [(2, .int v_9), (0, .ref xH), (1, .int x1)]) hx hb aJx.2.2.2.2.2.2.2.2.2.2.2.2.1 hl (k := 2) rfl (by rw [ev_9]; rfl) (by decide) rfl (fun ls hl => ?_)
  have hp := hp v_9 ev_9
  refine lv_goto (tgt := 28) hx hb aJx.2.2.2.2.2.2.2.2.2.2.2.2.2.1 (by decide) ?_
  exact hK28 x1 v_9 rJ pX rO vQ H locs ls hp hP hD hS (lv_sub hl [1, 2, 0] rfl)
def ws_X5_workSeconds_60 (post : Int32 -> Int32 -> Int32 -> Int32 -> (Nat -> Int32) -> Prop) (K28 : Int32 -> Int32 -> Int32 -> Int32 -> Int32 -> (Nat -> Int32) -> Prop) (oY : Int32) (rD sG : Nat -> Int32) (dN bD : Int32) (mX oE dY : Nat -> Int32) (fY x1 x2 k0 rJ pX rO : Int32) (vQ : Nat -> Int32) : Prop := (k0 = (-1) -> ws_X5_workSeconds_96 post K28 oY rD sG dN bD mX oE dY fY x1 x2 rJ pX rO vQ) /\ (¬ k0 = (-1) -> ∀ aEr : Int32, aEr = x2 * 8 -> ∀ aGH : Int32, aGH = aEr + k0 -> vp_in aGH 128 /\ (∀ aEp : Int32, aEp = pX + (sG aGH.toNatClampNeg) -> vp_in k0 8 /\ (∀ aIQ : Int32, aIQ = vQ k0.toNatClampNeg -> ∀ aGC : Int32, aGC = aIQ + 1 -> vp_in k0 8 /\ (ws_X5_workSeconds_96 post K28 oY rD sG dN bD mX oE dY fY x1 x2 rJ aEp rO (upd vQ k0.toNatClampNeg aGC)))))
set_option maxHeartbeats 4000000 in
set_option maxRecDepth 100000 in
theorem ks_X5_workSeconds_60 (C0 : gc aA3 (some .int) 4 RX5 (dC, dI) (tyl cI cC cZ cB cJ) A p s m args meth c) {K28 : Int32 -> Int32 -> Int32 -> Int32 -> Int32 -> (Nat -> Int32) -> Prop} (hK28 : ∀ (x1 : Int32) (x2 : Int32) (rJ : Int32) (pX : Int32) (rO : Int32) (vQ : Nat -> Int32) (H : Heap) (locs : List Loc) (ls : Array Slot), K28 x1 x2 rJ pX rO vQ -> va_P (dC, dI) classes (aCM cI cC cZ cB cJ xH xB vI uJ rW uQ uP uO wY xO tJ jJ mY pG pD pE eO oY rJ pX rO rD sG vQ dN bD bJ aI mX oE dY jE eW eY dU fY gJ jG nU) H -> va_D A (aCM cI cC cZ cB cJ xH xB vI uJ rW uQ uP uO wY xO tJ jJ mY pG pD pE eO oY rJ pX rO rD sG vQ dN bD bJ aI mX oE dY jE eW eY dU fY gJ jG nU) -> va_S A s.heap H locs -> lv_has ls 4 [(0, .ref xH), (1, .int x1), (2, .int x2)] -> W p l e aNK s m args below meth c H locs 0 0 (MQ below (aNS dC dI cI cC cZ cB cJ A xH xB vI uJ rW uQ uP uO wY xO tJ jJ mY pG pD pE eO oY rD sG dN bD bJ aI mX oE dY jE eW eY dU fY gJ jG nU post) args s 0 0 A) (F0 m 28 ls [])) : ∀ (x1 x2 k0 rJ pX rO : Int32) (vQ : Nat -> Int32) (H : Heap) (locs : List Loc) (ls : Array Slot), (ws_X5_workSeconds_60 post K28 oY rD sG dN bD mX oE dY fY) x1 x2 k0 rJ pX rO vQ -> va_P (dC, dI) classes (aCM cI cC cZ cB cJ xH xB vI uJ rW uQ uP uO wY xO tJ jJ mY pG pD pE eO oY rJ pX rO rD sG vQ dN bD bJ aI mX oE dY jE eW eY dU fY gJ jG nU) H -> va_D A (aCM cI cC cZ cB cJ xH xB vI uJ rW uQ uP uO wY xO tJ jJ mY pG pD pE eO oY rJ pX rO rD sG vQ dN bD bJ aI mX oE dY jE eW eY dU fY gJ jG nU) -> va_S A s.heap H locs -> lv_has ls 4 [(0, .ref xH), (1, .int x1), (2, .int x2)] -> W p l e aNK s m args below meth c H locs 0 0 (MQ below (aNS dC dI cI cC cZ cB cJ A xH xB vI uJ rW uQ uP uO wY xO tJ jJ mY pG pD pE eO oY rD sG dN bD bJ aI mX oE dY jE eW eY dU fY gJ jG nU post) args s 0 0 A) (F0 m 60 ls [.int k0]) := by
  obtain ⟨hx, hb, hr, hml, hown, hts, hlocks, hA, hK, hN, tL, tM, hZL, hTL, hZM, hTM, hZX⟩ := id C0
  intro x1 x2 k0 rJ pX rO vQ H locs ls hp hP hD hS hl
  unfold ws_X5_workSeconds_60 at hp
  refine lv_istore_n (lv' := [(3, .int k0), (0, .ref xH), (1, .int x1), (2, .int x2)]) hx hb aJw.2.2.2.1 rfl hl (by decide) rfl (fun ls hl => ?_)
  refine lv_iload_n hx hb aJw.2.2.2.2.1 rfl (lv_at hl 0 rfl) ?_
  refine lv_iconst (v := (-1)) hx hb aJw.2.2.2.2.2.1 aEJ ?_
  refine lv_icmp_eq (tgt := 96) hx hb aJw.2.2.2.2.2.2.1 (by decide) (fun hc => ?_) (fun hc => ?_)
  · have hp := hp.1 hc
    exact ks_X5_workSeconds_96 C0 hK28 x1 x2 rJ pX rO vQ H locs ls hp hP hD hS (lv_sub hl [1, 2, 3] rfl)
  · have hp := hp.2 hc
    refine lv_aload_n hx hb aJw.2.2.2.2.2.2.2.1 rfl (lv_at hl 1 rfl) ?_
    refine lv_dup hx hb aJw.2.2.2.2.2.2.2.2.1 rfl ?_
    refine va_get (D := (dC, dI)) (ci := 5) (v := .int pX) (C := RX5) (T := TX5) (N := 11) hx hb hts i_X5 hown hK hP 0 rfl rfl 9 (lbz rfl) (hts _ q_509) (fun _ h9 => h9) rfl aJw.2.2.2.2.2.2.2.2.2.1 ?_
    refine lv_aload_n hx hb aJw.2.2.2.2.2.2.2.2.2.2.1 rfl (lv_at hl 1 rfl) ?_
    refine va_get (D := (dC, dI)) (ci := 5) (v := .ref rW) (C := RX5) (T := TX5) (N := 11) hx hb hts i_X5 hown hK hP 0 rfl rfl 3 (lbz rfl) (hts _ q_506) (fun _ h9 => h9) rfl aJw.2.2.2.2.2.2.2.2.2.2.2.1 ?_
    refine lv_iload_n hx hb aJw.2.2.2.2.2.2.2.2.2.2.2.2.1 rfl (lv_at hl 3 rfl) ?_
    refine lv_bipush (v := 8) hx hb aJw.2.2.2.2.2.2.2.2.2.2.2.2.2.1 bp_8 ?_
    refine lv_imul hx hb aJw.2.2.2.2.2.2.2.2.2.2.2.2.2.2.1 ?_
    refine lv_topi (fun aEr aNB => ?_)
    have hp := hp aEr aNB
    refine lv_iload_n hx hb aJw.2.2.2.2.2.2.2.2.2.2.2.2.2.2.2 rfl (lv_at hl 0 rfl) ?_
    refine lv_iadd hx hb aJx.1 ?_
    refine lv_topi (fun aGH ev_11 => ?_)
    have hp := hp aGH ev_11
    have hin := hp.1
    have hp := hp.2
    refine va_iald hx hb hK hP 2 0 rfl rfl hin aJx.2.1 ?_
    refine lv_iadd hx hb aJx.2.2.1 ?_
    refine lv_topi (fun aEp ev_12 => ?_)
    have hp := hp aEp ev_12
    refine va_put (D := (dC, dI)) (ci := 5) (v := .int aEp) (ty := .int) (C := RX5) (T := TX5) (N := 11) hx hb hts i_X5 tyX5 tyX5_ok nmX5 hown hK hP hD hS 0 rfl rfl 9 (lbz rfl) (hts _ q_509) (fun _ h9 => h9) rfl (tyX5_ok 9 (lbz rfl)) rfl rfl (lbz rfl) aJx.2.2.2.1 (fun H locs hP hD hS => ?_)
    have hPD := PDw (ws' := (aCM cI cC cZ cB cJ xH xB vI uJ rW uQ uP uO wY xO tJ jJ mY pG pD pE eO oY rJ aEp rO rD sG vQ dN bD bJ aI mX oE dY jE eW eY dU fY gJ jG nU)) hP hD rfl
    have hP := hPD.1
    have hD := hPD.2
    refine lv_aload_n hx hb aJx.2.2.2.2.1 rfl (lv_at hl 1 rfl) ?_
    refine va_get (D := (dC, dI)) (ci := 5) (v := .ref uQ) (C := RX5) (T := TX5) (N := 11) hx hb hts i_X5 hown hK hP 0 rfl rfl 4 (lbz rfl) (hts _ q_515) (fun _ h9 => h9) rfl aJx.2.2.2.2.2.1 ?_
    refine lv_iload_n hx hb aJx.2.2.2.2.2.2.1 rfl (lv_at hl 0 rfl) ?_
    refine lv_dup2_11 hx hb aJx.2.2.2.2.2.2.2.1 rfl rfl ?_
    have hin := hp.1
    have hp := hp.2
    refine va_iald hx hb hK hP 3 0 rfl rfl hin aJx.2.2.2.2.2.2.2.2.1 ?_
    refine lv_topi (fun aIQ ev_13 => ?_)
    have hp := hp aIQ ev_13
    refine lv_iconst (v := 1) hx hb aJx.2.2.2.2.2.2.2.2.2.1 aDx ?_
    refine lv_iadd hx hb aJx.2.2.2.2.2.2.2.2.2.2.1 ?_
    refine lv_topi (fun aGC ev_14 => ?_)
    have hp := hp aGC ev_14
    have hin := hp.1
    have hp := hp.2
    refine va_iast hx hb hK hP hD hS 3 0 rfl rfl hin aJx.2.2.2.2.2.2.2.2.2.2.2.1 (fun H locs hP hD hS => ?_)
    have hPD := PDw (ws' := (aCM cI cC cZ cB cJ xH xB vI uJ rW uQ uP uO wY xO tJ jJ mY pG pD pE eO oY rJ aEp rO rD sG (upd vQ k0.toNatClampNeg aGC) dN bD bJ aI mX oE dY jE eW eY dU fY gJ jG nU)) hP hD rfl
    have hP := hPD.1
    have hD := hPD.2
    exact ks_X5_workSeconds_96 C0 hK28 x1 x2 rJ aEp rO (upd vQ k0.toNatClampNeg aGC) H locs ls hp hP hD hS (lv_sub hl [1, 2, 3] rfl)
def ws_X5_workSeconds_28 (post : Int32 -> Int32 -> Int32 -> Int32 -> (Nat -> Int32) -> Prop) (next : Int32 -> Int32 -> Int32 -> Int32 -> Int32 -> (Nat -> Int32) -> Prop) (oY : Int32) (rD sG : Nat -> Int32) (dN bD : Int32) (mX oE dY : Nat -> Int32) (fY x1 x2 rJ pX rO : Int32) (vQ : Nat -> Int32) : Prop := (dN <= x2 -> ∃ n : Nat, wb_X5_workSeconds_109 post oY rD sG dN bD mX oE dY fY n x1 0 rJ pX 0 vQ) /\ (¬ dN <= x2 -> ∀ v_8 : Int32, v_8 = oY >>> (x2 &&& 31) -> ((v_8 &&& 1) = 0 -> ws_X5_workSeconds_60 post next oY rD sG dN bD mX oE dY fY x1 x2 (-1) rJ pX rO vQ) /\ (¬ (v_8 &&& 1) = 0 -> wp_X5_quickest (fun r_15 => ws_X5_workSeconds_60 post next oY rD sG dN bD mX oE dY fY x1 x2 r_15 rJ pX rO vQ) x2 x1 rD sG bD))
noncomputable def wb_X5_workSeconds_28 (post : Int32 -> Int32 -> Int32 -> Int32 -> (Nat -> Int32) -> Prop) (oY : Int32) (rD sG : Nat -> Int32) (dN bD : Int32) (mX oE dY : Nat -> Int32) (fY : Int32) : Nat -> Int32 -> Int32 -> Int32 -> Int32 -> Int32 -> (Nat -> Int32) -> Prop := fun n => Nat.rec (motive := fun _ => Int32 -> Int32 -> Int32 -> Int32 -> Int32 -> (Nat -> Int32) -> Prop) (fun _ _ _ _ _ _ => False) (fun _ ih => ws_X5_workSeconds_28 post ih oY rD sG dN bD mX oE dY fY) n
set_option maxHeartbeats 4000000 in
set_option maxRecDepth 100000 in
theorem ks_X5_workSeconds_28 (C0 : gc aA3 (some .int) 4 RX5 (dC, dI) (tyl cI cC cZ cB cJ) A p s m args meth c) {next : Int32 -> Int32 -> Int32 -> Int32 -> Int32 -> (Nat -> Int32) -> Prop} (hKn : ∀ (x1 : Int32) (x2 : Int32) (rJ : Int32) (pX : Int32) (rO : Int32) (vQ : Nat -> Int32) (H : Heap) (locs : List Loc) (ls : Array Slot), next x1 x2 rJ pX rO vQ -> va_P (dC, dI) classes (aCM cI cC cZ cB cJ xH xB vI uJ rW uQ uP uO wY xO tJ jJ mY pG pD pE eO oY rJ pX rO rD sG vQ dN bD bJ aI mX oE dY jE eW eY dU fY gJ jG nU) H -> va_D A (aCM cI cC cZ cB cJ xH xB vI uJ rW uQ uP uO wY xO tJ jJ mY pG pD pE eO oY rJ pX rO rD sG vQ dN bD bJ aI mX oE dY jE eW eY dU fY gJ jG nU) -> va_S A s.heap H locs -> lv_has ls 4 [(0, .ref xH), (1, .int x1), (2, .int x2)] -> W p l e aNK s m args below meth c H locs 0 0 (MQ below (aNS dC dI cI cC cZ cB cJ A xH xB vI uJ rW uQ uP uO wY xO tJ jJ mY pG pD pE eO oY rD sG dN bD bJ aI mX oE dY jE eW eY dU fY gJ jG nU post) args s 0 0 A) (F0 m 28 ls [])) : ∀ (x1 x2 rJ pX rO : Int32) (vQ : Nat -> Int32) (H : Heap) (locs : List Loc) (ls : Array Slot), (ws_X5_workSeconds_28 post next oY rD sG dN bD mX oE dY fY) x1 x2 rJ pX rO vQ -> va_P (dC, dI) classes (aCM cI cC cZ cB cJ xH xB vI uJ rW uQ uP uO wY xO tJ jJ mY pG pD pE eO oY rJ pX rO rD sG vQ dN bD bJ aI mX oE dY jE eW eY dU fY gJ jG nU) H -> va_D A (aCM cI cC cZ cB cJ xH xB vI uJ rW uQ uP uO wY xO tJ jJ mY pG pD pE eO oY rJ pX rO rD sG vQ dN bD bJ aI mX oE dY jE eW eY dU fY gJ jG nU) -> va_S A s.heap H locs -> lv_has ls 4 [(0, .ref xH), (1, .int x1), (2, .int x2)] -> W p l e aNK s m args below meth c H locs 0 0 (MQ below (aNS dC dI cI cC cZ cB cJ A xH xB vI uJ rW uQ uP uO wY xO tJ jJ mY pG pD pE eO oY rD sG dN bD bJ aI mX oE dY jE eW eY dU fY gJ jG nU post) args s 0 0 A) (F0 m 28 ls []) := by
  obtain ⟨hx, hb, hr, hml, hown, hts, hlocks, hA, hK, hN, tL, tM, hZL, hTL, hZM, hTM, hZX⟩ := id C0
  intro x1 x2 rJ pX rO vQ H locs ls hp hP hD hS hl
  unfold ws_X5_workSeconds_28 at hp
  refine lv_iload_n hx hb aJv.2.1 rfl (lv_at hl 2 rfl) ?_
  refine lv_aload_n hx hb aJv.2.2.1 rfl (lv_at hl 0 rfl) ?_
  refine va_get (D := (dC, dI)) (ci := 5) (v := .ref vI) (C := RX5) (T := TX5) (N := 11) hx hb hts i_X5 hown hK hP 0 rfl rfl 1 (lbz rfl) (hts _ q_419) (fun _ h9 => h9) rfl aJv.2.2.2.1 ?_
  refine va_get (D := (dC, dI)) (ci := 3) (v := .int dN) (C := RX3) (T := TX3) (N := 11) hx hb hts i_X3 hown hK hP 5 rfl rfl 7 (lbz rfl) (hts _ q_504) (fun _ h9 => h9) rfl aJv.2.2.2.2.1 ?_
  refine lv_icmp_ge (tgt := 102) hx hb aJv.2.2.2.2.2.1 (by decide) (fun hc => ?_) (fun hc => ?_)
  · have hp := hp.1 hc
    refine lv_aload_n hx hb aJx.2.2.2.2.2.2.2.2.2.2.2.2.2.2.1 rfl (lv_at hl 0 rfl) ?_
    refine lv_iconst (v := 0) hx hb aJx.2.2.2.2.2.2.2.2.2.2.2.2.2.2.2 aCi ?_
    refine va_put (D := (dC, dI)) (ci := 5) (v := .int 0) (ty := .int) (C := RX5) (T := TX5) (N := 11) hx hb hts i_X5 tyX5 tyX5_ok nmX5 hown hK hP hD hS 0 rfl rfl 10 (lbz rfl) (hts _ q_510) (fun _ h9 => h9) rfl (tyX5_ok 10 (lbz rfl)) rfl rfl (lbz rfl) aIx.1 (fun H locs hP hD hS => ?_)
    have hPD := PDw (ws' := (aCM cI cC cZ cB cJ xH xB vI uJ rW uQ uP uO wY xO tJ jJ mY pG pD pE eO oY rJ pX 0 rD sG vQ dN bD bJ aI mX oE dY jE eW eY dU fY gJ jG nU)) hP hD rfl
    have hP := hPD.1
    have hD := hPD.2
    refine lv_iconst (v := 0) hx hb aIx.2.1 aCi ?_
    refine lv_istore_n (lv' := [(2, .int 0), (0, .ref xH), (1, .int x1)]) hx hb aIx.2.2.1 rfl hl (by decide) rfl (fun ls hl => ?_)
    obtain ⟨n9, hp⟩ := hp
    exact kb_X5_workSeconds_109 C0 n9 x1 0 rJ pX 0 vQ H locs ls hp hP hD hS (lv_sub hl [1, 2, 0] rfl)
  · have hp := hp.2 hc
    refine lv_aload_n hx hb aJv.2.2.2.2.2.2.1 rfl (lv_at hl 0 rfl) ?_
    refine va_get (D := (dC, dI)) (ci := 5) (v := .int oY) (C := RX5) (T := TX5) (N := 11) hx hb hts i_X5 hown hK hP 0 rfl rfl 7 (lbz rfl) (hts _ q_435) (fun _ h9 => h9) rfl aJv.2.2.2.2.2.2.2.1 ?_
    refine lv_iload_n hx hb aJv.2.2.2.2.2.2.2.2.1 rfl (lv_at hl 2 rfl) ?_
    refine lv_ishr hx hb aJv.2.2.2.2.2.2.2.2.2.1 ?_
    refine lv_topi (fun v_8 ev_8 => ?_)
    have hp := hp v_8 ev_8
    refine lv_iconst (v := 1) hx hb aJv.2.2.2.2.2.2.2.2.2.2.1 aDx ?_
    refine lv_iand hx hb aJv.2.2.2.2.2.2.2.2.2.2.2.1 ?_
    refine lv_if_eq (tgt := 59) hx hb aJv.2.2.2.2.2.2.2.2.2.2.2.2.1 (by decide) (fun hc => ?_) (fun hc => ?_)
    · have hp := hp.1 hc
      refine lv_iconst (v := (-1)) hx hb aJw.2.2.1 aEJ ?_
      exact ks_X5_workSeconds_60 C0 hKn x1 x2 (-1) rJ pX rO vQ H locs ls hp hP hD hS (lv_sub hl [0, 1, 2] rfl)
    · have hp := hp.2 hc
      refine lv_aload_n hx hb aJv.2.2.2.2.2.2.2.2.2.2.2.2.2.1 rfl (lv_at hl 0 rfl) ?_
      refine lv_iload_n hx hb aJv.2.2.2.2.2.2.2.2.2.2.2.2.2.2.1 rfl (lv_at hl 2 rfl) ?_
      refine lv_iload_n hx hb aJv.2.2.2.2.2.2.2.2.2.2.2.2.2.2.2 rfl (lv_at hl 1 rfl) ?_
      have hm := mgk (wc := (aLJ cI cC cZ cB cJ xH xB vI uJ rW uQ uP uO tJ jJ mY pG pD pE eO oY rJ pX rO rD sG dN bD bJ aI)) hP mk_141 10 rfl rfl rfl
      refine yW hP hD hS hA (yS mk_141) (aAi mk_141) hm.1 hm.2 (aAk _) (zW _) (zF (As := [.int x2, .int x1]) (rest := []) C0 hP hD hS (yS mk_141) hm.1 (aAl _) 0 5 rfl rfl (c_X5_quickest l dC dI cI cC cZ cB cJ xH xB vI uJ rW uQ uP uO tJ jJ mY pG pD pE eO H.size x2 x1 oY rJ pX rO rD sG dN bD bJ aI _ hp) q_520 q_523 q_521 q_522 aRn h_X5_quickest rfl rfl ⟨lbz rfl, lbz rfl⟩ rfl rfl hl.1 rfl (lv_room (lbz rfl)) aJw.1 ⟨Nat.zero_le _, Nat.zero_le _⟩) (fun r_15 u H locs hp hP hD hS => ?_)
      have hPD := PDm (ws' := (aCM cI cC cZ cB cJ xH xB vI uJ rW uQ uP uO wY xO tJ jJ mY pG pD pE eO oY rJ pX rO rD sG vQ dN bD bJ aI mX oE dY jE eW eY dU fY gJ jG nU)) hP hD 10 rfl rfl rfl
      have hP := hPD.1
      have hD := hPD.2
      refine lv_goto (tgt := 60) hx hb aJw.2.1 (by decide) ?_
      exact ks_X5_workSeconds_60 C0 hKn x1 x2 r_15 rJ pX rO vQ H locs ls hp hP hD hS (lv_sub hl [0, 1, 2] rfl)
set_option maxHeartbeats 4000000 in
set_option maxRecDepth 100000 in
theorem kb_X5_workSeconds_28 (C0 : gc aA3 (some .int) 4 RX5 (dC, dI) (tyl cI cC cZ cB cJ) A p s m args meth c) : ∀ (n : Nat), ∀ (x1 x2 rJ pX rO : Int32) (vQ : Nat -> Int32) (H : Heap) (locs : List Loc) (ls : Array Slot), (wb_X5_workSeconds_28 post oY rD sG dN bD mX oE dY fY n) x1 x2 rJ pX rO vQ -> va_P (dC, dI) classes (aCM cI cC cZ cB cJ xH xB vI uJ rW uQ uP uO wY xO tJ jJ mY pG pD pE eO oY rJ pX rO rD sG vQ dN bD bJ aI mX oE dY jE eW eY dU fY gJ jG nU) H -> va_D A (aCM cI cC cZ cB cJ xH xB vI uJ rW uQ uP uO wY xO tJ jJ mY pG pD pE eO oY rJ pX rO rD sG vQ dN bD bJ aI mX oE dY jE eW eY dU fY gJ jG nU) -> va_S A s.heap H locs -> lv_has ls 4 [(0, .ref xH), (1, .int x1), (2, .int x2)] -> W p l e aNK s m args below meth c H locs 0 0 (MQ below (aNS dC dI cI cC cZ cB cJ A xH xB vI uJ rW uQ uP uO wY xO tJ jJ mY pG pD pE eO oY rD sG dN bD bJ aI mX oE dY jE eW eY dU fY gJ jG nU post) args s 0 0 A) (F0 m 28 ls []) := by
  intro n
  induction n with
  | zero =>
    intro x1 x2 rJ pX rO vQ H locs ls hp
    exact False.elim hp
  | succ n ih =>
    intro x1 x2 rJ pX rO vQ H locs ls hp
    exact ks_X5_workSeconds_28 C0 ih x1 x2 rJ pX rO vQ H locs ls hp
def ws_X5_workSeconds_2 (post : Int32 -> Int32 -> Int32 -> Int32 -> (Nat -> Int32) -> Prop) (next : Int32 -> Int32 -> Int32 -> Int32 -> Int32 -> (Nat -> Int32) -> Prop) (oY : Int32) (rD sG : Nat -> Int32) (dN bD : Int32) (mX oE dY : Nat -> Int32) (fY x1 x2 rJ pX rO : Int32) (vQ : Nat -> Int32) : Prop := (8 <= x2 -> ∃ n : Nat, wb_X5_workSeconds_28 post oY rD sG dN bD mX oE dY fY n x1 0 rJ 0 rO vQ) /\ (¬ 8 <= x2 -> vp_in x2 8 /\ (∀ aHb : Int32, aHb = x2 + 1 -> next x1 aHb rJ pX rO (upd vQ x2.toNatClampNeg 0)))
noncomputable def wb_X5_workSeconds_2 (post : Int32 -> Int32 -> Int32 -> Int32 -> (Nat -> Int32) -> Prop) (oY : Int32) (rD sG : Nat -> Int32) (dN bD : Int32) (mX oE dY : Nat -> Int32) (fY : Int32) : Nat -> Int32 -> Int32 -> Int32 -> Int32 -> Int32 -> (Nat -> Int32) -> Prop := fun n => Nat.rec (motive := fun _ => Int32 -> Int32 -> Int32 -> Int32 -> Int32 -> (Nat -> Int32) -> Prop) (fun _ _ _ _ _ _ => False) (fun _ ih => ws_X5_workSeconds_2 post ih oY rD sG dN bD mX oE dY fY) n
set_option maxHeartbeats 4000000 in
set_option maxRecDepth 100000 in
theorem ks_X5_workSeconds_2 (C0 : gc aA3 (some .int) 4 RX5 (dC, dI) (tyl cI cC cZ cB cJ) A p s m args meth c) {next : Int32 -> Int32 -> Int32 -> Int32 -> Int32 -> (Nat -> Int32) -> Prop} (hKn : ∀ (x1 : Int32) (x2 : Int32) (rJ : Int32) (pX : Int32) (rO : Int32) (vQ : Nat -> Int32) (H : Heap) (locs : List Loc) (ls : Array Slot), next x1 x2 rJ pX rO vQ -> va_P (dC, dI) classes (aCM cI cC cZ cB cJ xH xB vI uJ rW uQ uP uO wY xO tJ jJ mY pG pD pE eO oY rJ pX rO rD sG vQ dN bD bJ aI mX oE dY jE eW eY dU fY gJ jG nU) H -> va_D A (aCM cI cC cZ cB cJ xH xB vI uJ rW uQ uP uO wY xO tJ jJ mY pG pD pE eO oY rJ pX rO rD sG vQ dN bD bJ aI mX oE dY jE eW eY dU fY gJ jG nU) -> va_S A s.heap H locs -> lv_has ls 4 [(0, .ref xH), (1, .int x1), (2, .int x2)] -> W p l e aNK s m args below meth c H locs 0 0 (MQ below (aNS dC dI cI cC cZ cB cJ A xH xB vI uJ rW uQ uP uO wY xO tJ jJ mY pG pD pE eO oY rD sG dN bD bJ aI mX oE dY jE eW eY dU fY gJ jG nU post) args s 0 0 A) (F0 m 2 ls [])) : ∀ (x1 x2 rJ pX rO : Int32) (vQ : Nat -> Int32) (H : Heap) (locs : List Loc) (ls : Array Slot), (ws_X5_workSeconds_2 post next oY rD sG dN bD mX oE dY fY) x1 x2 rJ pX rO vQ -> va_P (dC, dI) classes (aCM cI cC cZ cB cJ xH xB vI uJ rW uQ uP uO wY xO tJ jJ mY pG pD pE eO oY rJ pX rO rD sG vQ dN bD bJ aI mX oE dY jE eW eY dU fY gJ jG nU) H -> va_D A (aCM cI cC cZ cB cJ xH xB vI uJ rW uQ uP uO wY xO tJ jJ mY pG pD pE eO oY rJ pX rO rD sG vQ dN bD bJ aI mX oE dY jE eW eY dU fY gJ jG nU) -> va_S A s.heap H locs -> lv_has ls 4 [(0, .ref xH), (1, .int x1), (2, .int x2)] -> W p l e aNK s m args below meth c H locs 0 0 (MQ below (aNS dC dI cI cC cZ cB cJ A xH xB vI uJ rW uQ uP uO wY xO tJ jJ mY pG pD pE eO oY rD sG dN bD bJ aI mX oE dY jE eW eY dU fY gJ jG nU post) args s 0 0 A) (F0 m 2 ls []) := by
  obtain ⟨hx, hb, hr, hml, hown, hts, hlocks, hA, hK, hN, tL, tM, hZL, hTL, hZM, hTM, hZX⟩ := id C0
  intro x1 x2 rJ pX rO vQ H locs ls hp hP hD hS hl
  unfold ws_X5_workSeconds_2 at hp
  refine lv_iload_n hx hb aK2.2.2.1 rfl (lv_at hl 2 rfl) ?_
  refine lv_bipush (v := 8) hx hb aK2.2.2.2.1 bp_8 ?_
  refine lv_icmp_ge (tgt := 21) hx hb aK2.2.2.2.2.1 (by decide) (fun hc => ?_) (fun hc => ?_)
  · have hp := hp.1 hc
    refine lv_aload_n hx hb aK2.2.2.2.2.2.2.2.2.2.2.2.2.1 rfl (lv_at hl 0 rfl) ?_
    refine lv_iconst (v := 0) hx hb aK2.2.2.2.2.2.2.2.2.2.2.2.2.2.1 aCi ?_
    refine va_put (D := (dC, dI)) (ci := 5) (v := .int 0) (ty := .int) (C := RX5) (T := TX5) (N := 11) hx hb hts i_X5 tyX5 tyX5_ok nmX5 hown hK hP hD hS 0 rfl rfl 9 (lbz rfl) (hts _ q_509) (fun _ h9 => h9) rfl (tyX5_ok 9 (lbz rfl)) rfl rfl (lbz rfl) aK2.2.2.2.2.2.2.2.2.2.2.2.2.2.2.1 (fun H locs hP hD hS => ?_)
    have hPD := PDw (ws' := (aCM cI cC cZ cB cJ xH xB vI uJ rW uQ uP uO wY xO tJ jJ mY pG pD pE eO oY rJ 0 rO rD sG vQ dN bD bJ aI mX oE dY jE eW eY dU fY gJ jG nU)) hP hD rfl
    have hP := hPD.1
    have hD := hPD.2
    refine lv_iconst (v := 0) hx hb aK2.2.2.2.2.2.2.2.2.2.2.2.2.2.2.2 aCi ?_
    refine lv_istore_n (lv' := [(2, .int 0), (0, .ref xH), (1, .int x1)]) hx hb aJv.1 rfl hl (by decide) rfl (fun ls hl => ?_)
    obtain ⟨n9, hp⟩ := hp
    exact kb_X5_workSeconds_28 C0 n9 x1 0 rJ 0 rO vQ H locs ls hp hP hD hS (lv_sub hl [1, 2, 0] rfl)
  · have hp := hp.2 hc
    refine lv_aload_n hx hb aK2.2.2.2.2.2.1 rfl (lv_at hl 0 rfl) ?_
    refine va_get (D := (dC, dI)) (ci := 5) (v := .ref uQ) (C := RX5) (T := TX5) (N := 11) hx hb hts i_X5 hown hK hP 0 rfl rfl 4 (lbz rfl) (hts _ q_515) (fun _ h9 => h9) rfl aK2.2.2.2.2.2.2.1 ?_
    refine lv_iload_n hx hb aK2.2.2.2.2.2.2.2.1 rfl (lv_at hl 2 rfl) ?_
    refine lv_iconst (v := 0) hx hb aK2.2.2.2.2.2.2.2.2.1 aCi ?_
    have hin := hp.1
    have hp := hp.2
    refine va_iast hx hb hK hP hD hS 3 0 rfl rfl hin aK2.2.2.2.2.2.2.2.2.2.1 (fun H locs hP hD hS => ?_)
    have hPD := PDw (ws' := (aCM cI cC cZ cB cJ xH xB vI uJ rW uQ uP uO wY xO tJ jJ mY pG pD pE eO oY rJ pX rO rD sG (upd vQ x2.toNatClampNeg 0) dN bD bJ aI mX oE dY jE eW eY dU fY gJ jG nU)) hP hD rfl
    have hP := hPD.1
    have hD := hPD.2
    obtain ⟨aHb, ev_16⟩ : ∃ y : Int32, y = x2 + 1 := ⟨_, rfl⟩
    refine lv_iinc (v := aHb) (lv' := [(2, .int aHb), (0, .ref xH), (1, .int x1)]) hx hb aK2.2.2.2.2.2.2.2.2.2.2.1 hl (k := 2) rfl (by rw [ev_16]; rfl) (by decide) rfl (fun ls hl => ?_)
    have hp := hp aHb ev_16
    refine lv_goto (tgt := 2) hx hb aK2.2.2.2.2.2.2.2.2.2.2.2.1 (by decide) ?_
    exact hKn x1 aHb rJ pX rO (upd vQ x2.toNatClampNeg 0) H locs ls hp hP hD hS (lv_sub hl [1, 2, 0] rfl)
set_option maxHeartbeats 4000000 in
set_option maxRecDepth 100000 in
theorem kb_X5_workSeconds_2 (C0 : gc aA3 (some .int) 4 RX5 (dC, dI) (tyl cI cC cZ cB cJ) A p s m args meth c) : ∀ (n : Nat), ∀ (x1 x2 rJ pX rO : Int32) (vQ : Nat -> Int32) (H : Heap) (locs : List Loc) (ls : Array Slot), (wb_X5_workSeconds_2 post oY rD sG dN bD mX oE dY fY n) x1 x2 rJ pX rO vQ -> va_P (dC, dI) classes (aCM cI cC cZ cB cJ xH xB vI uJ rW uQ uP uO wY xO tJ jJ mY pG pD pE eO oY rJ pX rO rD sG vQ dN bD bJ aI mX oE dY jE eW eY dU fY gJ jG nU) H -> va_D A (aCM cI cC cZ cB cJ xH xB vI uJ rW uQ uP uO wY xO tJ jJ mY pG pD pE eO oY rJ pX rO rD sG vQ dN bD bJ aI mX oE dY jE eW eY dU fY gJ jG nU) -> va_S A s.heap H locs -> lv_has ls 4 [(0, .ref xH), (1, .int x1), (2, .int x2)] -> W p l e aNK s m args below meth c H locs 0 0 (MQ below (aNS dC dI cI cC cZ cB cJ A xH xB vI uJ rW uQ uP uO wY xO tJ jJ mY pG pD pE eO oY rD sG dN bD bJ aI mX oE dY jE eW eY dU fY gJ jG nU post) args s 0 0 A) (F0 m 2 ls []) := by
  intro n
  induction n with
  | zero =>
    intro x1 x2 rJ pX rO vQ H locs ls hp
    exact False.elim hp
  | succ n ih =>
    intro x1 x2 rJ pX rO vQ H locs ls hp
    exact ks_X5_workSeconds_2 C0 ih x1 x2 rJ pX rO vQ H locs ls hp
end S_X5_workSeconds
def wp_X5_workSeconds (post : Int32 -> Int32 -> Int32 -> Int32 -> (Nat -> Int32) -> Prop) (p0 oY rJ pX rO : Int32) (rD sG vQ : Nat -> Int32) (dN bD : Int32) (mX oE dY : Nat -> Int32) (fY : Int32) : Prop := ∃ n : Nat, wb_X5_workSeconds_2 post oY rD sG dN bD mX oE dY fY n p0 0 rJ pX rO vQ
set_option maxHeartbeats 4000000 in
set_option maxRecDepth 100000 in
theorem c_X5_workSeconds (l : Launch) (dC : Nat -> ClassId) (dI : Nat -> Nat -> Nat) (cI cC cZ cB cJ : ClassId) (xH xB vI uJ rW uQ uP uO wY xO tJ jJ mY pG pD pE eO sz : Nat) (p0 oY rJ pX rO : Int32) (rD sG vQ : Nat -> Int32) (dN bD bJ aI : Int32) (mX oE dY : Nat -> Int32) (jE eW eY dU fY gJ jG nU : Int32) (post : Int32 -> Int32 -> Int32 -> Int32 -> (Nat -> Int32) -> Prop) (hw : wp_X5_workSeconds post p0 oY rJ pX rO rD sG vQ dN bD mX oE dY fY) : Met l bCP (gw bCP aA3 4 (some .int)) aNK (va_Pc [.ref xH, .int p0] (gPre (dC, dI) (tyl cI cC cZ cB cJ) (aCM cI cC cZ cB cJ xH xB vI uJ rW uQ uP uO wY xO tJ jJ mY pG pD pE eO oY rJ pX rO rD sG vQ dN bD bJ aI mX oE dY jE eW eY dU fY gJ jG nU) sz)) (aNS dC dI cI cC cZ cB cJ (va_A (aCM cI cC cZ cB cJ xH xB vI uJ rW uQ uP uO wY xO tJ jJ mY pG pD pE eO oY rJ pX rO rD sG vQ dN bD bJ aI mX oE dY jE eW eY dU fY gJ jG nU) sz) xH xB vI uJ rW uQ uP uO wY xO tJ jJ mY pG pD pE eO oY rD sG dN bD bJ aI mX oE dY jE eW eY dU fY gJ jG nU post) 0 0 (va_A (aCM cI cC cZ cB cJ xH xB vI uJ rW uQ uP uO wY xO tJ jJ mY pG pD pE eO oY rJ pX rO rD sG vQ dN bD bJ aI mX oE dY jE eW eY dU fY gJ jG nU) sz) := by
  refine aBJ (own := RX5) (dC, dI) (tyl cI cC cZ cB cJ) (aCM cI cC cZ cB cJ xH xB vI uJ rW uQ uP uO wY xO tJ jJ mY pG pD pE eO oY rJ pX rO rD sG vQ dN bD bJ aI mX oE dY jE eW eY dU fY gJ jG nU) sz [.ref xH, .int p0] (fun A => aNS dC dI cI cC cZ cB cJ A xH xB vI uJ rW uQ uP uO wY xO tJ jJ mY pG pD pE eO oY rD sG dN bD bJ aI mX oE dY jE eW eY dU fY gJ jG nU post) pn_RX5 rfl (lbz rfl) ?_
  intro p e s m args below meth c A H locs ls C0 hP hD hS hl
  have hl : lv_has ls 4 [(0, .ref xH), (1, .int p0)] := hl
  obtain ⟨hx, hb, hr, hml, hown, hts, hlocks, hA, hK, hN, tL, tM, hZL, hTL, hZM, hTM, hZX⟩ := id C0
  have hp := hw
  unfold wp_X5_workSeconds at hp
  refine lv_iconst (v := 0) hx hb aK2.1 aCi ?_
  refine lv_istore_n (lv' := [(2, .int 0), (0, .ref xH), (1, .int p0)]) hx hb aK2.2.1 rfl hl (by decide) rfl (fun ls hl => ?_)
  obtain ⟨n9, hp⟩ := hp
  exact kb_X5_workSeconds_2 C0 n9 p0 0 rJ pX rO vQ H locs ls hp hP hD hS (lv_sub hl [1, 2, 0] rfl)
