abbrev aIO (cI cC cZ cB cJ : ClassId) (a_x xI xH xB vI wY xX yA xY uD uJ rW uQ uP uO xO tJ jJ mY pG pD pE eO rG : Nat) (oY rJ pX rO : Int32) (rD : Nat -> Int32) (dN bD bJ aI : Int32) (uU gF qF mX oE dY : Nat -> Int32) (jE eW eY dU fY gJ jG nU qB : Int32) (jK : Nat -> Int32) : va_W := [(a_x, .inr (9, [.ref xI, .ref xH, .ref xB, .ref vI, .ref wY, .ref xX, .ref yA, .ref xY, .ref uD])), (xH, .inr (5, [.ref xB, .ref vI, .ref uJ, .ref rW, .ref uQ, .ref uP, .ref uO, .int oY, .int rJ, .int pX, .int rO])), (uJ, .inl (cI, 8, .inl rD)), (xB, .inr (0, [.ref vI, .ref wY, .ref xO])), (vI, .inr (3, [.ref tJ, .ref jJ, .ref mY, .ref pG, .ref pD, .ref pE, .ref eO, .int dN, .int bD, .int bJ, .int aI])), (tJ, .inl (cI, 16, .inl uU)), (jJ, .inl (cI, 16, .inl gF)), (pG, .inl (cI, 16, .inl qF)), (pD, .inl (cI, 8, .inl mX)), (pE, .inl (cI, 8, .inl oE)), (eO, .inl (cI, 5, .inl dY)), (wY, .inr (2, [.int jE, .int eW, .int eY, .int dU, .int fY, .int gJ, .int jG, .int nU])), (yA, .inr (6, [.ref rG, .int qB])), (rG, .inl (cI, 16, .inl jK))]
abbrev q_X9_fits (dC : Nat -> ClassId) (dI : Nat -> Nat -> Nat) (cI cC cZ cB cJ : ClassId) (A : Nat -> Prop) (a_x xI xH xB vI wY xX yA xY uD uJ rW uQ uP uO xO tJ jJ mY pG pD pE eO rG : Nat) (rJ pX rO dN bD bJ aI : Int32) (uU gF qF mX oE dY : Nat -> Int32) (jE eW eY dU fY gJ jG nU : Int32) (post : Int32 -> Int32 -> (Nat -> Int32) -> Int32 -> (Nat -> Int32) -> Prop) : Array Value -> State -> Outcome -> State -> Prop := va_Qi (fun (r : Int32) (u : Int32 × (Nat -> Int32) × Int32 × (Nat -> Int32)) => post r u.1 u.2.1 u.2.2.1 u.2.2.2) (fun u t => gB (dC, dI) (tyl cI cC cZ cB cJ) A (aIO cI cC cZ cB cJ a_x xI xH xB vI wY xX yA xY uD uJ rW uQ uP uO xO tJ jJ mY pG pD pE eO rG u.1 rJ pX rO u.2.1 dN bD bJ aI uU gF qF mX oE dY jE eW eY dU fY gJ jG nU u.2.2.1 u.2.2.2) t) A
abbrev rm_X9_fits : Room := { frames := 5, cells := 0, slots := 0, locals := 115 }
section S_X9_fits
variable {p : Program} {l : Launch} {e : Env} {s : State} {m : MethodId} {args : Array Value} {below : List Frame} {meth : Method} {c : Code} {dC : Nat -> ClassId} {dI : Nat -> Nat -> Nat} {cI cC cZ cB cJ : ClassId} {A : Nat -> Prop} {a_x xI xH xB vI wY xX yA xY uD uJ rW uQ uP uO xO tJ jJ mY pG pD pE eO rG : Nat} {rJ pX rO dN bD bJ aI : Int32} {uU gF qF mX oE dY : Nat -> Int32} {jE eW eY dU fY gJ jG nU : Int32} {post : Int32 -> Int32 -> (Nat -> Int32) -> Int32 -> (Nat -> Int32) -> Prop}
def ws_X9_fits_104 (post : Int32 -> Int32 -> (Nat -> Int32) -> Int32 -> (Nat -> Int32) -> Prop) (K33 : Int32 -> Int32 -> Int32 -> Int32 -> Int32 -> Int32 -> (Nat -> Int32) -> Int32 -> (Nat -> Int32) -> Prop) (dN bD : Int32) (uU gF qF mX oE dY : Nat -> Int32) (jE eW eY gJ jG x1 x2 x3 x4 x5 oY : Int32) (rD : Nat -> Int32) (qB : Int32) (jK : Nat -> Int32) : Prop := ∀ v_8 : Int32, v_8 = x5 + 1 -> K33 x1 x2 x3 x4 v_8 oY rD qB jK
set_option maxHeartbeats 4000000 in
set_option maxRecDepth 100000 in
theorem ks_X9_fits_104 (C0 : gc aFM (some .int) 6 RX9 (dC, dI) (tyl cI cC cZ cB cJ) A p s m args meth c) {K33 : Int32 -> Int32 -> Int32 -> Int32 -> Int32 -> Int32 -> (Nat -> Int32) -> Int32 -> (Nat -> Int32) -> Prop} (hK33 : ∀ (x1 : Int32) (x2 : Int32) (x3 : Int32) (x4 : Int32) (x5 : Int32) (oY : Int32) (rD : Nat -> Int32) (qB : Int32) (jK : Nat -> Int32) (H : Heap) (locs : List Loc) (ls : Array Slot), K33 x1 x2 x3 x4 x5 oY rD qB jK -> va_P (dC, dI) classes (aIO cI cC cZ cB cJ a_x xI xH xB vI wY xX yA xY uD uJ rW uQ uP uO xO tJ jJ mY pG pD pE eO rG oY rJ pX rO rD dN bD bJ aI uU gF qF mX oE dY jE eW eY dU fY gJ jG nU qB jK) H -> va_D A (aIO cI cC cZ cB cJ a_x xI xH xB vI wY xX yA xY uD uJ rW uQ uP uO xO tJ jJ mY pG pD pE eO rG oY rJ pX rO rD dN bD bJ aI uU gF qF mX oE dY jE eW eY dU fY gJ jG nU qB jK) -> va_S A s.heap H locs -> lv_has ls 6 [(0, .ref a_x), (1, .int x1), (2, .int x2), (3, .int x3), (4, .int x4), (5, .int x5)] -> W p l e rm_X9_fits s m args below meth c H locs 0 0 (MQ below (q_X9_fits dC dI cI cC cZ cB cJ A a_x xI xH xB vI wY xX yA xY uD uJ rW uQ uP uO xO tJ jJ mY pG pD pE eO rG rJ pX rO dN bD bJ aI uU gF qF mX oE dY jE eW eY dU fY gJ jG nU post) args s 0 0 A) (F0 m 33 ls [])) : ∀ (x1 x2 x3 x4 x5 oY : Int32) (rD : Nat -> Int32) (qB : Int32) (jK : Nat -> Int32) (H : Heap) (locs : List Loc) (ls : Array Slot), (ws_X9_fits_104 post K33 dN bD uU gF qF mX oE dY jE eW eY gJ jG) x1 x2 x3 x4 x5 oY rD qB jK -> va_P (dC, dI) classes (aIO cI cC cZ cB cJ a_x xI xH xB vI wY xX yA xY uD uJ rW uQ uP uO xO tJ jJ mY pG pD pE eO rG oY rJ pX rO rD dN bD bJ aI uU gF qF mX oE dY jE eW eY dU fY gJ jG nU qB jK) H -> va_D A (aIO cI cC cZ cB cJ a_x xI xH xB vI wY xX yA xY uD uJ rW uQ uP uO xO tJ jJ mY pG pD pE eO rG oY rJ pX rO rD dN bD bJ aI uU gF qF mX oE dY jE eW eY dU fY gJ jG nU qB jK) -> va_S A s.heap H locs -> lv_has ls 6 [(0, .ref a_x), (1, .int x1), (2, .int x2), (3, .int x3), (4, .int x4), (5, .int x5)] -> W p l e rm_X9_fits s m args below meth c H locs 0 0 (MQ below (q_X9_fits dC dI cI cC cZ cB cJ A a_x xI xH xB vI wY xX yA xY uD uJ rW uQ uP uO xO tJ jJ mY pG pD pE eO rG rJ pX rO dN bD bJ aI uU gF qF mX oE dY jE eW eY dU fY gJ jG nU post) args s 0 0 A) (F0 m 104 ls []) := by
  obtain ⟨hx, hb, hr, hml, hown, hts, hlocks, hA, hK, hN, tL, tM, hZL, hTL, hZM, hTM, hZX⟩ := id C0
  intro x1 x2 x3 x4 x5 oY rD qB jK H locs ls hp hP hD hS hl
  unfold ws_X9_fits_104 at hp
  obtain ⟨v_8, ev_8⟩ : ∃ y : Int32, y = x5 + 1 := ⟨_, rfl⟩
  refine lv_iinc (v := v_8) (lv' := [(5, .int v_8), (0, .ref a_x), (1, .int x1), (2, .int x2), (3, .int x3), (4, .int x4)]) hx hb eX9_fits_92.2.2.2.2.2.1 hl (k := 5) rfl (by rw [ev_8]; rfl) (by decide) rfl (fun ls hl => ?_)
  have hp := hp v_8 ev_8
  refine lv_goto (tgt := 33) hx hb eX9_fits_92.2.2.2.2.2.2.1 (by decide) ?_
  exact hK33 x1 x2 x3 x4 v_8 oY rD qB jK H locs ls hp hP hD hS (lv_sub hl [1, 2, 3, 4, 5, 0] rfl)
def ws_X9_fits_100 (post : Int32 -> Int32 -> (Nat -> Int32) -> Int32 -> (Nat -> Int32) -> Prop) (K33 : Int32 -> Int32 -> Int32 -> Int32 -> Int32 -> Int32 -> (Nat -> Int32) -> Int32 -> (Nat -> Int32) -> Prop) (dN bD : Int32) (uU gF qF mX oE dY : Nat -> Int32) (jE eW eY gJ jG x1 x2 x3 x5 oY : Int32) (rD : Nat -> Int32) (qB : Int32) (jK : Nat -> Int32) : Prop := ws_X9_fits_104 post K33 dN bD uU gF qF mX oE dY jE eW eY gJ jG x1 x2 x3 x5 x5 oY rD qB jK
set_option maxHeartbeats 4000000 in
set_option maxRecDepth 100000 in
theorem ks_X9_fits_100 (C0 : gc aFM (some .int) 6 RX9 (dC, dI) (tyl cI cC cZ cB cJ) A p s m args meth c) {K33 : Int32 -> Int32 -> Int32 -> Int32 -> Int32 -> Int32 -> (Nat -> Int32) -> Int32 -> (Nat -> Int32) -> Prop} (hK33 : ∀ (x1 : Int32) (x2 : Int32) (x3 : Int32) (x4 : Int32) (x5 : Int32) (oY : Int32) (rD : Nat -> Int32) (qB : Int32) (jK : Nat -> Int32) (H : Heap) (locs : List Loc) (ls : Array Slot), K33 x1 x2 x3 x4 x5 oY rD qB jK -> va_P (dC, dI) classes (aIO cI cC cZ cB cJ a_x xI xH xB vI wY xX yA xY uD uJ rW uQ uP uO xO tJ jJ mY pG pD pE eO rG oY rJ pX rO rD dN bD bJ aI uU gF qF mX oE dY jE eW eY dU fY gJ jG nU qB jK) H -> va_D A (aIO cI cC cZ cB cJ a_x xI xH xB vI wY xX yA xY uD uJ rW uQ uP uO xO tJ jJ mY pG pD pE eO rG oY rJ pX rO rD dN bD bJ aI uU gF qF mX oE dY jE eW eY dU fY gJ jG nU qB jK) -> va_S A s.heap H locs -> lv_has ls 6 [(0, .ref a_x), (1, .int x1), (2, .int x2), (3, .int x3), (4, .int x4), (5, .int x5)] -> W p l e rm_X9_fits s m args below meth c H locs 0 0 (MQ below (q_X9_fits dC dI cI cC cZ cB cJ A a_x xI xH xB vI wY xX yA xY uD uJ rW uQ uP uO xO tJ jJ mY pG pD pE eO rG rJ pX rO dN bD bJ aI uU gF qF mX oE dY jE eW eY dU fY gJ jG nU post) args s 0 0 A) (F0 m 33 ls [])) : ∀ (x1 x2 x3 x5 oY : Int32) (rD : Nat -> Int32) (qB : Int32) (jK : Nat -> Int32) (H : Heap) (locs : List Loc) (ls : Array Slot), (ws_X9_fits_100 post K33 dN bD uU gF qF mX oE dY jE eW eY gJ jG) x1 x2 x3 x5 oY rD qB jK -> va_P (dC, dI) classes (aIO cI cC cZ cB cJ a_x xI xH xB vI wY xX yA xY uD uJ rW uQ uP uO xO tJ jJ mY pG pD pE eO rG oY rJ pX rO rD dN bD bJ aI uU gF qF mX oE dY jE eW eY dU fY gJ jG nU qB jK) H -> va_D A (aIO cI cC cZ cB cJ a_x xI xH xB vI wY xX yA xY uD uJ rW uQ uP uO xO tJ jJ mY pG pD pE eO rG oY rJ pX rO rD dN bD bJ aI uU gF qF mX oE dY jE eW eY dU fY gJ jG nU qB jK) -> va_S A s.heap H locs -> lv_has ls 6 [(0, .ref a_x), (1, .int x1), (2, .int x2), (3, .int x3), (5, .int x5)] -> W p l e rm_X9_fits s m args below meth c H locs 0 0 (MQ below (q_X9_fits dC dI cI cC cZ cB cJ A a_x xI xH xB vI wY xX yA xY uD uJ rW uQ uP uO xO tJ jJ mY pG pD pE eO rG rJ pX rO dN bD bJ aI uU gF qF mX oE dY jE eW eY dU fY gJ jG nU post) args s 0 0 A) (F0 m 100 ls []) := by
  obtain ⟨hx, hb, hr, hml, hown, hts, hlocks, hA, hK, hN, tL, tM, hZL, hTL, hZM, hTM, hZX⟩ := id C0
  intro x1 x2 x3 x5 oY rD qB jK H locs ls hp hP hD hS hl
  unfold ws_X9_fits_100 at hp
  refine lv_iload hx hb eX9_fits_92.2.2.2.1 (lv_at hl 4 rfl) ?_
  refine lv_istore (lv' := [(4, .int x5), (0, .ref a_x), (1, .int x1), (2, .int x2), (3, .int x3), (5, .int x5)]) hx hb eX9_fits_92.2.2.2.2.1 hl (by decide) rfl (fun ls hl => ?_)
  exact ks_X9_fits_104 C0 hK33 x1 x2 x3 x5 x5 oY rD qB jK H locs ls hp hP hD hS (lv_sub hl [1, 2, 3, 4, 0, 5] rfl)
def ws_X9_fits_81 (post : Int32 -> Int32 -> (Nat -> Int32) -> Int32 -> (Nat -> Int32) -> Prop) (K33 : Int32 -> Int32 -> Int32 -> Int32 -> Int32 -> Int32 -> (Nat -> Int32) -> Int32 -> (Nat -> Int32) -> Prop) (dN bD : Int32) (uU gF qF mX oE dY : Nat -> Int32) (jE eW eY gJ jG x1 x2 x3 x4 x5 oY : Int32) (rD : Nat -> Int32) (qB : Int32) (jK : Nat -> Int32) : Prop := (x4 = (-1) -> ws_X9_fits_100 post K33 dN bD uU gF qF mX oE dY jE eW eY gJ jG x1 x2 x3 x5 oY rD qB jK) /\ (¬ x4 = (-1) -> aBb (fun r_10 => aBb (fun r_11 => (r_10 <= r_11 -> ws_X9_fits_104 post K33 dN bD uU gF qF mX oE dY jE eW eY gJ jG x1 x2 x3 x4 x5 oY rD qB jK) /\ (¬ r_10 <= r_11 -> ws_X9_fits_100 post K33 dN bD uU gF qF mX oE dY jE eW eY gJ jG x1 x2 x3 x5 oY rD qB jK)) x4) x5)
set_option maxHeartbeats 4000000 in
set_option maxRecDepth 100000 in
theorem ks_X9_fits_81 (C0 : gc aFM (some .int) 6 RX9 (dC, dI) (tyl cI cC cZ cB cJ) A p s m args meth c) {K33 : Int32 -> Int32 -> Int32 -> Int32 -> Int32 -> Int32 -> (Nat -> Int32) -> Int32 -> (Nat -> Int32) -> Prop} (hK33 : ∀ (x1 : Int32) (x2 : Int32) (x3 : Int32) (x4 : Int32) (x5 : Int32) (oY : Int32) (rD : Nat -> Int32) (qB : Int32) (jK : Nat -> Int32) (H : Heap) (locs : List Loc) (ls : Array Slot), K33 x1 x2 x3 x4 x5 oY rD qB jK -> va_P (dC, dI) classes (aIO cI cC cZ cB cJ a_x xI xH xB vI wY xX yA xY uD uJ rW uQ uP uO xO tJ jJ mY pG pD pE eO rG oY rJ pX rO rD dN bD bJ aI uU gF qF mX oE dY jE eW eY dU fY gJ jG nU qB jK) H -> va_D A (aIO cI cC cZ cB cJ a_x xI xH xB vI wY xX yA xY uD uJ rW uQ uP uO xO tJ jJ mY pG pD pE eO rG oY rJ pX rO rD dN bD bJ aI uU gF qF mX oE dY jE eW eY dU fY gJ jG nU qB jK) -> va_S A s.heap H locs -> lv_has ls 6 [(0, .ref a_x), (1, .int x1), (2, .int x2), (3, .int x3), (4, .int x4), (5, .int x5)] -> W p l e rm_X9_fits s m args below meth c H locs 0 0 (MQ below (q_X9_fits dC dI cI cC cZ cB cJ A a_x xI xH xB vI wY xX yA xY uD uJ rW uQ uP uO xO tJ jJ mY pG pD pE eO rG rJ pX rO dN bD bJ aI uU gF qF mX oE dY jE eW eY dU fY gJ jG nU post) args s 0 0 A) (F0 m 33 ls [])) : ∀ (x1 x2 x3 x4 x5 oY : Int32) (rD : Nat -> Int32) (qB : Int32) (jK : Nat -> Int32) (H : Heap) (locs : List Loc) (ls : Array Slot), (ws_X9_fits_81 post K33 dN bD uU gF qF mX oE dY jE eW eY gJ jG) x1 x2 x3 x4 x5 oY rD qB jK -> va_P (dC, dI) classes (aIO cI cC cZ cB cJ a_x xI xH xB vI wY xX yA xY uD uJ rW uQ uP uO xO tJ jJ mY pG pD pE eO rG oY rJ pX rO rD dN bD bJ aI uU gF qF mX oE dY jE eW eY dU fY gJ jG nU qB jK) H -> va_D A (aIO cI cC cZ cB cJ a_x xI xH xB vI wY xX yA xY uD uJ rW uQ uP uO xO tJ jJ mY pG pD pE eO rG oY rJ pX rO rD dN bD bJ aI uU gF qF mX oE dY jE eW eY dU fY gJ jG nU qB jK) -> va_S A s.heap H locs -> lv_has ls 6 [(0, .ref a_x), (1, .int x1), (2, .int x2), (3, .int x3), (4, .int x4), (5, .int x5)] -> W p l e rm_X9_fits s m args below meth c H locs 0 0 (MQ below (q_X9_fits dC dI cI cC cZ cB cJ A a_x xI xH xB vI wY xX yA xY uD uJ rW uQ uP uO xO tJ jJ mY pG pD pE eO rG rJ pX rO dN bD bJ aI uU gF qF mX oE dY jE eW eY dU fY gJ jG nU post) args s 0 0 A) (F0 m 81 ls []) := by
  obtain ⟨hx, hb, hr, hml, hown, hts, hlocks, hA, hK, hN, tL, tM, hZL, hTL, hZM, hTM, hZX⟩ := id C0
  intro x1 x2 x3 x4 x5 oY rD qB jK H locs ls hp hP hD hS hl
  unfold ws_X9_fits_81 at hp
  refine lv_iload hx hb bAd.2.2.2.2.2.2.2.2.2.2.2.1 (lv_at hl 4 rfl) ?_
  refine lv_iconst (v := (-1)) hx hb bAd.2.2.2.2.2.2.2.2.2.2.2.2.1 aEJ ?_
  refine lv_icmp_eq (tgt := 100) hx hb bAd.2.2.2.2.2.2.2.2.2.2.2.2.2.1 (by decide) (fun hc => ?_) (fun hc => ?_)
  · have hp := hp.1 hc
    exact ks_X9_fits_100 C0 hK33 x1 x2 x3 x5 oY rD qB jK H locs ls hp hP hD hS (lv_sub hl [0, 1, 2, 3, 5] rfl)
  · have hp := hp.2 hc
    refine lv_iload hx hb bAd.2.2.2.2.2.2.2.2.2.2.2.2.2.2.1 (lv_at hl 5 rfl) ?_
    have hm := mgk (wc := (aBh cI cC cZ cB cJ)) hP aJ7 14 rfl rfl rfl
    refine yW hP hD hS hA (yS aJ7) (aAi aJ7) hm.1 hm.2 (aAk _) (zW _) (aDn (As := [.int x5]) (rest := []) C0 hP hD hS (yS aJ7) hm.1 (aAl _) (aBv l dC dI cI cC cZ cB cJ H.size x5 _ hp) q_320 q_474 q_322 q_321 aBw rfl rfl ⟨lbz rfl, lbz rfl⟩ rfl rfl hl.1 rfl (lv_room (lbz rfl)) bAd.2.2.2.2.2.2.2.2.2.2.2.2.2.2.2 ⟨Nat.zero_le _, Nat.zero_le _⟩) (fun r_10 u H locs hp hP hD hS => ?_)
    have hPD := PDm (ws' := (aIO cI cC cZ cB cJ a_x xI xH xB vI wY xX yA xY uD uJ rW uQ uP uO xO tJ jJ mY pG pD pE eO rG oY rJ pX rO rD dN bD bJ aI uU gF qF mX oE dY jE eW eY dU fY gJ jG nU qB jK)) hP hD 14 rfl rfl rfl
    have hP := hPD.1
    have hD := hPD.2
    refine lv_iload hx hb eX9_fits_92.1 (lv_at hl 4 rfl) ?_
    have hm := mgk (wc := (aBh cI cC cZ cB cJ)) hP aJ7 14 rfl rfl rfl
    refine yW hP hD hS hA (yS aJ7) (aAi aJ7) hm.1 hm.2 (aAk _) (zW _) (aDn (As := [.int x4]) (rest := [.int r_10]) C0 hP hD hS (yS aJ7) hm.1 (aAl _) (aBv l dC dI cI cC cZ cB cJ H.size x4 _ hp) q_320 q_474 q_322 q_321 aBw rfl rfl ⟨lbz rfl, lbz rfl⟩ rfl rfl hl.1 rfl (lv_room (lbz rfl)) eX9_fits_92.2.1 ⟨Nat.zero_le _, Nat.zero_le _⟩) (fun r_11 u H locs hp hP hD hS => ?_)
    have hPD := PDm (ws' := (aIO cI cC cZ cB cJ a_x xI xH xB vI wY xX yA xY uD uJ rW uQ uP uO xO tJ jJ mY pG pD pE eO rG oY rJ pX rO rD dN bD bJ aI uU gF qF mX oE dY jE eW eY dU fY gJ jG nU qB jK)) hP hD 14 rfl rfl rfl
    have hP := hPD.1
    have hD := hPD.2
    refine lv_icmp_le (tgt := 104) hx hb eX9_fits_92.2.2.1 (by decide) (fun hc => ?_) (fun hc => ?_)
    · have hp := hp.1 hc
      exact ks_X9_fits_104 C0 hK33 x1 x2 x3 x4 x5 oY rD qB jK H locs ls hp hP hD hS (lv_sub hl [0, 1, 2, 3, 4, 5] rfl)
    · have hp := hp.2 hc
      exact ks_X9_fits_100 C0 hK33 x1 x2 x3 x5 oY rD qB jK H locs ls hp hP hD hS (lv_sub hl [0, 1, 2, 3, 5] rfl)
def ws_X9_fits_78 (post : Int32 -> Int32 -> (Nat -> Int32) -> Int32 -> (Nat -> Int32) -> Prop) (K33 : Int32 -> Int32 -> Int32 -> Int32 -> Int32 -> Int32 -> (Nat -> Int32) -> Int32 -> (Nat -> Int32) -> Prop) (dN bD : Int32) (uU gF qF mX oE dY : Nat -> Int32) (jE eW eY gJ jG x1 x2 x4 x5 oY : Int32) (rD : Nat -> Int32) (qB : Int32) (jK : Nat -> Int32) : Prop := ws_X9_fits_81 post K33 dN bD uU gF qF mX oE dY jE eW eY gJ jG x1 x2 x5 x4 x5 oY rD qB jK
set_option maxHeartbeats 4000000 in
set_option maxRecDepth 100000 in
theorem ks_X9_fits_78 (C0 : gc aFM (some .int) 6 RX9 (dC, dI) (tyl cI cC cZ cB cJ) A p s m args meth c) {K33 : Int32 -> Int32 -> Int32 -> Int32 -> Int32 -> Int32 -> (Nat -> Int32) -> Int32 -> (Nat -> Int32) -> Prop} (hK33 : ∀ (x1 : Int32) (x2 : Int32) (x3 : Int32) (x4 : Int32) (x5 : Int32) (oY : Int32) (rD : Nat -> Int32) (qB : Int32) (jK : Nat -> Int32) (H : Heap) (locs : List Loc) (ls : Array Slot), K33 x1 x2 x3 x4 x5 oY rD qB jK -> va_P (dC, dI) classes (aIO cI cC cZ cB cJ a_x xI xH xB vI wY xX yA xY uD uJ rW uQ uP uO xO tJ jJ mY pG pD pE eO rG oY rJ pX rO rD dN bD bJ aI uU gF qF mX oE dY jE eW eY dU fY gJ jG nU qB jK) H -> va_D A (aIO cI cC cZ cB cJ a_x xI xH xB vI wY xX yA xY uD uJ rW uQ uP uO xO tJ jJ mY pG pD pE eO rG oY rJ pX rO rD dN bD bJ aI uU gF qF mX oE dY jE eW eY dU fY gJ jG nU qB jK) -> va_S A s.heap H locs -> lv_has ls 6 [(0, .ref a_x), (1, .int x1), (2, .int x2), (3, .int x3), (4, .int x4), (5, .int x5)] -> W p l e rm_X9_fits s m args below meth c H locs 0 0 (MQ below (q_X9_fits dC dI cI cC cZ cB cJ A a_x xI xH xB vI wY xX yA xY uD uJ rW uQ uP uO xO tJ jJ mY pG pD pE eO rG rJ pX rO dN bD bJ aI uU gF qF mX oE dY jE eW eY dU fY gJ jG nU post) args s 0 0 A) (F0 m 33 ls [])) : ∀ (x1 x2 x4 x5 oY : Int32) (rD : Nat -> Int32) (qB : Int32) (jK : Nat -> Int32) (H : Heap) (locs : List Loc) (ls : Array Slot), (ws_X9_fits_78 post K33 dN bD uU gF qF mX oE dY jE eW eY gJ jG) x1 x2 x4 x5 oY rD qB jK -> va_P (dC, dI) classes (aIO cI cC cZ cB cJ a_x xI xH xB vI wY xX yA xY uD uJ rW uQ uP uO xO tJ jJ mY pG pD pE eO rG oY rJ pX rO rD dN bD bJ aI uU gF qF mX oE dY jE eW eY dU fY gJ jG nU qB jK) H -> va_D A (aIO cI cC cZ cB cJ a_x xI xH xB vI wY xX yA xY uD uJ rW uQ uP uO xO tJ jJ mY pG pD pE eO rG oY rJ pX rO rD dN bD bJ aI uU gF qF mX oE dY jE eW eY dU fY gJ jG nU qB jK) -> va_S A s.heap H locs -> lv_has ls 6 [(0, .ref a_x), (1, .int x1), (2, .int x2), (4, .int x4), (5, .int x5)] -> W p l e rm_X9_fits s m args below meth c H locs 0 0 (MQ below (q_X9_fits dC dI cI cC cZ cB cJ A a_x xI xH xB vI wY xX yA xY uD uJ rW uQ uP uO xO tJ jJ mY pG pD pE eO rG rJ pX rO dN bD bJ aI uU gF qF mX oE dY jE eW eY dU fY gJ jG nU post) args s 0 0 A) (F0 m 78 ls []) := by
  obtain ⟨hx, hb, hr, hml, hown, hts, hlocks, hA, hK, hN, tL, tM, hZL, hTL, hZM, hTM, hZX⟩ := id C0
  intro x1 x2 x4 x5 oY rD qB jK H locs ls hp hP hD hS hl
  unfold ws_X9_fits_78 at hp
  refine lv_iload hx hb bAd.2.2.2.2.2.2.2.2.2.1 (lv_at hl 4 rfl) ?_
  refine lv_istore_n (lv' := [(3, .int x5), (0, .ref a_x), (1, .int x1), (2, .int x2), (4, .int x4), (5, .int x5)]) hx hb bAd.2.2.2.2.2.2.2.2.2.2.1 rfl hl (by decide) rfl (fun ls hl => ?_)
  exact ks_X9_fits_81 C0 hK33 x1 x2 x5 x4 x5 oY rD qB jK H locs ls hp hP hD hS (lv_sub hl [1, 2, 3, 0, 4, 5] rfl)
def ws_X9_fits_33 (post : Int32 -> Int32 -> (Nat -> Int32) -> Int32 -> (Nat -> Int32) -> Prop) (next : Int32 -> Int32 -> Int32 -> Int32 -> Int32 -> Int32 -> (Nat -> Int32) -> Int32 -> (Nat -> Int32) -> Prop) (dN bD : Int32) (uU gF qF mX oE dY : Nat -> Int32) (jE eW eY gJ jG x1 x2 x3 x4 x5 oY : Int32) (rD : Nat -> Int32) (qB : Int32) (jK : Nat -> Int32) : Prop := aHs (fun r_4 => (r_4 < x5 -> aPf (fun ro_size_5 ro_numbers_6 => post x2 oY rD ro_size_5 ro_numbers_6) x3 x4 qB jK) /\ (¬ r_4 < x5 -> wp_X5_isFitting (fun r_7 => (r_7 = 0 -> ws_X9_fits_104 post next dN bD uU gF qF mX oE dY jE eW eY gJ jG x1 x2 x3 x4 x5 oY rD qB jK) /\ (¬ r_7 = 0 -> ∀ v_9 : Int32, v_9 = x2 + 1 -> (x3 = (-1) -> ws_X9_fits_78 post next dN bD uU gF qF mX oE dY jE eW eY gJ jG x1 v_9 x4 x5 oY rD qB jK) /\ (¬ x3 = (-1) -> aBb (fun r_12 => aBb (fun r_13 => (r_13 <= r_12 -> ws_X9_fits_81 post next dN bD uU gF qF mX oE dY jE eW eY gJ jG x1 v_9 x3 x4 x5 oY rD qB jK) /\ (¬ r_13 <= r_12 -> ws_X9_fits_78 post next dN bD uU gF qF mX oE dY jE eW eY gJ jG x1 v_9 x4 x5 oY rD qB jK)) x3) x5))) x5 x1 rD bD)) bD
noncomputable def wb_X9_fits_33 (post : Int32 -> Int32 -> (Nat -> Int32) -> Int32 -> (Nat -> Int32) -> Prop) (dN bD : Int32) (uU gF qF mX oE dY : Nat -> Int32) (jE eW eY gJ jG : Int32) : Nat -> Int32 -> Int32 -> Int32 -> Int32 -> Int32 -> Int32 -> (Nat -> Int32) -> Int32 -> (Nat -> Int32) -> Prop := fun n => Nat.rec (motive := fun _ => Int32 -> Int32 -> Int32 -> Int32 -> Int32 -> Int32 -> (Nat -> Int32) -> Int32 -> (Nat -> Int32) -> Prop) (fun _ _ _ _ _ _ _ _ _ => False) (fun _ ih => ws_X9_fits_33 post ih dN bD uU gF qF mX oE dY jE eW eY gJ jG) n
set_option maxHeartbeats 4000000 in
set_option maxRecDepth 100000 in
theorem ks_X9_fits_33 (C0 : gc aFM (some .int) 6 RX9 (dC, dI) (tyl cI cC cZ cB cJ) A p s m args meth c) {next : Int32 -> Int32 -> Int32 -> Int32 -> Int32 -> Int32 -> (Nat -> Int32) -> Int32 -> (Nat -> Int32) -> Prop} (hKn : ∀ (x1 : Int32) (x2 : Int32) (x3 : Int32) (x4 : Int32) (x5 : Int32) (oY : Int32) (rD : Nat -> Int32) (qB : Int32) (jK : Nat -> Int32) (H : Heap) (locs : List Loc) (ls : Array Slot), next x1 x2 x3 x4 x5 oY rD qB jK -> va_P (dC, dI) classes (aIO cI cC cZ cB cJ a_x xI xH xB vI wY xX yA xY uD uJ rW uQ uP uO xO tJ jJ mY pG pD pE eO rG oY rJ pX rO rD dN bD bJ aI uU gF qF mX oE dY jE eW eY dU fY gJ jG nU qB jK) H -> va_D A (aIO cI cC cZ cB cJ a_x xI xH xB vI wY xX yA xY uD uJ rW uQ uP uO xO tJ jJ mY pG pD pE eO rG oY rJ pX rO rD dN bD bJ aI uU gF qF mX oE dY jE eW eY dU fY gJ jG nU qB jK) -> va_S A s.heap H locs -> lv_has ls 6 [(0, .ref a_x), (1, .int x1), (2, .int x2), (3, .int x3), (4, .int x4), (5, .int x5)] -> W p l e rm_X9_fits s m args below meth c H locs 0 0 (MQ below (q_X9_fits dC dI cI cC cZ cB cJ A a_x xI xH xB vI wY xX yA xY uD uJ rW uQ uP uO xO tJ jJ mY pG pD pE eO rG rJ pX rO dN bD bJ aI uU gF qF mX oE dY jE eW eY dU fY gJ jG nU post) args s 0 0 A) (F0 m 33 ls [])) : ∀ (x1 x2 x3 x4 x5 oY : Int32) (rD : Nat -> Int32) (qB : Int32) (jK : Nat -> Int32) (H : Heap) (locs : List Loc) (ls : Array Slot), (ws_X9_fits_33 post next dN bD uU gF qF mX oE dY jE eW eY gJ jG) x1 x2 x3 x4 x5 oY rD qB jK -> va_P (dC, dI) classes (aIO cI cC cZ cB cJ a_x xI xH xB vI wY xX yA xY uD uJ rW uQ uP uO xO tJ jJ mY pG pD pE eO rG oY rJ pX rO rD dN bD bJ aI uU gF qF mX oE dY jE eW eY dU fY gJ jG nU qB jK) H -> va_D A (aIO cI cC cZ cB cJ a_x xI xH xB vI wY xX yA xY uD uJ rW uQ uP uO xO tJ jJ mY pG pD pE eO rG oY rJ pX rO rD dN bD bJ aI uU gF qF mX oE dY jE eW eY dU fY gJ jG nU qB jK) -> va_S A s.heap H locs -> lv_has ls 6 [(0, .ref a_x), (1, .int x1), (2, .int x2), (3, .int x3), (4, .int x4), (5, .int x5)] -> W p l e rm_X9_fits s m args below meth c H locs 0 0 (MQ below (q_X9_fits dC dI cI cC cZ cB cJ A a_x xI xH xB vI wY xX yA xY uD uJ rW uQ uP uO xO tJ jJ mY pG pD pE eO rG rJ pX rO dN bD bJ aI uU gF qF mX oE dY jE eW eY dU fY gJ jG nU post) args s 0 0 A) (F0 m 33 ls []) := by
  obtain ⟨hx, hb, hr, hml, hown, hts, hlocks, hA, hK, hN, tL, tM, hZL, hTL, hZM, hTM, hZX⟩ := id C0
  intro x1 x2 x3 x4 x5 oY rD qB jK H locs ls hp hP hD hS hl
  unfold ws_X9_fits_33 at hp
  refine lv_iload hx hb bAc.2.2.2.2.2.1 (lv_at hl 5 rfl) ?_
  refine lv_aload_n hx hb bAc.2.2.2.2.2.2.1 rfl (lv_at hl 0 rfl) ?_
  refine va_get (D := (dC, dI)) (ci := 9) (v := .ref vI) (C := RX9) (T := TX9) (N := 9) hx hb hts aC3 hown hK hP 0 rfl rfl 3 (lbz rfl) (hts _ q_74) (fun _ h9 => h9) rfl bAc.2.2.2.2.2.2.2.1 ?_
  have hm := mgk (wc := (aHS cI cC cZ cB cJ vI tJ jJ mY pG pD pE eO dN bD bJ aI)) hP aNG 14 rfl rfl rfl
  refine yW hP hD hS hA (yS aNG) (aAi aNG) hm.1 hm.2 (aAk _) (zW _) (zF (As := []) (rest := [.int x5]) C0 hP hD hS (yS aNG) hm.1 (aAl _) 4 3 rfl rfl (aLl l dC dI cI cC cZ cB cJ vI tJ jJ mY pG pD pE eO H.size dN bD bJ aI _ hp) q_426 q_463 q_427 q_428 q_48 aLo rfl rfl ⟨lbz rfl, lbz rfl⟩ rfl rfl hl.1 rfl (lv_room (lbz rfl)) bAc.2.2.2.2.2.2.2.2.1 ⟨Nat.zero_le _, Nat.zero_le _⟩) (fun r_4 u H locs hp hP hD hS => ?_)
  have hPD := PDm (ws' := (aIO cI cC cZ cB cJ a_x xI xH xB vI wY xX yA xY uD uJ rW uQ uP uO xO tJ jJ mY pG pD pE eO rG oY rJ pX rO rD dN bD bJ aI uU gF qF mX oE dY jE eW eY dU fY gJ jG nU qB jK)) hP hD 14 rfl rfl rfl
  have hP := hPD.1
  have hD := hPD.2
  refine lv_icmp_gt (tgt := 110) hx hb bAc.2.2.2.2.2.2.2.2.2.1 (by decide) (fun hc => ?_) (fun hc => ?_)
  · have hp := hp.1 hc
    refine lv_aload_n hx hb eX9_fits_92.2.2.2.2.2.2.2.1 rfl (lv_at hl 0 rfl) ?_
    refine lv_iload_n hx hb eX9_fits_92.2.2.2.2.2.2.2.2.1 rfl (lv_at hl 3 rfl) ?_
    refine lv_iload hx hb eX9_fits_92.2.2.2.2.2.2.2.2.2.1 (lv_at hl 4 rfl) ?_
    have hm := mgk (wc := (aRW cI cC cZ cB cJ a_x xI xH xB vI wY xX yA xY uD rG qB jK)) hP mk_121 14 rfl rfl rfl
    refine aBn hP hD hS hA (yS mk_121) (aAi mk_121) hm.1 hm.2 (aAk _) (zW _) (zF (As := [.int x3, .int x4]) (rest := []) C0 hP hD hS (yS mk_121) hm.1 (aAl _) 0 9 rfl rfl (c_X9_tell_ l dC dI cI cC cZ cB cJ a_x xI xH xB vI wY xX yA xY uD rG H.size x3 x4 qB jK _ hp) q_377 q_380 q_378 q_379 aIl h_X9_tell_ rfl rfl ⟨lbz rfl, lbz rfl⟩ rfl rfl hl.1 rfl (lv_room (lbz rfl)) eX9_fits_92.2.2.2.2.2.2.2.2.2.2.1 ⟨Nat.zero_le _, Nat.zero_le _⟩) (fun u H locs hp hP hD hS => ?_)
    obtain ⟨ro_size_5, ro_numbers_6⟩ := u
    have hPD := PDm (ws' := (aIO cI cC cZ cB cJ a_x xI xH xB vI wY xX yA xY uD uJ rW uQ uP uO xO tJ jJ mY pG pD pE eO rG oY rJ pX rO rD dN bD bJ aI uU gF qF mX oE dY jE eW eY dU fY gJ jG nU ro_size_5 ro_numbers_6)) hP hD 14 rfl rfl rfl
    have hP := hPD.1
    have hD := hPD.2
    refine lv_iload_n hx hb eX9_fits_92.2.2.2.2.2.2.2.2.2.2.2.1 rfl (lv_at hl 2 rfl) ?_
    exact W.iret (v := x2) hx hb hr (fun t ht hW => ⟨⟨x2, (oY, rD, ro_size_5, ro_numbers_6), rfl, hp, by rw [ht]; exact hP, va_K.moved hW.alike hK, hD⟩, hS.F ht⟩) hS.2.2 eX9_fits_92.2.2.2.2.2.2.2.2.2.2.2.2
  · have hp := hp.2 hc
    refine lv_aload_n hx hb bAc.2.2.2.2.2.2.2.2.2.2.1 rfl (lv_at hl 0 rfl) ?_
    refine va_get (D := (dC, dI)) (ci := 9) (v := .ref xH) (C := RX9) (T := TX9) (N := 9) hx hb hts aC3 hown hK hP 0 rfl rfl 1 (lbz rfl) (hts _ aOt) (fun _ h9 => h9) rfl bAc.2.2.2.2.2.2.2.2.2.2.2.1 ?_
    refine lv_iload hx hb bAc.2.2.2.2.2.2.2.2.2.2.2.2.1 (lv_at hl 5 rfl) ?_
    refine lv_iload_n hx hb bAc.2.2.2.2.2.2.2.2.2.2.2.2.2.1 rfl (lv_at hl 1 rfl) ?_
    have hm := mgk (wc := (aMt cI cC cZ cB cJ xH xB vI uJ rW uQ uP uO tJ jJ mY pG pD pE eO oY rJ pX rO rD dN bD bJ aI)) hP mk_123 14 rfl rfl rfl
    refine yW hP hD hS hA (yS mk_123) (aAi mk_123) hm.1 hm.2 (aAk _) (zW _) (zF (As := [.int x5, .int x1]) (rest := []) C0 hP hD hS (yS mk_123) hm.1 (aAl _) 1 5 rfl rfl (c_X5_isFitting l dC dI cI cC cZ cB cJ xH xB vI uJ rW uQ uP uO tJ jJ mY pG pD pE eO H.size x5 x1 oY rJ pX rO rD dN bD bJ aI _ hp) q_619 q_622 q_620 q_621 aRn h_X5_isFitting rfl rfl ⟨lbz rfl, lbz rfl⟩ rfl rfl hl.1 rfl (lv_room (lbz rfl)) bAc.2.2.2.2.2.2.2.2.2.2.2.2.2.2.1 ⟨Nat.zero_le _, Nat.zero_le _⟩) (fun r_7 u H locs hp hP hD hS => ?_)
    have hPD := PDm (ws' := (aIO cI cC cZ cB cJ a_x xI xH xB vI wY xX yA xY uD uJ rW uQ uP uO xO tJ jJ mY pG pD pE eO rG oY rJ pX rO rD dN bD bJ aI uU gF qF mX oE dY jE eW eY dU fY gJ jG nU qB jK)) hP hD 14 rfl rfl rfl
    have hP := hPD.1
    have hD := hPD.2
    refine lv_if_eq (tgt := 104) hx hb bAc.2.2.2.2.2.2.2.2.2.2.2.2.2.2.2 (by decide) (fun hc => ?_) (fun hc => ?_)
    · have hp := hp.1 hc
      exact ks_X9_fits_104 C0 hKn x1 x2 x3 x4 x5 oY rD qB jK H locs ls hp hP hD hS (lv_sub hl [0, 1, 2, 3, 4, 5] rfl)
    · have hp := hp.2 hc
      obtain ⟨v_9, ev_9⟩ : ∃ y : Int32, y = x2 + 1 := ⟨_, rfl⟩
      refine lv_iinc (v := v_9) (lv' := [(2, .int v_9), (0, .ref a_x), (1, .int x1), (3, .int x3), (4, .int x4), (5, .int x5)]) hx hb bAd.1 hl (k := 2) rfl (by rw [ev_9]; rfl) (by decide) rfl (fun ls hl => ?_)
      have hp := hp v_9 ev_9
      refine lv_iload_n hx hb bAd.2.1 rfl (lv_at hl 3 rfl) ?_
      refine lv_iconst (v := (-1)) hx hb bAd.2.2.1 aEJ ?_
      refine lv_icmp_eq (tgt := 78) hx hb bAd.2.2.2.1 (by decide) (fun hc => ?_) (fun hc => ?_)
      · have hp := hp.1 hc
        exact ks_X9_fits_78 C0 hKn x1 v_9 x4 x5 oY rD qB jK H locs ls hp hP hD hS (lv_sub hl [1, 2, 0, 4, 5] rfl)
      · have hp := hp.2 hc
        refine lv_iload hx hb bAd.2.2.2.2.1 (lv_at hl 5 rfl) ?_
        have hm := mgk (wc := (aBh cI cC cZ cB cJ)) hP aJ7 14 rfl rfl rfl
        refine yW hP hD hS hA (yS aJ7) (aAi aJ7) hm.1 hm.2 (aAk _) (zW _) (aDn (As := [.int x5]) (rest := []) C0 hP hD hS (yS aJ7) hm.1 (aAl _) (aBv l dC dI cI cC cZ cB cJ H.size x5 _ hp) q_320 q_474 q_322 q_321 aBw rfl rfl ⟨lbz rfl, lbz rfl⟩ rfl rfl hl.1 rfl (lv_room (lbz rfl)) bAd.2.2.2.2.2.1 ⟨Nat.zero_le _, Nat.zero_le _⟩) (fun r_12 u H locs hp hP hD hS => ?_)
        have hPD := PDm (ws' := (aIO cI cC cZ cB cJ a_x xI xH xB vI wY xX yA xY uD uJ rW uQ uP uO xO tJ jJ mY pG pD pE eO rG oY rJ pX rO rD dN bD bJ aI uU gF qF mX oE dY jE eW eY dU fY gJ jG nU qB jK)) hP hD 14 rfl rfl rfl
        have hP := hPD.1
        have hD := hPD.2
        refine lv_iload_n hx hb bAd.2.2.2.2.2.2.1 rfl (lv_at hl 3 rfl) ?_
        have hm := mgk (wc := (aBh cI cC cZ cB cJ)) hP aJ7 14 rfl rfl rfl
        refine yW hP hD hS hA (yS aJ7) (aAi aJ7) hm.1 hm.2 (aAk _) (zW _) (aDn (As := [.int x3]) (rest := [.int r_12]) C0 hP hD hS (yS aJ7) hm.1 (aAl _) (aBv l dC dI cI cC cZ cB cJ H.size x3 _ hp) q_320 q_474 q_322 q_321 aBw rfl rfl ⟨lbz rfl, lbz rfl⟩ rfl rfl hl.1 rfl (lv_room (lbz rfl)) bAd.2.2.2.2.2.2.2.1 ⟨Nat.zero_le _, Nat.zero_le _⟩) (fun r_13 u H locs hp hP hD hS => ?_)
        have hPD := PDm (ws' := (aIO cI cC cZ cB cJ a_x xI xH xB vI wY xX yA xY uD uJ rW uQ uP uO xO tJ jJ mY pG pD pE eO rG oY rJ pX rO rD dN bD bJ aI uU gF qF mX oE dY jE eW eY dU fY gJ jG nU qB jK)) hP hD 14 rfl rfl rfl
        have hP := hPD.1
        have hD := hPD.2
        refine lv_icmp_ge (tgt := 81) hx hb bAd.2.2.2.2.2.2.2.2.1 (by decide) (fun hc => ?_) (fun hc => ?_)
        · have hp := hp.1 hc
          exact ks_X9_fits_81 C0 hKn x1 v_9 x3 x4 x5 oY rD qB jK H locs ls hp hP hD hS (lv_sub hl [1, 2, 0, 3, 4, 5] rfl)
        · have hp := hp.2 hc
          exact ks_X9_fits_78 C0 hKn x1 v_9 x4 x5 oY rD qB jK H locs ls hp hP hD hS (lv_sub hl [1, 2, 0, 4, 5] rfl)
set_option maxHeartbeats 4000000 in
set_option maxRecDepth 100000 in
theorem kb_X9_fits_33 (C0 : gc aFM (some .int) 6 RX9 (dC, dI) (tyl cI cC cZ cB cJ) A p s m args meth c) : ∀ (n : Nat), ∀ (x1 x2 x3 x4 x5 oY : Int32) (rD : Nat -> Int32) (qB : Int32) (jK : Nat -> Int32) (H : Heap) (locs : List Loc) (ls : Array Slot), (wb_X9_fits_33 post dN bD uU gF qF mX oE dY jE eW eY gJ jG n) x1 x2 x3 x4 x5 oY rD qB jK -> va_P (dC, dI) classes (aIO cI cC cZ cB cJ a_x xI xH xB vI wY xX yA xY uD uJ rW uQ uP uO xO tJ jJ mY pG pD pE eO rG oY rJ pX rO rD dN bD bJ aI uU gF qF mX oE dY jE eW eY dU fY gJ jG nU qB jK) H -> va_D A (aIO cI cC cZ cB cJ a_x xI xH xB vI wY xX yA xY uD uJ rW uQ uP uO xO tJ jJ mY pG pD pE eO rG oY rJ pX rO rD dN bD bJ aI uU gF qF mX oE dY jE eW eY dU fY gJ jG nU qB jK) -> va_S A s.heap H locs -> lv_has ls 6 [(0, .ref a_x), (1, .int x1), (2, .int x2), (3, .int x3), (4, .int x4), (5, .int x5)] -> W p l e rm_X9_fits s m args below meth c H locs 0 0 (MQ below (q_X9_fits dC dI cI cC cZ cB cJ A a_x xI xH xB vI wY xX yA xY uD uJ rW uQ uP uO xO tJ jJ mY pG pD pE eO rG rJ pX rO dN bD bJ aI uU gF qF mX oE dY jE eW eY dU fY gJ jG nU post) args s 0 0 A) (F0 m 33 ls []) := by
  intro n
  induction n with
  | zero =>
    intro x1 x2 x3 x4 x5 oY rD qB jK H locs ls hp
    exact False.elim hp
  | succ n ih =>
    intro x1 x2 x3 x4 x5 oY rD qB jK H locs ls hp
    exact ks_X9_fits_33 C0 ih x1 x2 x3 x4 x5 oY rD qB jK H locs ls hp
end S_X9_fits
def wp_X9_fits (post : Int32 -> Int32 -> (Nat -> Int32) -> Int32 -> (Nat -> Int32) -> Prop) (p0 oY : Int32) (rD : Nat -> Int32) (dN bD : Int32) (uU gF qF mX oE dY : Nat -> Int32) (jE eW eY gJ jG qB : Int32) (jK : Nat -> Int32) : Prop := wp_X3_allFruits (fun r_1 => ((p0 &&& (r_1 ^^^ (-1))) = 0 -> aZL (fun aCw aEE => ∃ n : Nat, wb_X9_fits_33 post dN bD uU gF qF mX oE dY jE eW eY gJ jG n p0 0 (-1) (-1) 0 aCw aEE qB jK) oY rD dN bD uU gF qF mX oE dY jE eW eY gJ jG) /\ (¬ (p0 &&& (r_1 ^^^ (-1))) = 0 -> post (-1) oY rD qB jK)) dN
set_option maxHeartbeats 4000000 in
set_option maxRecDepth 100000 in
theorem c_X9_fits (l : Launch) (dC : Nat -> ClassId) (dI : Nat -> Nat -> Nat) (cI cC cZ cB cJ : ClassId) (a_x xI xH xB vI wY xX yA xY uD uJ rW uQ uP uO xO tJ jJ mY pG pD pE eO rG sz : Nat) (p0 oY rJ pX rO : Int32) (rD : Nat -> Int32) (dN bD bJ aI : Int32) (uU gF qF mX oE dY : Nat -> Int32) (jE eW eY dU fY gJ jG nU qB : Int32) (jK : Nat -> Int32) (post : Int32 -> Int32 -> (Nat -> Int32) -> Int32 -> (Nat -> Int32) -> Prop) (hw : wp_X9_fits post p0 oY rD dN bD uU gF qF mX oE dY jE eW eY gJ jG qB jK) : Met l yX9_fits (gw yX9_fits aFM 6 (some .int)) rm_X9_fits (va_Pc [.ref a_x, .int p0] (gPre (dC, dI) (tyl cI cC cZ cB cJ) (aIO cI cC cZ cB cJ a_x xI xH xB vI wY xX yA xY uD uJ rW uQ uP uO xO tJ jJ mY pG pD pE eO rG oY rJ pX rO rD dN bD bJ aI uU gF qF mX oE dY jE eW eY dU fY gJ jG nU qB jK) sz)) (q_X9_fits dC dI cI cC cZ cB cJ (va_A (aIO cI cC cZ cB cJ a_x xI xH xB vI wY xX yA xY uD uJ rW uQ uP uO xO tJ jJ mY pG pD pE eO rG oY rJ pX rO rD dN bD bJ aI uU gF qF mX oE dY jE eW eY dU fY gJ jG nU qB jK) sz) a_x xI xH xB vI wY xX yA xY uD uJ rW uQ uP uO xO tJ jJ mY pG pD pE eO rG rJ pX rO dN bD bJ aI uU gF qF mX oE dY jE eW eY dU fY gJ jG nU post) 0 0 (va_A (aIO cI cC cZ cB cJ a_x xI xH xB vI wY xX yA xY uD uJ rW uQ uP uO xO tJ jJ mY pG pD pE eO rG oY rJ pX rO rD dN bD bJ aI uU gF qF mX oE dY jE eW eY dU fY gJ jG nU qB jK) sz) := by
  refine aBJ (own := RX9) (dC, dI) (tyl cI cC cZ cB cJ) (aIO cI cC cZ cB cJ a_x xI xH xB vI wY xX yA xY uD uJ rW uQ uP uO xO tJ jJ mY pG pD pE eO rG oY rJ pX rO rD dN bD bJ aI uU gF qF mX oE dY jE eW eY dU fY gJ jG nU qB jK) sz [.ref a_x, .int p0] (fun A => q_X9_fits dC dI cI cC cZ cB cJ A a_x xI xH xB vI wY xX yA xY uD uJ rW uQ uP uO xO tJ jJ mY pG pD pE eO rG rJ pX rO dN bD bJ aI uU gF qF mX oE dY jE eW eY dU fY gJ jG nU post) pn_RX9 rfl (lbz rfl) ?_
  intro p e s m args below meth c A H locs ls C0 hP hD hS hl
  have hl : lv_has ls 6 [(0, .ref a_x), (1, .int p0)] := hl
  obtain ⟨hx, hb, hr, hml, hown, hts, hlocks, hA, hK, hN, tL, tM, hZL, hTL, hZM, hTM, hZX⟩ := id C0
  have hp := hw
  unfold wp_X9_fits at hp
  refine lv_iload_n hx hb eX9_fits_0.1 rfl (lv_at hl 1 rfl) ?_
  refine lv_aload_n hx hb eX9_fits_0.2.1 rfl (lv_at hl 0 rfl) ?_
  refine va_get (D := (dC, dI)) (ci := 9) (v := .ref vI) (C := RX9) (T := TX9) (N := 9) hx hb hts aC3 hown hK hP 0 rfl rfl 3 (lbz rfl) (hts _ q_74) (fun _ h9 => h9) rfl eX9_fits_0.2.2.1 ?_
  have hm := mgk (wc := (wd_X3_allFruits cI cC cZ cB cJ vI tJ jJ mY pG pD pE eO dN bD bJ aI)) hP aNG 14 rfl rfl rfl
  refine yW hP hD hS hA (yS aNG) (aAi aNG) hm.1 hm.2 (aAk _) (zW _) (zF (As := []) (rest := [.int p0]) C0 hP hD hS (yS aNG) hm.1 (aAl _) 4 3 rfl rfl (c_X3_allFruits l dC dI cI cC cZ cB cJ vI tJ jJ mY pG pD pE eO H.size dN bD bJ aI _ hp) q_157 q_618 q_158 q_159 q_48 h_X3_allFruits rfl rfl ⟨lbz rfl, lbz rfl⟩ rfl rfl hl.1 rfl (lv_room (lbz rfl)) eX9_fits_0.2.2.2.1 ⟨Nat.zero_le _, Nat.zero_le _⟩) (fun r_1 u H locs hp hP hD hS => ?_)
  have hPD := PDm (ws' := (aIO cI cC cZ cB cJ a_x xI xH xB vI wY xX yA xY uD uJ rW uQ uP uO xO tJ jJ mY pG pD pE eO rG oY rJ pX rO rD dN bD bJ aI uU gF qF mX oE dY jE eW eY dU fY gJ jG nU qB jK)) hP hD 14 rfl rfl rfl
  have hP := hPD.1
  have hD := hPD.2
  refine lv_iconst (v := (-1)) hx hb eX9_fits_0.2.2.2.2.1 aEJ ?_
  refine lv_ixor hx hb eX9_fits_0.2.2.2.2.2.1 ?_
  refine lv_iand hx hb eX9_fits_0.2.2.2.2.2.2.1 ?_
  refine lv_if_eq (tgt := 16) hx hb eX9_fits_0.2.2.2.2.2.2.2.1 (by decide) (fun hc => ?_) (fun hc => ?_)
  · have hp := hp.1 hc
    refine lv_aload_n hx hb eX9_fits_0.2.2.2.2.2.2.2.2.2.2.1 rfl (lv_at hl 0 rfl) ?_
    refine va_get (D := (dC, dI)) (ci := 9) (v := .ref xH) (C := RX9) (T := TX9) (N := 9) hx hb hts aC3 hown hK hP 0 rfl rfl 1 (lbz rfl) (hts _ aOt) (fun _ h9 => h9) rfl eX9_fits_0.2.2.2.2.2.2.2.2.2.2.2.1 ?_
    have hm := mgk (wc := (aVN cI cC cZ cB cJ xH xB vI uJ rW uQ uP uO wY xO tJ jJ mY pG pD pE eO oY rJ pX rO rD dN bD bJ aI uU gF qF mX oE dY jE eW eY dU fY gJ jG nU)) hP aUu 14 rfl rfl rfl
    refine aBn hP hD hS hA (yS aUu) (aAi aUu) hm.1 hm.2 (aAk _) (zW _) (zF (As := []) (rest := []) C0 hP hD hS (yS aUu) hm.1 (aAl _) 1 5 rfl rfl (c_X5_look l dC dI cI cC cZ cB cJ xH xB vI uJ rW uQ uP uO wY xO tJ jJ mY pG pD pE eO H.size oY rJ pX rO rD dN bD bJ aI uU gF qF mX oE dY jE eW eY dU fY gJ jG nU _ hp) q_445 q_448 q_446 q_447 aRn h_X5_look rfl rfl ⟨lbz rfl, lbz rfl⟩ rfl rfl hl.1 rfl (lv_room (lbz rfl)) eX9_fits_0.2.2.2.2.2.2.2.2.2.2.2.2.1 ⟨Nat.zero_le _, Nat.zero_le _⟩) (fun u H locs hp hP hD hS => ?_)
    obtain ⟨aCw, aEE⟩ := u
    have hPD := PDm (ws' := (aIO cI cC cZ cB cJ a_x xI xH xB vI wY xX yA xY uD uJ rW uQ uP uO xO tJ jJ mY pG pD pE eO rG aCw rJ pX rO aEE dN bD bJ aI uU gF qF mX oE dY jE eW eY dU fY gJ jG nU qB jK)) hP hD 14 rfl rfl rfl
    have hP := hPD.1
    have hD := hPD.2
    refine lv_iconst (v := 0) hx hb eX9_fits_0.2.2.2.2.2.2.2.2.2.2.2.2.2.1 aCi ?_
    refine lv_istore_n (lv' := [(2, .int 0), (0, .ref a_x), (1, .int p0)]) hx hb eX9_fits_0.2.2.2.2.2.2.2.2.2.2.2.2.2.2.1 rfl hl (by decide) rfl (fun ls hl => ?_)
    refine lv_iconst (v := (-1)) hx hb eX9_fits_0.2.2.2.2.2.2.2.2.2.2.2.2.2.2.2 aEJ ?_
    refine lv_istore_n (lv' := [(3, .int (-1)), (2, .int 0), (0, .ref a_x), (1, .int p0)]) hx hb bAc.1 rfl hl (by decide) rfl (fun ls hl => ?_)
    refine lv_iconst (v := (-1)) hx hb bAc.2.1 aEJ ?_
    refine lv_istore (lv' := [(4, .int (-1)), (3, .int (-1)), (2, .int 0), (0, .ref a_x), (1, .int p0)]) hx hb bAc.2.2.1 hl (by decide) rfl (fun ls hl => ?_)
    refine lv_iconst (v := 0) hx hb bAc.2.2.2.1 aCi ?_
    refine lv_istore (lv' := [(5, .int 0), (4, .int (-1)), (3, .int (-1)), (2, .int 0), (0, .ref a_x), (1, .int p0)]) hx hb bAc.2.2.2.2.1 hl (by decide) rfl (fun ls hl => ?_)
    obtain ⟨n9, hp⟩ := hp
    exact kb_X9_fits_33 C0 n9 p0 0 (-1) (-1) 0 aCw aEE qB jK H locs ls hp hP hD hS (lv_sub hl [4, 5, 3, 2, 1, 0] rfl)
  · have hp := hp.2 hc
    refine lv_iconst (v := (-1)) hx hb eX9_fits_0.2.2.2.2.2.2.2.2.1 aEJ ?_
    exact W.iret (v := (-1)) hx hb hr (fun t ht hW => ⟨⟨(-1), (oY, rD, qB, jK), rfl, hp, by rw [ht]; exact hP, va_K.moved hW.alike hK, hD⟩, hS.F ht⟩) hS.2.2 eX9_fits_0.2.2.2.2.2.2.2.2.2.1
abbrev wd_X9_leaned (cI cC cZ cB cJ : ClassId) (a_x xI xH xB vI wY xX yA xY uD tJ jJ mY pG pD pE eO : Nat) (dN bD bJ aI : Int32) (uU gF mX oE dY : Nat -> Int32) : va_W := [(a_x, .inr (9, [.ref xI, .ref xH, .ref xB, .ref vI, .ref wY, .ref xX, .ref yA, .ref xY, .ref uD])), (vI, .inr (3, [.ref tJ, .ref jJ, .ref mY, .ref pG, .ref pD, .ref pE, .ref eO, .int dN, .int bD, .int bJ, .int aI])), (tJ, .inl (cI, 16, .inl uU)), (jJ, .inl (cI, 16, .inl gF)), (pD, .inl (cI, 8, .inl mX)), (pE, .inl (cI, 8, .inl oE)), (eO, .inl (cI, 5, .inl dY))]
abbrev q_X9_leaned (dC : Nat -> ClassId) (dI : Nat -> Nat -> Nat) (cI cC cZ cB cJ : ClassId) (A : Nat -> Prop) (a_x xI xH xB vI wY xX yA xY uD tJ jJ mY pG pD pE eO : Nat) (dN bD bJ aI : Int32) (uU gF mX oE dY : Nat -> Int32) (post : Int32 -> Prop) : Array Value -> State -> Outcome -> State -> Prop := va_Qi (fun (r : Int32) (u : Unit) => post r) (fun u t => gB (dC, dI) (tyl cI cC cZ cB cJ) A (wd_X9_leaned cI cC cZ cB cJ a_x xI xH xB vI wY xX yA xY uD tJ jJ mY pG pD pE eO dN bD bJ aI uU gF mX oE dY) t) A
abbrev rm_X9_leaned : Room := { frames := 3, cells := 0, slots := 0, locals := 70 }
def wp_X9_leaned (post : Int32 -> Prop) (p0 p1 dN bD : Int32) (uU gF mX oE dY : Nat -> Int32) : Prop := aY8 (fun r_1 => (r_1 = 0 -> post (-1)) /\ (¬ r_1 = 0 -> aK6 (fun r_2 => (¬ r_2 = 0 -> bCY (fun r_3 => post r_3) p0 p1 uU gF mX oE dY) /\ (r_2 = 0 -> post (-1))) p1 bD)) p0 dN
set_option maxHeartbeats 4000000 in
set_option maxRecDepth 100000 in
theorem c_X9_leaned (l : Launch) (dC : Nat -> ClassId) (dI : Nat -> Nat -> Nat) (cI cC cZ cB cJ : ClassId) (a_x xI xH xB vI wY xX yA xY uD tJ jJ mY pG pD pE eO sz : Nat) (p0 p1 dN bD bJ aI : Int32) (uU gF mX oE dY : Nat -> Int32) (post : Int32 -> Prop) (hw : wp_X9_leaned post p0 p1 dN bD uU gF mX oE dY) : Met l yX9_leaned (gw yX9_leaned aXY 3 (some .int)) rm_X9_leaned (va_Pc [.ref a_x, .int p0, .int p1] (gPre (dC, dI) (tyl cI cC cZ cB cJ) (wd_X9_leaned cI cC cZ cB cJ a_x xI xH xB vI wY xX yA xY uD tJ jJ mY pG pD pE eO dN bD bJ aI uU gF mX oE dY) sz)) (q_X9_leaned dC dI cI cC cZ cB cJ (va_A (wd_X9_leaned cI cC cZ cB cJ a_x xI xH xB vI wY xX yA xY uD tJ jJ mY pG pD pE eO dN bD bJ aI uU gF mX oE dY) sz) a_x xI xH xB vI wY xX yA xY uD tJ jJ mY pG pD pE eO dN bD bJ aI uU gF mX oE dY post) 0 0 (va_A (wd_X9_leaned cI cC cZ cB cJ a_x xI xH xB vI wY xX yA xY uD tJ jJ mY pG pD pE eO dN bD bJ aI uU gF mX oE dY) sz) := by
  refine aBJ (own := RX9) (dC, dI) (tyl cI cC cZ cB cJ) (wd_X9_leaned cI cC cZ cB cJ a_x xI xH xB vI wY xX yA xY uD tJ jJ mY pG pD pE eO dN bD bJ aI uU gF mX oE dY) sz [.ref a_x, .int p0, .int p1] (fun A => q_X9_leaned dC dI cI cC cZ cB cJ A a_x xI xH xB vI wY xX yA xY uD tJ jJ mY pG pD pE eO dN bD bJ aI uU gF mX oE dY post) pn_RX9 rfl (lbz rfl) ?_
  intro p e s m args below meth c A H locs ls C0 hP hD hS hl
  have hl : lv_has ls 3 [(0, .ref a_x), (1, .int p0), (2, .int p1)] := hl
  obtain ⟨hx, hb, hr, hml, hown, hts, hlocks, hA, hK, hN, tL, tM, hZL, hTL, hZM, hTM, hZX⟩ := id C0
  have hp := hw
  unfold wp_X9_leaned at hp
  refine lv_aload_n hx hb aSH.1 rfl (lv_at hl 0 rfl) ?_
  refine va_get (D := (dC, dI)) (ci := 9) (v := .ref vI) (C := RX9) (T := TX9) (N := 9) hx hb hts aC3 hown hK hP 0 rfl rfl 3 (lbz rfl) (hts _ q_74) (fun _ h9 => h9) rfl aSH.2.1 ?_
  refine lv_iload_n hx hb aSH.2.2.1 rfl (lv_at hl 1 rfl) ?_
  have hm := mgk (wc := (bBr cI cC cZ cB cJ vI tJ jJ mY pG pD pE eO dN bD bJ aI)) hP mk_192 7 rfl rfl rfl
  refine yW hP hD hS hA (yS mk_192) (aAi mk_192) hm.1 hm.2 (aAk _) (zW _) (zF (As := [.int p0]) (rest := []) C0 hP hD hS (yS mk_192) hm.1 (aAl _) 1 3 rfl rfl (c_X3_hasFruit l dC dI cI cC cZ cB cJ vI tJ jJ mY pG pD pE eO H.size p0 dN bD bJ aI _ hp) q_171 q_174 q_172 q_173 q_48 h_X3_hasFruit rfl rfl ⟨lbz rfl, lbz rfl⟩ rfl rfl hl.1 rfl (lv_room (lbz rfl)) aSH.2.2.2.1 ⟨Nat.zero_le _, Nat.zero_le _⟩) (fun r_1 u H locs hp hP hD hS => ?_)
  have hPD := PDm (ws' := (wd_X9_leaned cI cC cZ cB cJ a_x xI xH xB vI wY xX yA xY uD tJ jJ mY pG pD pE eO dN bD bJ aI uU gF mX oE dY)) hP hD 7 rfl rfl rfl
  have hP := hPD.1
  have hD := hPD.2
  refine lv_if_eq (tgt := 22) hx hb aSH.2.2.2.2.1 (by decide) (fun hc => ?_) (fun hc => ?_)
  · have hp := hp.1 hc
    refine lv_iconst (v := (-1)) hx hb aSH.2.2.2.2.2.2.2.2.2.2.1 aEJ ?_
    exact W.iret (v := (-1)) hx hb hr (fun t ht hW => ⟨⟨(-1), (), rfl, hp, by rw [ht]; exact hP, va_K.moved hW.alike hK, hD⟩, hS.F ht⟩) hS.2.2 aSH.2.2.2.2.2.2.2.2.2.2.2.1
  · have hp := hp.2 hc
    refine lv_aload_n hx hb aSH.2.2.2.2.2.1 rfl (lv_at hl 0 rfl) ?_
    refine va_get (D := (dC, dI)) (ci := 9) (v := .ref vI) (C := RX9) (T := TX9) (N := 9) hx hb hts aC3 hown hK hP 0 rfl rfl 3 (lbz rfl) (hts _ q_74) (fun _ h9 => h9) rfl aSH.2.2.2.2.2.2.1 ?_
    refine lv_iload_n hx hb aSH.2.2.2.2.2.2.2.1 rfl (lv_at hl 2 rfl) ?_
    have hm := mgk (wc := (aLv cI cC cZ cB cJ vI tJ jJ mY pG pD pE eO dN bD bJ aI)) hP mk_192 7 rfl rfl rfl
    refine yW hP hD hS hA (yS mk_192) (aAi mk_192) hm.1 hm.2 (aAk _) (zW _) (zF (As := [.int p1]) (rest := []) C0 hP hD hS (yS mk_192) hm.1 (aAl _) 1 3 rfl rfl (aZS l dC dI cI cC cZ cB cJ vI tJ jJ mY pG pD pE eO H.size p1 dN bD bJ aI _ hp) q_195 q_198 q_196 q_197 q_48 aZZ rfl rfl ⟨lbz rfl, lbz rfl⟩ rfl rfl hl.1 rfl (lv_room (lbz rfl)) aSH.2.2.2.2.2.2.2.2.1 ⟨Nat.zero_le _, Nat.zero_le _⟩) (fun r_2 u H locs hp hP hD hS => ?_)
    have hPD := PDm (ws' := (wd_X9_leaned cI cC cZ cB cJ a_x xI xH xB vI wY xX yA xY uD tJ jJ mY pG pD pE eO dN bD bJ aI uU gF mX oE dY)) hP hD 7 rfl rfl rfl
    have hP := hPD.1
    have hD := hPD.2
    refine lv_if_ne (tgt := 24) hx hb aSH.2.2.2.2.2.2.2.2.2.1 (by decide) (fun hc => ?_) (fun hc => ?_)
    · have hp := hp.1 hc
      refine lv_aload_n hx hb aSH.2.2.2.2.2.2.2.2.2.2.2.2.1 rfl (lv_at hl 0 rfl) ?_
      refine va_get (D := (dC, dI)) (ci := 9) (v := .ref vI) (C := RX9) (T := TX9) (N := 9) hx hb hts aC3 hown hK hP 0 rfl rfl 3 (lbz rfl) (hts _ q_74) (fun _ h9 => h9) rfl aSH.2.2.2.2.2.2.2.2.2.2.2.2.2.1 ?_
      refine lv_iload_n hx hb aSH.2.2.2.2.2.2.2.2.2.2.2.2.2.2.1 rfl (lv_at hl 1 rfl) ?_
      refine lv_iload_n hx hb aSH.2.2.2.2.2.2.2.2.2.2.2.2.2.2.2 rfl (lv_at hl 2 rfl) ?_
      have hm := mgk (wc := (aPC cI cC cZ cB cJ vI tJ jJ mY pG pD pE eO dN bD bJ aI uU gF mX oE dY)) hP mk_193 7 rfl rfl rfl
      refine yW hP hD hS hA (yS mk_193) (aAi mk_193) hm.1 hm.2 (aAk _) (zW _) (zF (As := [.int p0, .int p1]) (rest := []) C0 hP hD hS (yS mk_193) hm.1 (aAl _) 1 3 rfl rfl (c_X3_leanNeeded l dC dI cI cC cZ cB cJ vI tJ jJ mY pG pD pE eO H.size p0 p1 dN bD bJ aI uU gF mX oE dY _ hp) q_453 q_456 q_454 q_455 q_48 h_X3_leanNeeded rfl rfl ⟨lbz rfl, lbz rfl⟩ rfl rfl hl.1 rfl (lv_room (lbz rfl)) eX9_leaned_30.1 ⟨Nat.zero_le _, Nat.zero_le _⟩) (fun r_3 u H locs hp hP hD hS => ?_)
      have hPD := PDm (ws' := (wd_X9_leaned cI cC cZ cB cJ a_x xI xH xB vI wY xX yA xY uD tJ jJ mY pG pD pE eO dN bD bJ aI uU gF mX oE dY)) hP hD 7 rfl rfl rfl
      have hP := hPD.1
      have hD := hPD.2
      exact W.iret (v := r_3) hx hb hr (fun t ht hW => ⟨⟨r_3, (), rfl, hp, by rw [ht]; exact hP, va_K.moved hW.alike hK, hD⟩, hS.F ht⟩) hS.2.2 eX9_leaned_30.2
    · have hp := hp.2 hc
      refine lv_iconst (v := (-1)) hx hb aSH.2.2.2.2.2.2.2.2.2.2.1 aEJ ?_
      exact W.iret (v := (-1)) hx hb hr (fun t ht hW => ⟨⟨(-1), (), rfl, hp, by rw [ht]; exact hP, va_K.moved hW.alike hK, hD⟩, hS.F ht⟩) hS.2.2 aSH.2.2.2.2.2.2.2.2.2.2.2.1
abbrev aGB (cI cC cZ cB cJ : ClassId) (a_x xI xH xB vI wY xX yA xY uD xO tJ jJ mY pG pD pE eO rG : Nat) (dN bD bJ aI : Int32) (pL qF : Nat -> Int32) (jE eW eY dU fY gJ jG nU qB : Int32) (jK : Nat -> Int32) : va_W := [(a_x, .inr (9, [.ref xI, .ref xH, .ref xB, .ref vI, .ref wY, .ref xX, .ref yA, .ref xY, .ref uD])), (xB, .inr (0, [.ref vI, .ref wY, .ref xO])), (vI, .inr (3, [.ref tJ, .ref jJ, .ref mY, .ref pG, .ref pD, .ref pE, .ref eO, .int dN, .int bD, .int bJ, .int aI])), (mY, .inl (cI, 16, .inl pL)), (pG, .inl (cI, 16, .inl qF)), (wY, .inr (2, [.int jE, .int eW, .int eY, .int dU, .int fY, .int gJ, .int jG, .int nU])), (yA, .inr (6, [.ref rG, .int qB])), (rG, .inl (cI, 16, .inl jK))]
abbrev q_X9_autumn (dC : Nat -> ClassId) (dI : Nat -> Nat -> Nat) (cI cC cZ cB cJ : ClassId) (A : Nat -> Prop) (a_x xI xH xB vI wY xX yA xY uD xO tJ jJ mY pG pD pE eO rG : Nat) (dN bD bJ aI : Int32) (pL qF : Nat -> Int32) (jE eW eY dU fY gJ jG nU : Int32) (post : Int32 -> Int32 -> (Nat -> Int32) -> Prop) : Array Value -> State -> Outcome -> State -> Prop := va_Qi (fun (r : Int32) (u : Int32 × (Nat -> Int32)) => post r u.1 u.2) (fun u t => gB (dC, dI) (tyl cI cC cZ cB cJ) A (aGB cI cC cZ cB cJ a_x xI xH xB vI wY xX yA xY uD xO tJ jJ mY pG pD pE eO rG dN bD bJ aI pL qF jE eW eY dU fY gJ jG nU u.1 u.2) t) A
abbrev bBM : Room := { frames := 4, cells := 0, slots := 0, locals := 87 }
section S_X9_autumn
variable {p : Program} {l : Launch} {e : Env} {s : State} {m : MethodId} {args : Array Value} {below : List Frame} {meth : Method} {c : Code} {dC : Nat -> ClassId} {dI : Nat -> Nat -> Nat} {cI cC cZ cB cJ : ClassId} {A : Nat -> Prop} {a_x xI xH xB vI wY xX yA xY uD xO tJ jJ mY pG pD pE eO rG : Nat} {dN bD bJ aI : Int32} {pL qF : Nat -> Int32} {jE eW eY dU fY gJ jG nU : Int32} {post : Int32 -> Int32 -> (Nat -> Int32) -> Prop}
def ws_X9_autumn_170 (post : Int32 -> Int32 -> (Nat -> Int32) -> Prop) (K47 : Int32 -> Int32 -> Int32 -> Int32 -> Int32 -> Int32 -> Int32 -> Int32 -> Int32 -> (Nat -> Int32) -> Prop) (dN : Int32) (pL qF : Nat -> Int32) (jE eW eY dU jG x2 x3 x4 x5 x6 x7 x8 x9 qB : Int32) (jK : Nat -> Int32) : Prop := ∀ aGH : Int32, aGH = x9 + 1 -> K47 x2 x3 x4 x5 x6 x7 x8 aGH qB jK
set_option maxHeartbeats 4000000 in
set_option maxRecDepth 100000 in
theorem ks_X9_autumn_170 (C0 : gc aCD (some .int) 13 RX9 (dC, dI) (tyl cI cC cZ cB cJ) A p s m args meth c) {K47 : Int32 -> Int32 -> Int32 -> Int32 -> Int32 -> Int32 -> Int32 -> Int32 -> Int32 -> (Nat -> Int32) -> Prop} (hK47 : ∀ (x2 : Int32) (x3 : Int32) (x4 : Int32) (x5 : Int32) (x6 : Int32) (x7 : Int32) (x8 : Int32) (x9 : Int32) (qB : Int32) (jK : Nat -> Int32) (H : Heap) (locs : List Loc) (ls : Array Slot), K47 x2 x3 x4 x5 x6 x7 x8 x9 qB jK -> va_P (dC, dI) classes (aGB cI cC cZ cB cJ a_x xI xH xB vI wY xX yA xY uD xO tJ jJ mY pG pD pE eO rG dN bD bJ aI pL qF jE eW eY dU fY gJ jG nU qB jK) H -> va_D A (aGB cI cC cZ cB cJ a_x xI xH xB vI wY xX yA xY uD xO tJ jJ mY pG pD pE eO rG dN bD bJ aI pL qF jE eW eY dU fY gJ jG nU qB jK) -> va_S A s.heap H locs -> lv_has ls 13 [(0, .ref a_x), (2, .int x2), (3, .int x3), (4, .int x4), (5, .int x5), (6, .int x6), (7, .int x7), (8, .int x8), (9, .int x9)] -> W p l e bBM s m args below meth c H locs 0 0 (MQ below (q_X9_autumn dC dI cI cC cZ cB cJ A a_x xI xH xB vI wY xX yA xY uD xO tJ jJ mY pG pD pE eO rG dN bD bJ aI pL qF jE eW eY dU fY gJ jG nU post) args s 0 0 A) (F0 m 47 ls [])) : ∀ (x2 x3 x4 x5 x6 x7 x8 x9 qB : Int32) (jK : Nat -> Int32) (H : Heap) (locs : List Loc) (ls : Array Slot), (ws_X9_autumn_170 post K47 dN pL qF jE eW eY dU jG) x2 x3 x4 x5 x6 x7 x8 x9 qB jK -> va_P (dC, dI) classes (aGB cI cC cZ cB cJ a_x xI xH xB vI wY xX yA xY uD xO tJ jJ mY pG pD pE eO rG dN bD bJ aI pL qF jE eW eY dU fY gJ jG nU qB jK) H -> va_D A (aGB cI cC cZ cB cJ a_x xI xH xB vI wY xX yA xY uD xO tJ jJ mY pG pD pE eO rG dN bD bJ aI pL qF jE eW eY dU fY gJ jG nU qB jK) -> va_S A s.heap H locs -> lv_has ls 13 [(0, .ref a_x), (2, .int x2), (3, .int x3), (4, .int x4), (5, .int x5), (6, .int x6), (7, .int x7), (8, .int x8), (9, .int x9)] -> W p l e bBM s m args below meth c H locs 0 0 (MQ below (q_X9_autumn dC dI cI cC cZ cB cJ A a_x xI xH xB vI wY xX yA xY uD xO tJ jJ mY pG pD pE eO rG dN bD bJ aI pL qF jE eW eY dU fY gJ jG nU post) args s 0 0 A) (F0 m 170 ls []) := by
  obtain ⟨hx, hb, hr, hml, hown, hts, hlocks, hA, hK, hN, tL, tM, hZL, hTL, hZM, hTM, hZX⟩ := id C0
  intro x2 x3 x4 x5 x6 x7 x8 x9 qB jK H locs ls hp hP hD hS hl
  unfold ws_X9_autumn_170 at hp
  obtain ⟨aGH, ev_11⟩ : ∃ y : Int32, y = x9 + 1 := ⟨_, rfl⟩
  refine lv_iinc (v := aGH) (lv' := [(9, .int aGH), (0, .ref a_x), (2, .int x2), (3, .int x3), (4, .int x4), (5, .int x5), (6, .int x6), (7, .int x7), (8, .int x8)]) hx hb aQs.2.2.2.2.2.2.2.2.2.2.2.1 hl (k := 8) rfl (by rw [ev_11]; rfl) (by decide) rfl (fun ls hl => ?_)
  have hp := hp aGH ev_11
  refine lv_goto (tgt := 47) hx hb aQs.2.2.2.2.2.2.2.2.2.2.2.2.1 (by decide) ?_
  exact hK47 x2 x3 x4 x5 x6 x7 x8 aGH qB jK H locs ls hp hP hD hS (lv_sub hl [1, 2, 3, 4, 5, 6, 7, 8, 0] rfl)
def ws_X9_autumn_149 (post : Int32 -> Int32 -> (Nat -> Int32) -> Prop) (K47 : Int32 -> Int32 -> Int32 -> Int32 -> Int32 -> Int32 -> Int32 -> Int32 -> Int32 -> (Nat -> Int32) -> Prop) (K91 : Int32 -> Int32 -> Int32 -> Int32 -> Int32 -> Int32 -> Int32 -> Int32 -> Int32 -> Int32 -> Int32 -> Int32 -> (Nat -> Int32) -> Prop) (dN : Int32) (pL qF : Nat -> Int32) (jE eW eY dU jG x2 x3 x4 x5 x6 x7 x8 x9 x10 x11 x12 qB : Int32) (jK : Nat -> Int32) : Prop := ∀ aIQ : Int32, aIQ = x12 + 1 -> K91 x2 x3 x4 x5 x6 x7 x8 x9 x10 x11 aIQ qB jK
set_option maxHeartbeats 4000000 in
set_option maxRecDepth 100000 in
theorem ks_X9_autumn_149 (C0 : gc aCD (some .int) 13 RX9 (dC, dI) (tyl cI cC cZ cB cJ) A p s m args meth c) {K47 : Int32 -> Int32 -> Int32 -> Int32 -> Int32 -> Int32 -> Int32 -> Int32 -> Int32 -> (Nat -> Int32) -> Prop} {K91 : Int32 -> Int32 -> Int32 -> Int32 -> Int32 -> Int32 -> Int32 -> Int32 -> Int32 -> Int32 -> Int32 -> Int32 -> (Nat -> Int32) -> Prop} (hK47 : ∀ (x2 : Int32) (x3 : Int32) (x4 : Int32) (x5 : Int32) (x6 : Int32) (x7 : Int32) (x8 : Int32) (x9 : Int32) (qB : Int32) (jK : Nat -> Int32) (H : Heap) (locs : List Loc) (ls : Array Slot), K47 x2 x3 x4 x5 x6 x7 x8 x9 qB jK -> va_P (dC, dI) classes (aGB cI cC cZ cB cJ a_x xI xH xB vI wY xX yA xY uD xO tJ jJ mY pG pD pE eO rG dN bD bJ aI pL qF jE eW eY dU fY gJ jG nU qB jK) H -> va_D A (aGB cI cC cZ cB cJ a_x xI xH xB vI wY xX yA xY uD xO tJ jJ mY pG pD pE eO rG dN bD bJ aI pL qF jE eW eY dU fY gJ jG nU qB jK) -> va_S A s.heap H locs -> lv_has ls 13 [(0, .ref a_x), (2, .int x2), (3, .int x3), (4, .int x4), (5, .int x5), (6, .int x6), (7, .int x7), (8, .int x8), (9, .int x9)] -> W p l e bBM s m args below meth c H locs 0 0 (MQ below (q_X9_autumn dC dI cI cC cZ cB cJ A a_x xI xH xB vI wY xX yA xY uD xO tJ jJ mY pG pD pE eO rG dN bD bJ aI pL qF jE eW eY dU fY gJ jG nU post) args s 0 0 A) (F0 m 47 ls [])) (hK91 : ∀ (x2 : Int32) (x3 : Int32) (x4 : Int32) (x5 : Int32) (x6 : Int32) (x7 : Int32) (x8 : Int32) (x9 : Int32) (x10 : Int32) (x11 : Int32) (x12 : Int32) (qB : Int32) (jK : Nat -> Int32) (H : Heap) (locs : List Loc) (ls : Array Slot), K91 x2 x3 x4 x5 x6 x7 x8 x9 x10 x11 x12 qB jK -> va_P (dC, dI) classes (aGB cI cC cZ cB cJ a_x xI xH xB vI wY xX yA xY uD xO tJ jJ mY pG pD pE eO rG dN bD bJ aI pL qF jE eW eY dU fY gJ jG nU qB jK) H -> va_D A (aGB cI cC cZ cB cJ a_x xI xH xB vI wY xX yA xY uD xO tJ jJ mY pG pD pE eO rG dN bD bJ aI pL qF jE eW eY dU fY gJ jG nU qB jK) -> va_S A s.heap H locs -> lv_has ls 13 [(0, .ref a_x), (2, .int x2), (3, .int x3), (4, .int x4), (5, .int x5), (6, .int x6), (7, .int x7), (8, .int x8), (9, .int x9), (10, .int x10), (11, .int x11), (12, .int x12)] -> W p l e bBM s m args below meth c H locs 0 0 (MQ below (q_X9_autumn dC dI cI cC cZ cB cJ A a_x xI xH xB vI wY xX yA xY uD xO tJ jJ mY pG pD pE eO rG dN bD bJ aI pL qF jE eW eY dU fY gJ jG nU post) args s 0 0 A) (F0 m 91 ls [])) : ∀ (x2 x3 x4 x5 x6 x7 x8 x9 x10 x11 x12 qB : Int32) (jK : Nat -> Int32) (H : Heap) (locs : List Loc) (ls : Array Slot), (ws_X9_autumn_149 post K47 K91 dN pL qF jE eW eY dU jG) x2 x3 x4 x5 x6 x7 x8 x9 x10 x11 x12 qB jK -> va_P (dC, dI) classes (aGB cI cC cZ cB cJ a_x xI xH xB vI wY xX yA xY uD xO tJ jJ mY pG pD pE eO rG dN bD bJ aI pL qF jE eW eY dU fY gJ jG nU qB jK) H -> va_D A (aGB cI cC cZ cB cJ a_x xI xH xB vI wY xX yA xY uD xO tJ jJ mY pG pD pE eO rG dN bD bJ aI pL qF jE eW eY dU fY gJ jG nU qB jK) -> va_S A s.heap H locs -> lv_has ls 13 [(0, .ref a_x), (2, .int x2), (3, .int x3), (4, .int x4), (5, .int x5), (6, .int x6), (7, .int x7), (8, .int x8), (9, .int x9), (10, .int x10), (11, .int x11), (12, .int x12)] -> W p l e bBM s m args below meth c H locs 0 0 (MQ below (q_X9_autumn dC dI cI cC cZ cB cJ A a_x xI xH xB vI wY xX yA xY uD xO tJ jJ mY pG pD pE eO rG dN bD bJ aI pL qF jE eW eY dU fY gJ jG nU post) args s 0 0 A) (F0 m 149 ls []) := by
  obtain ⟨hx, hb, hr, hml, hown, hts, hlocks, hA, hK, hN, tL, tM, hZL, hTL, hZM, hTM, hZX⟩ := id C0
  intro x2 x3 x4 x5 x6 x7 x8 x9 x10 x11 x12 qB jK H locs ls hp hP hD hS hl
  unfold ws_X9_autumn_149 at hp
  obtain ⟨aIQ, ev_13⟩ : ∃ y : Int32, y = x12 + 1 := ⟨_, rfl⟩
  refine lv_iinc (v := aIQ) (lv' := [(12, .int aIQ), (0, .ref a_x), (2, .int x2), (3, .int x3), (4, .int x4), (5, .int x5), (6, .int x6), (7, .int x7), (8, .int x8), (9, .int x9), (10, .int x10), (11, .int x11)]) hx hb aQs.2.2.1 hl (k := 11) rfl (by rw [ev_13]; rfl) (by decide) rfl (fun ls hl => ?_)
  have hp := hp aIQ ev_13
  refine lv_goto (tgt := 91) hx hb aQs.2.2.2.1 (by decide) ?_
  exact hK91 x2 x3 x4 x5 x6 x7 x8 x9 x10 x11 aIQ qB jK H locs ls hp hP hD hS (lv_sub hl [1, 2, 3, 4, 5, 6, 7, 8, 9, 10, 11, 0] rfl)
def ws_X9_autumn_91 (post : Int32 -> Int32 -> (Nat -> Int32) -> Prop) (K47 : Int32 -> Int32 -> Int32 -> Int32 -> Int32 -> Int32 -> Int32 -> Int32 -> Int32 -> (Nat -> Int32) -> Prop) (next : Int32 -> Int32 -> Int32 -> Int32 -> Int32 -> Int32 -> Int32 -> Int32 -> Int32 -> Int32 -> Int32 -> Int32 -> (Nat -> Int32) -> Prop) (dN : Int32) (pL qF : Nat -> Int32) (jE eW eY dU jG x2 x3 x4 x5 x6 x7 x8 x9 x10 x11 x12 qB : Int32) (jK : Nat -> Int32) : Prop := (dN <= x12 -> (x11 <= x7 -> ws_X9_autumn_170 post K47 dN pL qF jE eW eY dU jG x2 x3 x4 x5 x6 x7 x8 x9 qB jK) /\ (¬ x11 <= x7 -> ws_X9_autumn_170 post K47 dN pL qF jE eW eY dU jG x2 x3 x4 x5 x6 x11 x9 x9 qB jK)) /\ (¬ dN <= x12 -> ∀ aEp : Int32, aEp = x10 >>> (x12 &&& 31) -> ((aEp &&& 1) = 0 -> ws_X9_autumn_149 post K47 next dN pL qF jE eW eY dU jG x2 x3 x4 x5 x6 x7 x8 x9 x10 x11 x12 qB jK) /\ (¬ (aEp &&& 1) = 0 -> ∀ aGC : Int32, aGC = x4 * 1103515245 -> ∀ aHe : Int32, aHe = aGC + 12345 -> ∀ aHb : Int32, aHb = (aHe.toUInt32 >>> ((16 : Int32).toUInt32 &&& Int32.toUInt32 31)).toInt32 -> ∀ v_17 : Int32, v_17 = aHb - aHb / 10 * 10 -> (x3 <= v_17 -> ws_X9_autumn_149 post K47 next dN pL qF jE eW eY dU jG x2 x3 aHe x5 x6 x7 x8 x9 x10 x11 x12 qB jK) /\ (¬ x3 <= v_17 -> ∀ v_18 : Int32, v_18 = x6 ||| (1 <<< (x12 &&& 31)) -> ∀ v_19 : Int32, v_19 = x11 + 1 -> ws_X9_autumn_149 post K47 next dN pL qF jE eW eY dU jG x2 x3 aHe x5 v_18 x7 x8 x9 x10 v_19 x12 qB jK)))
noncomputable def wb_X9_autumn_91 (post : Int32 -> Int32 -> (Nat -> Int32) -> Prop) (K47 : Int32 -> Int32 -> Int32 -> Int32 -> Int32 -> Int32 -> Int32 -> Int32 -> Int32 -> (Nat -> Int32) -> Prop) (dN : Int32) (pL qF : Nat -> Int32) (jE eW eY dU jG : Int32) : Nat -> Int32 -> Int32 -> Int32 -> Int32 -> Int32 -> Int32 -> Int32 -> Int32 -> Int32 -> Int32 -> Int32 -> Int32 -> (Nat -> Int32) -> Prop := fun n => Nat.rec (motive := fun _ => Int32 -> Int32 -> Int32 -> Int32 -> Int32 -> Int32 -> Int32 -> Int32 -> Int32 -> Int32 -> Int32 -> Int32 -> (Nat -> Int32) -> Prop) (fun _ _ _ _ _ _ _ _ _ _ _ _ _ => False) (fun _ ih => ws_X9_autumn_91 post K47 ih dN pL qF jE eW eY dU jG) n
set_option maxHeartbeats 4000000 in
set_option maxRecDepth 100000 in
theorem ks_X9_autumn_91 (C0 : gc aCD (some .int) 13 RX9 (dC, dI) (tyl cI cC cZ cB cJ) A p s m args meth c) {K47 : Int32 -> Int32 -> Int32 -> Int32 -> Int32 -> Int32 -> Int32 -> Int32 -> Int32 -> (Nat -> Int32) -> Prop} {next : Int32 -> Int32 -> Int32 -> Int32 -> Int32 -> Int32 -> Int32 -> Int32 -> Int32 -> Int32 -> Int32 -> Int32 -> (Nat -> Int32) -> Prop} (hK47 : ∀ (x2 : Int32) (x3 : Int32) (x4 : Int32) (x5 : Int32) (x6 : Int32) (x7 : Int32) (x8 : Int32) (x9 : Int32) (qB : Int32) (jK : Nat -> Int32) (H : Heap) (locs : List Loc) (ls : Array Slot), K47 x2 x3 x4 x5 x6 x7 x8 x9 qB jK -> va_P (dC, dI) classes (aGB cI cC cZ cB cJ a_x xI xH xB vI wY xX yA xY uD xO tJ jJ mY pG pD pE eO rG dN bD bJ aI pL qF jE eW eY dU fY gJ jG nU qB jK) H -> va_D A (aGB cI cC cZ cB cJ a_x xI xH xB vI wY xX yA xY uD xO tJ jJ mY pG pD pE eO rG dN bD bJ aI pL qF jE eW eY dU fY gJ jG nU qB jK) -> va_S A s.heap H locs -> lv_has ls 13 [(0, .ref a_x), (2, .int x2), (3, .int x3), (4, .int x4), (5, .int x5), (6, .int x6), (7, .int x7), (8, .int x8), (9, .int x9)] -> W p l e bBM s m args below meth c H locs 0 0 (MQ below (q_X9_autumn dC dI cI cC cZ cB cJ A a_x xI xH xB vI wY xX yA xY uD xO tJ jJ mY pG pD pE eO rG dN bD bJ aI pL qF jE eW eY dU fY gJ jG nU post) args s 0 0 A) (F0 m 47 ls [])) (hKn : ∀ (x2 : Int32) (x3 : Int32) (x4 : Int32) (x5 : Int32) (x6 : Int32) (x7 : Int32) (x8 : Int32) (x9 : Int32) (x10 : Int32) (x11 : Int32) (x12 : Int32) (qB : Int32) (jK : Nat -> Int32) (H : Heap) (locs : List Loc) (ls : Array Slot), next x2 x3 x4 x5 x6 x7 x8 x9 x10 x11 x12 qB jK -> va_P (dC, dI) classes (aGB cI cC cZ cB cJ a_x xI xH xB vI wY xX yA xY uD xO tJ jJ mY pG pD pE eO rG dN bD bJ aI pL qF jE eW eY dU fY gJ jG nU qB jK) H -> va_D A (aGB cI cC cZ cB cJ a_x xI xH xB vI wY xX yA xY uD xO tJ jJ mY pG pD pE eO rG dN bD bJ aI pL qF jE eW eY dU fY gJ jG nU qB jK) -> va_S A s.heap H locs -> lv_has ls 13 [(0, .ref a_x), (2, .int x2), (3, .int x3), (4, .int x4), (5, .int x5), (6, .int x6), (7, .int x7), (8, .int x8), (9, .int x9), (10, .int x10), (11, .int x11), (12, .int x12)] -> W p l e bBM s m args below meth c H locs 0 0 (MQ below (q_X9_autumn dC dI cI cC cZ cB cJ A a_x xI xH xB vI wY xX yA xY uD xO tJ jJ mY pG pD pE eO rG dN bD bJ aI pL qF jE eW eY dU fY gJ jG nU post) args s 0 0 A) (F0 m 91 ls [])) : ∀ (x2 x3 x4 x5 x6 x7 x8 x9 x10 x11 x12 qB : Int32) (jK : Nat -> Int32) (H : Heap) (locs : List Loc) (ls : Array Slot), (ws_X9_autumn_91 post K47 next dN pL qF jE eW eY dU jG) x2 x3 x4 x5 x6 x7 x8 x9 x10 x11 x12 qB jK -> va_P (dC, dI) classes (aGB cI cC cZ cB cJ a_x xI xH xB vI wY xX yA xY uD xO tJ jJ mY pG pD pE eO rG dN bD bJ aI pL qF jE eW eY dU fY gJ jG nU qB jK) H -> va_D A (aGB cI cC cZ cB cJ a_x xI xH xB vI wY xX yA xY uD xO tJ jJ mY pG pD pE eO rG dN bD bJ aI pL qF jE eW eY dU fY gJ jG nU qB jK) -> va_S A s.heap H locs -> lv_has ls 13 [(0, .ref a_x), (2, .int x2), (3, .int x3), (4, .int x4), (5, .int x5), (6, .int x6), (7, .int x7), (8, .int x8), (9, .int x9), (10, .int x10), (11, .int x11), (12, .int x12)] -> W p l e bBM s m args below meth c H locs 0 0 (MQ below (q_X9_autumn dC dI cI cC cZ cB cJ A a_x xI xH xB vI wY xX yA xY uD xO tJ jJ mY pG pD pE eO rG dN bD bJ aI pL qF jE eW eY dU fY gJ jG nU post) args s 0 0 A) (F0 m 91 ls []) := by
  obtain ⟨hx, hb, hr, hml, hown, hts, hlocks, hA, hK, hN, tL, tM, hZL, hTL, hZM, hTM, hZX⟩ := id C0
  intro x2 x3 x4 x5 x6 x7 x8 x9 x10 x11 x12 qB jK H locs ls hp hP hD hS hl
  unfold ws_X9_autumn_91 at hp
  refine lv_iload hx hb aTj.2.2.2.1 (lv_at hl 11 rfl) ?_
  refine lv_aload_n hx hb aTj.2.2.2.2.1 rfl (lv_at hl 0 rfl) ?_
  refine va_get (D := (dC, dI)) (ci := 9) (v := .ref vI) (C := RX9) (T := TX9) (N := 9) hx hb hts aC3 hown hK hP 0 rfl rfl 3 (lbz rfl) (hts _ q_74) (fun _ h9 => h9) rfl aTj.2.2.2.2.2.1 ?_
  refine va_get (D := (dC, dI)) (ci := 3) (v := .int dN) (C := RX3) (T := TX3) (N := 11) hx hb hts i_X3 hown hK hP 2 rfl rfl 7 (lbz rfl) (hts _ q_539) (fun _ h9 => h9) rfl aTj.2.2.2.2.2.2.1 ?_
  refine lv_icmp_ge (tgt := 155) hx hb aTj.2.2.2.2.2.2.2.1 (by decide) (fun hc => ?_) (fun hc => ?_)
  · have hp := hp.1 hc
    refine lv_iload hx hb aQs.2.2.2.2.1 (lv_at hl 10 rfl) ?_
    refine lv_iload hx hb aQs.2.2.2.2.2.1 (lv_at hl 6 rfl) ?_
    refine lv_icmp_le (tgt := 170) hx hb aQs.2.2.2.2.2.2.1 (by decide) (fun hc => ?_) (fun hc => ?_)
    · have hp := hp.1 hc
      exact ks_X9_autumn_170 C0 hK47 x2 x3 x4 x5 x6 x7 x8 x9 qB jK H locs ls hp hP hD hS (lv_sub hl [0, 1, 2, 3, 4, 5, 6, 7, 8] rfl)
    · have hp := hp.2 hc
      refine lv_iload hx hb aQs.2.2.2.2.2.2.2.1 (lv_at hl 10 rfl) ?_
      refine lv_istore (lv' := [(7, .int x11), (0, .ref a_x), (2, .int x2), (3, .int x3), (4, .int x4), (5, .int x5), (6, .int x6), (8, .int x8), (9, .int x9), (10, .int x10), (11, .int x11), (12, .int x12)]) hx hb aQs.2.2.2.2.2.2.2.2.1 hl (by decide) rfl (fun ls hl => ?_)
      refine lv_iload hx hb aQs.2.2.2.2.2.2.2.2.2.1 (lv_at hl 8 rfl) ?_
      refine lv_istore (lv' := [(8, .int x9), (7, .int x11), (0, .ref a_x), (2, .int x2), (3, .int x3), (4, .int x4), (5, .int x5), (6, .int x6), (9, .int x9), (10, .int x10), (11, .int x11), (12, .int x12)]) hx hb aQs.2.2.2.2.2.2.2.2.2.2.1 hl (by decide) rfl (fun ls hl => ?_)
      exact ks_X9_autumn_170 C0 hK47 x2 x3 x4 x5 x6 x11 x9 x9 qB jK H locs ls hp hP hD hS (lv_sub hl [2, 3, 4, 5, 6, 7, 1, 0, 8] rfl)
  · have hp := hp.2 hc
    refine lv_iload hx hb aTj.2.2.2.2.2.2.2.2.1 (lv_at hl 9 rfl) ?_
    refine lv_iload hx hb aTj.2.2.2.2.2.2.2.2.2.1 (lv_at hl 11 rfl) ?_
    refine lv_ishr hx hb aTj.2.2.2.2.2.2.2.2.2.2.1 ?_
    refine lv_topi (fun aEp ev_12 => ?_)
    have hp := hp aEp ev_12
    refine lv_iconst (v := 1) hx hb aTj.2.2.2.2.2.2.2.2.2.2.2.1 aDx ?_
    refine lv_iand hx hb aTj.2.2.2.2.2.2.2.2.2.2.2.2.1 ?_
    refine lv_if_eq (tgt := 149) hx hb aTj.2.2.2.2.2.2.2.2.2.2.2.2.2.1 (by decide) (fun hc => ?_) (fun hc => ?_)
    · have hp := hp.1 hc
      exact ks_X9_autumn_149 C0 hK47 hKn x2 x3 x4 x5 x6 x7 x8 x9 x10 x11 x12 qB jK H locs ls hp hP hD hS (lv_sub hl [0, 1, 2, 3, 4, 5, 6, 7, 8, 9, 10, 11] rfl)
    · have hp := hp.2 hc
      refine lv_iload hx hb aTj.2.2.2.2.2.2.2.2.2.2.2.2.2.2.1 (lv_at hl 3 rfl) ?_
      refine lv_ldcw (v := 1103515245) hx hb hown (hts _ q_624) aTj.2.2.2.2.2.2.2.2.2.2.2.2.2.2.2 ?_
      refine lv_imul hx hb aQr.1 ?_
      refine lv_topi (fun aGC ev_14 => ?_)
      have hp := hp aGC ev_14
      refine lv_sipush (v := 12345) hx hb aQr.2.1 sp_12345 ?_
      refine lv_iadd hx hb aQr.2.2.1 ?_
      refine lv_topi (fun aHe ev_15 => ?_)
      have hp := hp aHe ev_15
      refine lv_istore (lv' := [(4, .int aHe), (0, .ref a_x), (2, .int x2), (3, .int x3), (5, .int x5), (6, .int x6), (7, .int x7), (8, .int x8), (9, .int x9), (10, .int x10), (11, .int x11), (12, .int x12)]) hx hb aQr.2.2.2.1 hl (by decide) rfl (fun ls hl => ?_)
      refine lv_iload hx hb aQr.2.2.2.2.1 (lv_at hl 0 rfl) ?_
      refine lv_bipush (v := 16) hx hb aQr.2.2.2.2.2.1 bp_16 ?_
      refine lv_iushr hx hb aQr.2.2.2.2.2.2.1 rfl ?_
      refine lv_topi (fun aHb ev_16 => ?_)
      have hp := hp aHb ev_16
      refine lv_bipush (v := 10) hx hb aQr.2.2.2.2.2.2.2.1 bp_10 ?_
      refine lv_irem hx hb aQr.2.2.2.2.2.2.2.2.1 (by decide) ?_
      refine lv_topi (fun v_17 ev_17 => ?_)
      have hp := hp v_17 ev_17
      refine lv_iload_n hx hb aQr.2.2.2.2.2.2.2.2.2.1 rfl (lv_at hl 3 rfl) ?_
      refine lv_icmp_ge (tgt := 149) hx hb aQr.2.2.2.2.2.2.2.2.2.2.1 (by decide) (fun hc => ?_) (fun hc => ?_)
      · have hp := hp.1 hc
        exact ks_X9_autumn_149 C0 hK47 hKn x2 x3 aHe x5 x6 x7 x8 x9 x10 x11 x12 qB jK H locs ls hp hP hD hS (lv_sub hl [1, 2, 3, 0, 4, 5, 6, 7, 8, 9, 10, 11] rfl)
      · have hp := hp.2 hc
        refine lv_iload hx hb aQr.2.2.2.2.2.2.2.2.2.2.2.1 (lv_at hl 5 rfl) ?_
        refine lv_iconst (v := 1) hx hb aQr.2.2.2.2.2.2.2.2.2.2.2.2.1 aDx ?_
        refine lv_iload hx hb aQr.2.2.2.2.2.2.2.2.2.2.2.2.2.1 (lv_at hl 11 rfl) ?_
        refine lv_ishl hx hb aQr.2.2.2.2.2.2.2.2.2.2.2.2.2.2.1 ?_
        refine lv_ior hx hb aQr.2.2.2.2.2.2.2.2.2.2.2.2.2.2.2 ?_
        refine lv_topi (fun v_18 ev_18 => ?_)
        have hp := hp v_18 ev_18
        refine lv_istore (lv' := [(6, .int v_18), (4, .int aHe), (0, .ref a_x), (2, .int x2), (3, .int x3), (5, .int x5), (7, .int x7), (8, .int x8), (9, .int x9), (10, .int x10), (11, .int x11), (12, .int x12)]) hx hb aQs.1 hl (by decide) rfl (fun ls hl => ?_)
        obtain ⟨v_19, ev_19⟩ : ∃ y : Int32, y = x11 + 1 := ⟨_, rfl⟩
        refine lv_iinc (v := v_19) (lv' := [(11, .int v_19), (6, .int v_18), (4, .int aHe), (0, .ref a_x), (2, .int x2), (3, .int x3), (5, .int x5), (7, .int x7), (8, .int x8), (9, .int x9), (10, .int x10), (12, .int x12)]) hx hb aQs.2.1 hl (k := 10) rfl (by rw [ev_19]; rfl) (by decide) rfl (fun ls hl => ?_)
        have hp := hp v_19 ev_19
        exact ks_X9_autumn_149 C0 hK47 hKn x2 x3 aHe x5 v_18 x7 x8 x9 x10 v_19 x12 qB jK H locs ls hp hP hD hS (lv_sub hl [3, 4, 5, 2, 6, 1, 7, 8, 9, 10, 0, 11] rfl)
set_option maxHeartbeats 4000000 in
set_option maxRecDepth 100000 in
theorem kb_X9_autumn_91 (C0 : gc aCD (some .int) 13 RX9 (dC, dI) (tyl cI cC cZ cB cJ) A p s m args meth c) {K47 : Int32 -> Int32 -> Int32 -> Int32 -> Int32 -> Int32 -> Int32 -> Int32 -> Int32 -> (Nat -> Int32) -> Prop} (hK47 : ∀ (x2 : Int32) (x3 : Int32) (x4 : Int32) (x5 : Int32) (x6 : Int32) (x7 : Int32) (x8 : Int32) (x9 : Int32) (qB : Int32) (jK : Nat -> Int32) (H : Heap) (locs : List Loc) (ls : Array Slot), K47 x2 x3 x4 x5 x6 x7 x8 x9 qB jK -> va_P (dC, dI) classes (aGB cI cC cZ cB cJ a_x xI xH xB vI wY xX yA xY uD xO tJ jJ mY pG pD pE eO rG dN bD bJ aI pL qF jE eW eY dU fY gJ jG nU qB jK) H -> va_D A (aGB cI cC cZ cB cJ a_x xI xH xB vI wY xX yA xY uD xO tJ jJ mY pG pD pE eO rG dN bD bJ aI pL qF jE eW eY dU fY gJ jG nU qB jK) -> va_S A s.heap H locs -> lv_has ls 13 [(0, .ref a_x), (2, .int x2), (3, .int x3), (4, .int x4), (5, .int x5), (6, .int x6), (7, .int x7), (8, .int x8), (9, .int x9)] -> W p l e bBM s m args below meth c H locs 0 0 (MQ below (q_X9_autumn dC dI cI cC cZ cB cJ A a_x xI xH xB vI wY xX yA xY uD xO tJ jJ mY pG pD pE eO rG dN bD bJ aI pL qF jE eW eY dU fY gJ jG nU post) args s 0 0 A) (F0 m 47 ls [])) : ∀ (n : Nat), ∀ (x2 x3 x4 x5 x6 x7 x8 x9 x10 x11 x12 qB : Int32) (jK : Nat -> Int32) (H : Heap) (locs : List Loc) (ls : Array Slot), (wb_X9_autumn_91 post K47 dN pL qF jE eW eY dU jG n) x2 x3 x4 x5 x6 x7 x8 x9 x10 x11 x12 qB jK -> va_P (dC, dI) classes (aGB cI cC cZ cB cJ a_x xI xH xB vI wY xX yA xY uD xO tJ jJ mY pG pD pE eO rG dN bD bJ aI pL qF jE eW eY dU fY gJ jG nU qB jK) H -> va_D A (aGB cI cC cZ cB cJ a_x xI xH xB vI wY xX yA xY uD xO tJ jJ mY pG pD pE eO rG dN bD bJ aI pL qF jE eW eY dU fY gJ jG nU qB jK) -> va_S A s.heap H locs -> lv_has ls 13 [(0, .ref a_x), (2, .int x2), (3, .int x3), (4, .int x4), (5, .int x5), (6, .int x6), (7, .int x7), (8, .int x8), (9, .int x9), (10, .int x10), (11, .int x11), (12, .int x12)] -> W p l e bBM s m args below meth c H locs 0 0 (MQ below (q_X9_autumn dC dI cI cC cZ cB cJ A a_x xI xH xB vI wY xX yA xY uD xO tJ jJ mY pG pD pE eO rG dN bD bJ aI pL qF jE eW eY dU fY gJ jG nU post) args s 0 0 A) (F0 m 91 ls []) := by
  intro n
  induction n with
  | zero =>
    intro x2 x3 x4 x5 x6 x7 x8 x9 x10 x11 x12 qB jK H locs ls hp
    exact False.elim hp
  | succ n ih =>
    intro x2 x3 x4 x5 x6 x7 x8 x9 x10 x11 x12 qB jK H locs ls hp
    exact ks_X9_autumn_91 C0 hK47 ih x2 x3 x4 x5 x6 x7 x8 x9 x10 x11 x12 qB jK H locs ls hp
def ws_X9_autumn_47 (post : Int32 -> Int32 -> (Nat -> Int32) -> Prop) (next : Int32 -> Int32 -> Int32 -> Int32 -> Int32 -> Int32 -> Int32 -> Int32 -> Int32 -> (Nat -> Int32) -> Prop) (dN : Int32) (pL qF : Nat -> Int32) (jE eW eY dU jG x2 x3 x4 x5 x6 x7 x8 x9 qB : Int32) (jK : Nat -> Int32) : Prop := (x2 < x9 -> aVC (fun r_2 => wp_X9_tell__ (fun aNH aHk => aBb (fun r_5 => post r_5 aNH aHk) x6) x6 r_2 x8 qB jK) x6 dN pL dU) /\ (¬ x2 < x9 -> ∀ v_6 : Int32, v_6 = x5 &&& (x6 ^^^ (-1)) -> ∀ v_7 : Int32, v_7 = jG + x9 -> ∀ v_8 : Int32, v_8 = (if v_7 < 9 then v_7 else 9) -> aZj (fun r_9 => ∀ aEr : Int32, aEr = v_6 &&& r_9 -> ∃ n : Nat, wb_X9_autumn_91 post next dN pL qF jE eW eY dU jG n x2 x3 x4 x5 x6 x7 x8 x9 aEr 0 0 qB jK) v_8 dN qF)
noncomputable def wb_X9_autumn_47 (post : Int32 -> Int32 -> (Nat -> Int32) -> Prop) (dN : Int32) (pL qF : Nat -> Int32) (jE eW eY dU jG : Int32) : Nat -> Int32 -> Int32 -> Int32 -> Int32 -> Int32 -> Int32 -> Int32 -> Int32 -> Int32 -> (Nat -> Int32) -> Prop := fun n => Nat.rec (motive := fun _ => Int32 -> Int32 -> Int32 -> Int32 -> Int32 -> Int32 -> Int32 -> Int32 -> Int32 -> (Nat -> Int32) -> Prop) (fun _ _ _ _ _ _ _ _ _ _ => False) (fun _ ih => ws_X9_autumn_47 post ih dN pL qF jE eW eY dU jG) n
set_option maxHeartbeats 4000000 in
set_option maxRecDepth 100000 in
theorem ks_X9_autumn_47 (C0 : gc aCD (some .int) 13 RX9 (dC, dI) (tyl cI cC cZ cB cJ) A p s m args meth c) {next : Int32 -> Int32 -> Int32 -> Int32 -> Int32 -> Int32 -> Int32 -> Int32 -> Int32 -> (Nat -> Int32) -> Prop} (hKn : ∀ (x2 : Int32) (x3 : Int32) (x4 : Int32) (x5 : Int32) (x6 : Int32) (x7 : Int32) (x8 : Int32) (x9 : Int32) (qB : Int32) (jK : Nat -> Int32) (H : Heap) (locs : List Loc) (ls : Array Slot), next x2 x3 x4 x5 x6 x7 x8 x9 qB jK -> va_P (dC, dI) classes (aGB cI cC cZ cB cJ a_x xI xH xB vI wY xX yA xY uD xO tJ jJ mY pG pD pE eO rG dN bD bJ aI pL qF jE eW eY dU fY gJ jG nU qB jK) H -> va_D A (aGB cI cC cZ cB cJ a_x xI xH xB vI wY xX yA xY uD xO tJ jJ mY pG pD pE eO rG dN bD bJ aI pL qF jE eW eY dU fY gJ jG nU qB jK) -> va_S A s.heap H locs -> lv_has ls 13 [(0, .ref a_x), (2, .int x2), (3, .int x3), (4, .int x4), (5, .int x5), (6, .int x6), (7, .int x7), (8, .int x8), (9, .int x9)] -> W p l e bBM s m args below meth c H locs 0 0 (MQ below (q_X9_autumn dC dI cI cC cZ cB cJ A a_x xI xH xB vI wY xX yA xY uD xO tJ jJ mY pG pD pE eO rG dN bD bJ aI pL qF jE eW eY dU fY gJ jG nU post) args s 0 0 A) (F0 m 47 ls [])) : ∀ (x2 x3 x4 x5 x6 x7 x8 x9 qB : Int32) (jK : Nat -> Int32) (H : Heap) (locs : List Loc) (ls : Array Slot), (ws_X9_autumn_47 post next dN pL qF jE eW eY dU jG) x2 x3 x4 x5 x6 x7 x8 x9 qB jK -> va_P (dC, dI) classes (aGB cI cC cZ cB cJ a_x xI xH xB vI wY xX yA xY uD xO tJ jJ mY pG pD pE eO rG dN bD bJ aI pL qF jE eW eY dU fY gJ jG nU qB jK) H -> va_D A (aGB cI cC cZ cB cJ a_x xI xH xB vI wY xX yA xY uD xO tJ jJ mY pG pD pE eO rG dN bD bJ aI pL qF jE eW eY dU fY gJ jG nU qB jK) -> va_S A s.heap H locs -> lv_has ls 13 [(0, .ref a_x), (2, .int x2), (3, .int x3), (4, .int x4), (5, .int x5), (6, .int x6), (7, .int x7), (8, .int x8), (9, .int x9)] -> W p l e bBM s m args below meth c H locs 0 0 (MQ below (q_X9_autumn dC dI cI cC cZ cB cJ A a_x xI xH xB vI wY xX yA xY uD xO tJ jJ mY pG pD pE eO rG dN bD bJ aI pL qF jE eW eY dU fY gJ jG nU post) args s 0 0 A) (F0 m 47 ls []) := by
  obtain ⟨hx, hb, hr, hml, hown, hts, hlocks, hA, hK, hN, tL, tM, hZL, hTL, hZM, hTM, hZX⟩ := id C0
  intro x2 x3 x4 x5 x6 x7 x8 x9 qB jK H locs ls hp hP hD hS hl
  unfold ws_X9_autumn_47 at hp
  refine lv_iload hx hb aTh.2.2.2.2.2.2.2.2.2.2.2.1 (lv_at hl 8 rfl) ?_
  refine lv_iload_n hx hb aTh.2.2.2.2.2.2.2.2.2.2.2.2.1 rfl (lv_at hl 1 rfl) ?_
  refine lv_icmp_gt (tgt := 176) hx hb aTh.2.2.2.2.2.2.2.2.2.2.2.2.2.1 (by decide) (fun hc => ?_) (fun hc => ?_)
  · have hp := hp.1 hc
    refine lv_aload_n hx hb aQs.2.2.2.2.2.2.2.2.2.2.2.2.2.1 rfl (lv_at hl 0 rfl) ?_
    refine lv_iload hx hb aQs.2.2.2.2.2.2.2.2.2.2.2.2.2.2.1 (lv_at hl 5 rfl) ?_
    refine lv_aload_n hx hb aQs.2.2.2.2.2.2.2.2.2.2.2.2.2.2.2 rfl (lv_at hl 0 rfl) ?_
    refine va_get (D := (dC, dI)) (ci := 9) (v := .ref xB) (C := RX9) (T := TX9) (N := 9) hx hb hts aC3 hown hK hP 0 rfl rfl 2 (lbz rfl) (hts _ q_146) (fun _ h9 => h9) rfl eX9_autumn_180.1 ?_
    refine lv_iload hx hb eX9_autumn_180.2.1 (lv_at hl 5 rfl) ?_
    have hm := mgk (wc := (aT8 cI cC cZ cB cJ xB vI wY xO tJ jJ mY pG pD pE eO dN bD bJ aI pL jE eW eY dU fY gJ jG nU)) hP mk_182 8 rfl rfl rfl
    refine yW hP hD hS hA (yS mk_182) (aAi mk_182) hm.1 hm.2 (aAk _) (zW _) (zF (As := [.int x6]) (rest := [.int x6, .ref a_x]) C0 hP hD hS (yS mk_182) hm.1 (aAl _) 1 0 rfl rfl (c_X0_worthOf l dC dI cI cC cZ cB cJ xB vI wY xO tJ jJ mY pG pD pE eO H.size x6 dN bD bJ aI pL jE eW eY dU fY gJ jG nU _ hp) q_297 q_417 q_298 q_299 q_187 h_X0_worthOf rfl rfl ⟨lbz rfl, lbz rfl⟩ rfl rfl hl.1 rfl (lv_room (lbz rfl)) eX9_autumn_180.2.2.1 ⟨Nat.zero_le _, Nat.zero_le _⟩) (fun r_2 u H locs hp hP hD hS => ?_)
    have hPD := PDm (ws' := (aGB cI cC cZ cB cJ a_x xI xH xB vI wY xX yA xY uD xO tJ jJ mY pG pD pE eO rG dN bD bJ aI pL qF jE eW eY dU fY gJ jG nU qB jK)) hP hD 8 rfl rfl rfl
    have hP := hPD.1
    have hD := hPD.2
    refine lv_iload hx hb eX9_autumn_180.2.2.2.1 (lv_at hl 7 rfl) ?_
    have hm := mgk (wc := (wd_X9_tell__ cI cC cZ cB cJ a_x xI xH xB vI wY xX yA xY uD rG qB jK)) hP aLf 8 rfl rfl rfl
    refine aBn hP hD hS hA (yS aLf) (aAi aLf) hm.1 hm.2 (aAk _) (zW _) (zF (As := [.int x6, .int r_2, .int x8]) (rest := []) C0 hP hD hS (yS aLf) hm.1 (aAl _) 0 9 rfl rfl (c_X9_tell__ l dC dI cI cC cZ cB cJ a_x xI xH xB vI wY xX yA xY uD rG H.size x6 r_2 x8 qB jK _ hp) q_535 q_538 q_536 q_537 aIl h_X9_tell__ rfl rfl ⟨lbz rfl, lbz rfl⟩ rfl rfl hl.1 rfl (lv_room (lbz rfl)) eX9_autumn_180.2.2.2.2.1 ⟨Nat.zero_le _, Nat.zero_le _⟩) (fun u H locs hp hP hD hS => ?_)
    obtain ⟨aNH, aHk⟩ := u
    have hPD := PDm (ws' := (aGB cI cC cZ cB cJ a_x xI xH xB vI wY xX yA xY uD xO tJ jJ mY pG pD pE eO rG dN bD bJ aI pL qF jE eW eY dU fY gJ jG nU aNH aHk)) hP hD 8 rfl rfl rfl
    have hP := hPD.1
    have hD := hPD.2
    refine lv_iload hx hb eX9_autumn_180.2.2.2.2.2.1 (lv_at hl 5 rfl) ?_
    have hm := mgk (wc := (aBh cI cC cZ cB cJ)) hP aRc 8 rfl rfl rfl
    refine yW hP hD hS hA (yS aRc) (aAi aRc) hm.1 hm.2 (aAk _) (zW _) (aDn (As := [.int x6]) (rest := []) C0 hP hD hS (yS aRc) hm.1 (aAl _) (aBv l dC dI cI cC cZ cB cJ H.size x6 _ hp) q_320 q_474 q_322 q_321 aBw rfl rfl ⟨lbz rfl, lbz rfl⟩ rfl rfl hl.1 rfl (lv_room (lbz rfl)) eX9_autumn_180.2.2.2.2.2.2.1 ⟨Nat.zero_le _, Nat.zero_le _⟩) (fun r_5 u H locs hp hP hD hS => ?_)
    have hPD := PDm (ws' := (aGB cI cC cZ cB cJ a_x xI xH xB vI wY xX yA xY uD xO tJ jJ mY pG pD pE eO rG dN bD bJ aI pL qF jE eW eY dU fY gJ jG nU aNH aHk)) hP hD 8 rfl rfl rfl
    have hP := hPD.1
    have hD := hPD.2
    exact W.iret (v := r_5) hx hb hr (fun t ht hW => ⟨⟨r_5, (aNH, aHk), rfl, hp, by rw [ht]; exact hP, va_K.moved hW.alike hK, hD⟩, hS.F ht⟩) hS.2.2 eX9_autumn_180.2.2.2.2.2.2.2
  · have hp := hp.2 hc
    refine lv_iload hx hb aTh.2.2.2.2.2.2.2.2.2.2.2.2.2.2.1 (lv_at hl 4 rfl) ?_
    refine lv_iload hx hb aTh.2.2.2.2.2.2.2.2.2.2.2.2.2.2.2 (lv_at hl 5 rfl) ?_
    refine lv_iconst (v := (-1)) hx hb aTi.1 aEJ ?_
    refine lv_ixor hx hb aTi.2.1 ?_
    refine lv_iand hx hb aTi.2.2.1 ?_
    refine lv_topi (fun v_6 ev_6 => ?_)
    have hp := hp v_6 ev_6
    refine lv_aload_n hx hb aTi.2.2.2.1 rfl (lv_at hl 0 rfl) ?_
    refine va_get (D := (dC, dI)) (ci := 9) (v := .ref vI) (C := RX9) (T := TX9) (N := 9) hx hb hts aC3 hown hK hP 0 rfl rfl 3 (lbz rfl) (hts _ q_74) (fun _ h9 => h9) rfl aTi.2.2.2.2.1 ?_
    refine lv_bipush (v := 9) hx hb aTi.2.2.2.2.2.1 bp_9 ?_
    refine lv_aload_n hx hb aTi.2.2.2.2.2.2.1 rfl (lv_at hl 0 rfl) ?_
    refine va_get (D := (dC, dI)) (ci := 9) (v := .ref wY) (C := RX9) (T := TX9) (N := 9) hx hb hts aC3 hown hK hP 0 rfl rfl 4 (lbz rfl) (hts _ q_179) (fun _ h9 => h9) rfl aTi.2.2.2.2.2.2.2.1 ?_
    refine va_get (D := (dC, dI)) (ci := 2) (v := .int jG) (C := RX2) (T := TX2) (N := 8) hx hb hts i_X2 hown hK hP 5 rfl rfl 6 (lbz rfl) (hts _ q_542) (fun _ h9 => h9) rfl aTi.2.2.2.2.2.2.2.2.1 ?_
    refine lv_iload hx hb aTi.2.2.2.2.2.2.2.2.2.1 (lv_at hl 8 rfl) ?_
    refine lv_iadd hx hb aTi.2.2.2.2.2.2.2.2.2.2.1 ?_
    refine lv_topi (fun v_7 ev_7 => ?_)
    have hp := hp v_7 ev_7
    refine va_mmin hx hb (by rw [hml]; exact hl.1.symm) hown (hts _ q_623) (hts _ q_15) (hts _ q_16) (hts _ q_17) (lbz rfl) (lbz rfl) (Nat.zero_le _) (Nat.zero_le _) aTi.2.2.2.2.2.2.2.2.2.2.2.1 ?_
    refine lv_topi (fun v_8 ev_8 => ?_)
    have hp := hp v_8 ev_8
    have hm := mgk (wc := (aLw cI cC cZ cB cJ vI tJ jJ mY pG pD pE eO dN bD bJ aI qF)) hP mk_184 8 rfl rfl rfl
    refine yW hP hD hS hA (yS mk_184) (aAi mk_184) hm.1 hm.2 (aAk _) (zW _) (zF (As := [.int v_8]) (rest := [.int v_6]) C0 hP hD hS (yS mk_184) hm.1 (aAl _) 2 3 rfl rfl (c_X3_ripeBy l dC dI cI cC cZ cB cJ vI tJ jJ mY pG pD pE eO H.size v_8 dN bD bJ aI qF _ hp) q_343 q_544 q_344 q_345 q_48 h_X3_ripeBy rfl rfl ⟨lbz rfl, lbz rfl⟩ rfl rfl hl.1 rfl (lv_room (lbz rfl)) aTi.2.2.2.2.2.2.2.2.2.2.2.2.1 ⟨Nat.zero_le _, Nat.zero_le _⟩) (fun r_9 u H locs hp hP hD hS => ?_)
    have hPD := PDm (ws' := (aGB cI cC cZ cB cJ a_x xI xH xB vI wY xX yA xY uD xO tJ jJ mY pG pD pE eO rG dN bD bJ aI pL qF jE eW eY dU fY gJ jG nU qB jK)) hP hD 8 rfl rfl rfl
    have hP := hPD.1
    have hD := hPD.2
    refine lv_iand hx hb aTi.2.2.2.2.2.2.2.2.2.2.2.2.2.1 ?_
    refine lv_topi (fun aEr aNB => ?_)
    have hp := hp aEr aNB
    refine lv_istore (lv' := [(10, .int aEr), (0, .ref a_x), (2, .int x2), (3, .int x3), (4, .int x4), (5, .int x5), (6, .int x6), (7, .int x7), (8, .int x8), (9, .int x9)]) hx hb aTi.2.2.2.2.2.2.2.2.2.2.2.2.2.2.1 hl (by decide) rfl (fun ls hl => ?_)
    refine lv_iconst (v := 0) hx hb aTi.2.2.2.2.2.2.2.2.2.2.2.2.2.2.2 aCi ?_
    refine lv_istore (lv' := [(11, .int 0), (10, .int aEr), (0, .ref a_x), (2, .int x2), (3, .int x3), (4, .int x4), (5, .int x5), (6, .int x6), (7, .int x7), (8, .int x8), (9, .int x9)]) hx hb aTj.1 hl (by decide) rfl (fun ls hl => ?_)
    refine lv_iconst (v := 0) hx hb aTj.2.1 aCi ?_
    refine lv_istore (lv' := [(12, .int 0), (11, .int 0), (10, .int aEr), (0, .ref a_x), (2, .int x2), (3, .int x3), (4, .int x4), (5, .int x5), (6, .int x6), (7, .int x7), (8, .int x8), (9, .int x9)]) hx hb aTj.2.2.1 hl (by decide) rfl (fun ls hl => ?_)
    obtain ⟨n9, hp⟩ := hp
    exact kb_X9_autumn_91 C0 hKn n9 x2 x3 x4 x5 x6 x7 x8 x9 aEr 0 0 qB jK H locs ls hp hP hD hS (lv_sub hl [3, 4, 5, 6, 7, 8, 9, 10, 11, 2, 1, 0] rfl)
set_option maxHeartbeats 4000000 in
set_option maxRecDepth 100000 in
theorem kb_X9_autumn_47 (C0 : gc aCD (some .int) 13 RX9 (dC, dI) (tyl cI cC cZ cB cJ) A p s m args meth c) : ∀ (n : Nat), ∀ (x2 x3 x4 x5 x6 x7 x8 x9 qB : Int32) (jK : Nat -> Int32) (H : Heap) (locs : List Loc) (ls : Array Slot), (wb_X9_autumn_47 post dN pL qF jE eW eY dU jG n) x2 x3 x4 x5 x6 x7 x8 x9 qB jK -> va_P (dC, dI) classes (aGB cI cC cZ cB cJ a_x xI xH xB vI wY xX yA xY uD xO tJ jJ mY pG pD pE eO rG dN bD bJ aI pL qF jE eW eY dU fY gJ jG nU qB jK) H -> va_D A (aGB cI cC cZ cB cJ a_x xI xH xB vI wY xX yA xY uD xO tJ jJ mY pG pD pE eO rG dN bD bJ aI pL qF jE eW eY dU fY gJ jG nU qB jK) -> va_S A s.heap H locs -> lv_has ls 13 [(0, .ref a_x), (2, .int x2), (3, .int x3), (4, .int x4), (5, .int x5), (6, .int x6), (7, .int x7), (8, .int x8), (9, .int x9)] -> W p l e bBM s m args below meth c H locs 0 0 (MQ below (q_X9_autumn dC dI cI cC cZ cB cJ A a_x xI xH xB vI wY xX yA xY uD xO tJ jJ mY pG pD pE eO rG dN bD bJ aI pL qF jE eW eY dU fY gJ jG nU post) args s 0 0 A) (F0 m 47 ls []) := by
  intro n
  induction n with
  | zero =>
    intro x2 x3 x4 x5 x6 x7 x8 x9 qB jK H locs ls hp
    exact False.elim hp
  | succ n ih =>
    intro x2 x3 x4 x5 x6 x7 x8 x9 qB jK H locs ls hp
    exact ks_X9_autumn_47 C0 ih x2 x3 x4 x5 x6 x7 x8 x9 qB jK H locs ls hp
end S_X9_autumn
def wp_X9_autumn (post : Int32 -> Int32 -> (Nat -> Int32) -> Prop) (p0 p1 p2 dN : Int32) (pL qF : Nat -> Int32) (jE eW eY dU jG qB : Int32) (jK : Nat -> Int32) : Prop := (p1 < 1 -> post (-1) qB jK) /\ (¬ p1 < 1 -> (30 < p1 -> post (-1) qB jK) /\ (¬ 30 < p1 -> (p2 < 0 -> post (-1) qB jK) /\ (¬ p2 < 0 -> (p2 <= 10 -> aOu (fun r_1 => ∃ n : Nat, wb_X9_autumn_47 post dN pL qF jE eW eY dU jG n p1 p2 p0 r_1 0 0 (-1) 1 qB jK) dN jE eW eY) /\ (¬ p2 <= 10 -> post (-1) qB jK))))
set_option maxHeartbeats 4000000 in
set_option maxRecDepth 100000 in
theorem c_X9_autumn (l : Launch) (dC : Nat -> ClassId) (dI : Nat -> Nat -> Nat) (cI cC cZ cB cJ : ClassId) (a_x xI xH xB vI wY xX yA xY uD xO tJ jJ mY pG pD pE eO rG sz : Nat) (p0 p1 p2 dN bD bJ aI : Int32) (pL qF : Nat -> Int32) (jE eW eY dU fY gJ jG nU qB : Int32) (jK : Nat -> Int32) (post : Int32 -> Int32 -> (Nat -> Int32) -> Prop) (hw : wp_X9_autumn post p0 p1 p2 dN pL qF jE eW eY dU jG qB jK) : Met l yX9_autumn (gw yX9_autumn aCD 13 (some .int)) bBM (va_Pc [.ref a_x, .int p0, .int p1, .int p2] (gPre (dC, dI) (tyl cI cC cZ cB cJ) (aGB cI cC cZ cB cJ a_x xI xH xB vI wY xX yA xY uD xO tJ jJ mY pG pD pE eO rG dN bD bJ aI pL qF jE eW eY dU fY gJ jG nU qB jK) sz)) (q_X9_autumn dC dI cI cC cZ cB cJ (va_A (aGB cI cC cZ cB cJ a_x xI xH xB vI wY xX yA xY uD xO tJ jJ mY pG pD pE eO rG dN bD bJ aI pL qF jE eW eY dU fY gJ jG nU qB jK) sz) a_x xI xH xB vI wY xX yA xY uD xO tJ jJ mY pG pD pE eO rG dN bD bJ aI pL qF jE eW eY dU fY gJ jG nU post) 0 0 (va_A (aGB cI cC cZ cB cJ a_x xI xH xB vI wY xX yA xY uD xO tJ jJ mY pG pD pE eO rG dN bD bJ aI pL qF jE eW eY dU fY gJ jG nU qB jK) sz) := by
  refine aBJ (own := RX9) (dC, dI) (tyl cI cC cZ cB cJ) (aGB cI cC cZ cB cJ a_x xI xH xB vI wY xX yA xY uD xO tJ jJ mY pG pD pE eO rG dN bD bJ aI pL qF jE eW eY dU fY gJ jG nU qB jK) sz [.ref a_x, .int p0, .int p1, .int p2] (fun A => q_X9_autumn dC dI cI cC cZ cB cJ A a_x xI xH xB vI wY xX yA xY uD xO tJ jJ mY pG pD pE eO rG dN bD bJ aI pL qF jE eW eY dU fY gJ jG nU post) pn_RX9 rfl (lbz rfl) ?_
  intro p e s m args below meth c A H locs ls C0 hP hD hS hl
  have hl : lv_has ls 13 [(0, .ref a_x), (1, .int p0), (2, .int p1), (3, .int p2)] := hl
  obtain ⟨hx, hb, hr, hml, hown, hts, hlocks, hA, hK, hN, tL, tM, hZL, hTL, hZM, hTM, hZX⟩ := id C0
  have hp := hw
  unfold wp_X9_autumn at hp
  refine lv_iload_n hx hb aM5.1 rfl (lv_at hl 2 rfl) ?_
  refine lv_iconst (v := 1) hx hb aM5.2.1 aDx ?_
  refine lv_icmp_lt (tgt := 21) hx hb aM5.2.2.1 (by decide) (fun hc => ?_) (fun hc => ?_)
  · have hp := hp.1 hc
    refine lv_iconst (v := (-1)) hx hb aM5.2.2.2.2.2.2.2.2.2.2.2.1 aEJ ?_
    exact W.iret (v := (-1)) hx hb hr (fun t ht hW => ⟨⟨(-1), (qB, jK), rfl, hp, by rw [ht]; exact hP, va_K.moved hW.alike hK, hD⟩, hS.F ht⟩) hS.2.2 aM5.2.2.2.2.2.2.2.2.2.2.2.2.1
  · have hp := hp.2 hc
    refine lv_iload_n hx hb aM5.2.2.2.1 rfl (lv_at hl 2 rfl) ?_
    refine lv_bipush (v := 30) hx hb aM5.2.2.2.2.1 bp_30 ?_
    refine lv_icmp_gt (tgt := 21) hx hb aM5.2.2.2.2.2.1 (by decide) (fun hc => ?_) (fun hc => ?_)
    · have hp := hp.1 hc
      refine lv_iconst (v := (-1)) hx hb aM5.2.2.2.2.2.2.2.2.2.2.2.1 aEJ ?_
      exact W.iret (v := (-1)) hx hb hr (fun t ht hW => ⟨⟨(-1), (qB, jK), rfl, hp, by rw [ht]; exact hP, va_K.moved hW.alike hK, hD⟩, hS.F ht⟩) hS.2.2 aM5.2.2.2.2.2.2.2.2.2.2.2.2.1
    · have hp := hp.2 hc
      refine lv_iload_n hx hb aM5.2.2.2.2.2.2.1 rfl (lv_at hl 3 rfl) ?_
      refine lv_if_lt (tgt := 21) hx hb aM5.2.2.2.2.2.2.2.1 (by decide) (fun hc => ?_) (fun hc => ?_)
      · have hp := hp.1 hc
        refine lv_iconst (v := (-1)) hx hb aM5.2.2.2.2.2.2.2.2.2.2.2.1 aEJ ?_
        exact W.iret (v := (-1)) hx hb hr (fun t ht hW => ⟨⟨(-1), (qB, jK), rfl, hp, by rw [ht]; exact hP, va_K.moved hW.alike hK, hD⟩, hS.F ht⟩) hS.2.2 aM5.2.2.2.2.2.2.2.2.2.2.2.2.1
      · have hp := hp.2 hc
        refine lv_iload_n hx hb aM5.2.2.2.2.2.2.2.2.1 rfl (lv_at hl 3 rfl) ?_
        refine lv_bipush (v := 10) hx hb aM5.2.2.2.2.2.2.2.2.2.1 bp_10 ?_
        refine lv_icmp_le (tgt := 23) hx hb aM5.2.2.2.2.2.2.2.2.2.2.1 (by decide) (fun hc => ?_) (fun hc => ?_)
        · have hp := hp.1 hc
          refine lv_iload_n hx hb aM5.2.2.2.2.2.2.2.2.2.2.2.2.2.1 rfl (lv_at hl 1 rfl) ?_
          refine lv_istore (lv' := [(4, .int p0), (0, .ref a_x), (1, .int p0), (2, .int p1), (3, .int p2)]) hx hb aM5.2.2.2.2.2.2.2.2.2.2.2.2.2.2.1 hl (by decide) rfl (fun ls hl => ?_)
          refine lv_aload_n hx hb aM5.2.2.2.2.2.2.2.2.2.2.2.2.2.2.2 rfl (lv_at hl 1 rfl) ?_
          refine va_get (D := (dC, dI)) (ci := 9) (v := .ref xB) (C := RX9) (T := TX9) (N := 9) hx hb hts aC3 hown hK hP 0 rfl rfl 2 (lbz rfl) (hts _ q_146) (fun _ h9 => h9) rfl aTh.1 ?_
          have hm := mgk (wc := (aOf cI cC cZ cB cJ xB vI wY xO tJ jJ mY pG pD pE eO dN bD bJ aI jE eW eY dU fY gJ jG nU)) hP mk_185 8 rfl rfl rfl
          refine yW hP hD hS hA (yS mk_185) (aAi mk_185) hm.1 hm.2 (aAk _) (zW _) (zF (As := []) (rest := []) C0 hP hD hS (yS mk_185) hm.1 (aAl _) 1 0 rfl rfl (c_X0_hanging l dC dI cI cC cZ cB cJ xB vI wY xO tJ jJ mY pG pD pE eO H.size dN bD bJ aI jE eW eY dU fY gJ jG nU _ hp) q_186 q_190 q_188 q_189 q_187 h_X0_hanging rfl rfl ⟨lbz rfl, lbz rfl⟩ rfl rfl hl.1 rfl (lv_room (lbz rfl)) aTh.2.1 ⟨Nat.zero_le _, Nat.zero_le _⟩) (fun r_1 u H locs hp hP hD hS => ?_)
          have hPD := PDm (ws' := (aGB cI cC cZ cB cJ a_x xI xH xB vI wY xX yA xY uD xO tJ jJ mY pG pD pE eO rG dN bD bJ aI pL qF jE eW eY dU fY gJ jG nU qB jK)) hP hD 8 rfl rfl rfl
          have hP := hPD.1
          have hD := hPD.2
          refine lv_istore (lv' := [(5, .int r_1), (4, .int p0), (0, .ref a_x), (1, .int p0), (2, .int p1), (3, .int p2)]) hx hb aTh.2.2.1 hl (by decide) rfl (fun ls hl => ?_)
          refine lv_iconst (v := 0) hx hb aTh.2.2.2.1 aCi ?_
          refine lv_istore (lv' := [(6, .int 0), (5, .int r_1), (4, .int p0), (0, .ref a_x), (1, .int p0), (2, .int p1), (3, .int p2)]) hx hb aTh.2.2.2.2.1 hl (by decide) rfl (fun ls hl => ?_)
          refine lv_iconst (v := 0) hx hb aTh.2.2.2.2.2.1 aCi ?_
          refine lv_istore (lv' := [(7, .int 0), (6, .int 0), (5, .int r_1), (4, .int p0), (0, .ref a_x), (1, .int p0), (2, .int p1), (3, .int p2)]) hx hb aTh.2.2.2.2.2.2.1 hl (by decide) rfl (fun ls hl => ?_)
          refine lv_iconst (v := (-1)) hx hb aTh.2.2.2.2.2.2.2.1 aEJ ?_
          refine lv_istore (lv' := [(8, .int (-1)), (7, .int 0), (6, .int 0), (5, .int r_1), (4, .int p0), (0, .ref a_x), (1, .int p0), (2, .int p1), (3, .int p2)]) hx hb aTh.2.2.2.2.2.2.2.2.1 hl (by decide) rfl (fun ls hl => ?_)
          refine lv_iconst (v := 1) hx hb aTh.2.2.2.2.2.2.2.2.2.1 aDx ?_
          refine lv_istore (lv' := [(9, .int 1), (8, .int (-1)), (7, .int 0), (6, .int 0), (5, .int r_1), (4, .int p0), (0, .ref a_x), (1, .int p0), (2, .int p1), (3, .int p2)]) hx hb aTh.2.2.2.2.2.2.2.2.2.2.1 hl (by decide) rfl (fun ls hl => ?_)
          obtain ⟨n9, hp⟩ := hp
          exact kb_X9_autumn_47 C0 n9 p1 p2 p0 r_1 0 0 (-1) 1 qB jK H locs ls hp hP hD hS (lv_sub hl [6, 8, 9, 5, 4, 3, 2, 1, 0] rfl)
        · have hp := hp.2 hc
          refine lv_iconst (v := (-1)) hx hb aM5.2.2.2.2.2.2.2.2.2.2.2.1 aEJ ?_
          exact W.iret (v := (-1)) hx hb hr (fun t ht hW => ⟨⟨(-1), (qB, jK), rfl, hp, by rw [ht]; exact hP, va_K.moved hW.alike hK, hD⟩, hS.F ht⟩) hS.2.2 aM5.2.2.2.2.2.2.2.2.2.2.2.2.1
abbrev aJg (cI cC cZ cB cJ : ClassId) (wY uT : Nat) (jE eW eY dU fY gJ jG nU : Int32) (rQ : Nat -> Int32) : va_W := [(wY, .inr (2, [.int jE, .int eW, .int eY, .int dU, .int fY, .int gJ, .int jG, .int nU])), (uT, .inl (cI, 16, .inl rQ))]
abbrev q_X2_write_b2 (dC : Nat -> ClassId) (dI : Nat -> Nat -> Nat) (cI cC cZ cB cJ : ClassId) (A : Nat -> Prop) (wY uT : Nat) (jE eW eY dU fY gJ jG nU : Int32) (post : (Nat -> Int32) -> Prop) : Array Value -> State -> Outcome -> State -> Prop := va_Qv (fun (u : (Nat -> Int32)) => post u) (fun u t => gB (dC, dI) (tyl cI cC cZ cB cJ) A (aJg cI cC cZ cB cJ wY uT jE eW eY dU fY gJ jG nU u) t) A
abbrev rm_X2_write_b2 : Room := { frames := 0, cells := 0, slots := 0, locals := 0 }
def wp_X2_write_b2 (post : (Nat -> Int32) -> Prop) (p1 jE eW eY dU fY gJ jG nU : Int32) (rQ : Nat -> Int32) : Prop := (p1 < 0 -> post rQ) /\ (¬ p1 < 0 -> (p1 <= (16 - 8) -> vp_in p1 16 /\ (∀ v_1 : Int32, v_1 = p1 + 1 -> vp_in v_1 16 /\ (∀ v_2 : Int32, v_2 = p1 + 2 -> vp_in v_2 16 /\ (∀ v_3 : Int32, v_3 = p1 + 3 -> vp_in v_3 16 /\ (∀ v_4 : Int32, v_4 = p1 + 4 -> vp_in v_4 16 /\ (∀ v_5 : Int32, v_5 = p1 + 5 -> vp_in v_5 16 /\ (∀ v_6 : Int32, v_6 = p1 + 6 -> vp_in v_6 16 /\ (∀ v_7 : Int32, v_7 = p1 + 7 -> vp_in v_7 16 /\ (post (upd (upd (upd (upd (upd (upd (upd (upd rQ p1.toNatClampNeg jE) v_1.toNatClampNeg eW) v_2.toNatClampNeg eY) v_3.toNatClampNeg dU) v_4.toNatClampNeg fY) v_5.toNatClampNeg gJ) v_6.toNatClampNeg jG) v_7.toNatClampNeg nU)))))))))) /\ (¬ p1 <= (16 - 8) -> post rQ))
set_option maxHeartbeats 4000000 in
set_option maxRecDepth 100000 in
theorem c_X2_write_b2 (l : Launch) (dC : Nat -> ClassId) (dI : Nat -> Nat -> Nat) (cI cC cZ cB cJ : ClassId) (wY uT sz : Nat) (p1 jE eW eY dU fY gJ jG nU : Int32) (rQ : Nat -> Int32) (post : (Nat -> Int32) -> Prop) (hw : wp_X2_write_b2 post p1 jE eW eY dU fY gJ jG nU rQ) : Met l yX2_write (gw yX2_write aER 3 none) rm_X2_write_b2 (va_Pc [.ref wY, .ref uT, .int p1] (gPre (dC, dI) (tyl cI cC cZ cB cJ) (aJg cI cC cZ cB cJ wY uT jE eW eY dU fY gJ jG nU rQ) sz)) (q_X2_write_b2 dC dI cI cC cZ cB cJ (va_A (aJg cI cC cZ cB cJ wY uT jE eW eY dU fY gJ jG nU rQ) sz) wY uT jE eW eY dU fY gJ jG nU post) 0 0 (va_A (aJg cI cC cZ cB cJ wY uT jE eW eY dU fY gJ jG nU rQ) sz) := by
  refine aBJ (own := RX2) (dC, dI) (tyl cI cC cZ cB cJ) (aJg cI cC cZ cB cJ wY uT jE eW eY dU fY gJ jG nU rQ) sz [.ref wY, .ref uT, .int p1] (fun A => q_X2_write_b2 dC dI cI cC cZ cB cJ A wY uT jE eW eY dU fY gJ jG nU post) pn_RX2 rfl (lbz rfl) ?_
  intro p e s m args below meth c A H locs ls C0 hP hD hS hl
  have hl : lv_has ls 3 [(0, .ref wY), (1, .ref uT), (2, .int p1)] := hl
  obtain ⟨hx, hb, hr, hml, hown, hts, hlocks, hA, hK, hN, tL, tM, hZL, hTL, hZM, hTM, hZX⟩ := id C0
  have hp := hw
  unfold wp_X2_write_b2 at hp
  refine lv_iload_n hx hb aHz.1 rfl (lv_at hl 2 rfl) ?_
  refine lv_if_lt (tgt := 13) hx hb aHz.2.1 (by decide) (fun hc => ?_) (fun hc => ?_)
  · have hp := hp.1 hc
    exact W.vret hx hb hr (fun t ht hW => ⟨⟨rQ, rfl, hp, by rw [ht]; exact hP, va_K.moved hW.alike hK, hD⟩, hS.F ht⟩) hS.2.2 aHz.2.2.2.2.2.2.2.2.1
  · have hp := hp.2 hc
    refine lv_iload_n hx hb aHz.2.2.1 rfl (lv_at hl 2 rfl) ?_
    refine lv_aload_n hx hb aHz.2.2.2.1 rfl (lv_at hl 1 rfl) ?_
    refine va_alen (v := 16) hx hb hK hP 1 0 rfl rfl rfl aHz.2.2.2.2.1 ?_
    refine lv_bipush (v := 8) hx hb aHz.2.2.2.2.2.1 bp_8 ?_
    refine lv_isub hx hb aHz.2.2.2.2.2.2.1 ?_
    refine lv_icmp_le (tgt := 14) hx hb aHz.2.2.2.2.2.2.2.1 (by decide) (fun hc => ?_) (fun hc => ?_)
    · have hp := hp.1 hc
      refine lv_aload_n hx hb aHz.2.2.2.2.2.2.2.2.2.1 rfl (lv_at hl 1 rfl) ?_
      refine lv_iload_n hx hb aHz.2.2.2.2.2.2.2.2.2.2.1 rfl (lv_at hl 2 rfl) ?_
      refine lv_aload_n hx hb aHz.2.2.2.2.2.2.2.2.2.2.2.1 rfl (lv_at hl 0 rfl) ?_
      refine va_get (D := (dC, dI)) (ci := 2) (v := .int jE) (C := RX2) (T := TX2) (N := 8) hx hb hts i_X2 hown hK hP 0 rfl rfl 0 (lbz rfl) (hts _ q_168) (fun _ h9 => h9) rfl aHz.2.2.2.2.2.2.2.2.2.2.2.2.1 ?_
      have hin := hp.1
      have hp := hp.2
      refine va_iast hx hb hK hP hD hS 1 0 rfl rfl hin aHz.2.2.2.2.2.2.2.2.2.2.2.2.2.1 (fun H locs hP hD hS => ?_)
      have hPD := PDw (ws' := (aJg cI cC cZ cB cJ wY uT jE eW eY dU fY gJ jG nU (upd rQ p1.toNatClampNeg jE))) hP hD rfl
      have hP := hPD.1
      have hD := hPD.2
      refine lv_aload_n hx hb aHz.2.2.2.2.2.2.2.2.2.2.2.2.2.2.1 rfl (lv_at hl 1 rfl) ?_
      refine lv_iload_n hx hb aHz.2.2.2.2.2.2.2.2.2.2.2.2.2.2.2 rfl (lv_at hl 2 rfl) ?_
      refine lv_iconst (v := 1) hx hb aHY.1 aDx ?_
      refine lv_iadd hx hb aHY.2.1 ?_
      refine lv_topi (fun v_1 aFJ => ?_)
      have hp := hp v_1 aFJ
      refine lv_aload_n hx hb aHY.2.2.1 rfl (lv_at hl 0 rfl) ?_
      refine va_get (D := (dC, dI)) (ci := 2) (v := .int eW) (C := RX2) (T := TX2) (N := 8) hx hb hts i_X2 hown hK hP 0 rfl rfl 1 (lbz rfl) (hts _ q_169) (fun _ h9 => h9) rfl aHY.2.2.2.1 ?_
      have hin := hp.1
      have hp := hp.2
      refine va_iast hx hb hK hP hD hS 1 0 rfl rfl hin aHY.2.2.2.2.1 (fun H locs hP hD hS => ?_)
      have hPD := PDw (ws' := (aJg cI cC cZ cB cJ wY uT jE eW eY dU fY gJ jG nU (upd (upd rQ p1.toNatClampNeg jE) v_1.toNatClampNeg eW))) hP hD rfl
      have hP := hPD.1
      have hD := hPD.2
      refine lv_aload_n hx hb aHY.2.2.2.2.2.1 rfl (lv_at hl 1 rfl) ?_
      refine lv_iload_n hx hb aHY.2.2.2.2.2.2.1 rfl (lv_at hl 2 rfl) ?_
      refine lv_iconst (v := 2) hx hb aHY.2.2.2.2.2.2.2.1 ic_2 ?_
      refine lv_iadd hx hb aHY.2.2.2.2.2.2.2.2.1 ?_
      refine lv_topi (fun v_2 aGO => ?_)
      have hp := hp v_2 aGO
      refine lv_aload_n hx hb aHY.2.2.2.2.2.2.2.2.2.1 rfl (lv_at hl 0 rfl) ?_
      refine va_get (D := (dC, dI)) (ci := 2) (v := .int eY) (C := RX2) (T := TX2) (N := 8) hx hb hts i_X2 hown hK hP 0 rfl rfl 2 (lbz rfl) (hts _ q_170) (fun _ h9 => h9) rfl aHY.2.2.2.2.2.2.2.2.2.2.1 ?_
      have hin := hp.1
      have hp := hp.2
      refine va_iast hx hb hK hP hD hS 1 0 rfl rfl hin aHY.2.2.2.2.2.2.2.2.2.2.2.1 (fun H locs hP hD hS => ?_)
      have hPD := PDw (ws' := (aJg cI cC cZ cB cJ wY uT jE eW eY dU fY gJ jG nU (upd (upd (upd rQ p1.toNatClampNeg jE) v_1.toNatClampNeg eW) v_2.toNatClampNeg eY))) hP hD rfl
      have hP := hPD.1
      have hD := hPD.2
      refine lv_aload_n hx hb aHY.2.2.2.2.2.2.2.2.2.2.2.2.1 rfl (lv_at hl 1 rfl) ?_
      refine lv_iload_n hx hb aHY.2.2.2.2.2.2.2.2.2.2.2.2.2.1 rfl (lv_at hl 2 rfl) ?_
      refine lv_iconst (v := 3) hx hb aHY.2.2.2.2.2.2.2.2.2.2.2.2.2.2.1 ic_3 ?_
      refine lv_iadd hx hb aHY.2.2.2.2.2.2.2.2.2.2.2.2.2.2.2 ?_
      refine lv_topi (fun v_3 aGW => ?_)
      have hp := hp v_3 aGW
      refine lv_aload_n hx hb aHZ.1 rfl (lv_at hl 0 rfl) ?_
      refine va_get (D := (dC, dI)) (ci := 2) (v := .int dU) (C := RX2) (T := TX2) (N := 8) hx hb hts i_X2 hown hK hP 0 rfl rfl 3 (lbz rfl) (hts _ q_214) (fun _ h9 => h9) rfl aHZ.2.1 ?_
      have hin := hp.1
      have hp := hp.2
      refine va_iast hx hb hK hP hD hS 1 0 rfl rfl hin aHZ.2.2.1 (fun H locs hP hD hS => ?_)
      have hPD := PDw (ws' := (aJg cI cC cZ cB cJ wY uT jE eW eY dU fY gJ jG nU (upd (upd (upd (upd rQ p1.toNatClampNeg jE) v_1.toNatClampNeg eW) v_2.toNatClampNeg eY) v_3.toNatClampNeg dU))) hP hD rfl
      have hP := hPD.1
      have hD := hPD.2
      refine lv_aload_n hx hb aHZ.2.2.2.1 rfl (lv_at hl 1 rfl) ?_
      refine lv_iload_n hx hb aHZ.2.2.2.2.1 rfl (lv_at hl 2 rfl) ?_
      refine lv_iconst (v := 4) hx hb aHZ.2.2.2.2.2.1 ic_4 ?_
      refine lv_iadd hx hb aHZ.2.2.2.2.2.2.1 ?_
      refine lv_topi (fun v_4 aHM => ?_)
      have hp := hp v_4 aHM
      refine lv_aload_n hx hb aHZ.2.2.2.2.2.2.2.1 rfl (lv_at hl 0 rfl) ?_
      refine va_get (D := (dC, dI)) (ci := 2) (v := .int fY) (C := RX2) (T := TX2) (N := 8) hx hb hts i_X2 hown hK hP 0 rfl rfl 4 (lbz rfl) (hts _ q_215) (fun _ h9 => h9) rfl aHZ.2.2.2.2.2.2.2.2.1 ?_
      have hin := hp.1
      have hp := hp.2
      refine va_iast hx hb hK hP hD hS 1 0 rfl rfl hin aHZ.2.2.2.2.2.2.2.2.2.1 (fun H locs hP hD hS => ?_)
      have hPD := PDw (ws' := (aJg cI cC cZ cB cJ wY uT jE eW eY dU fY gJ jG nU (upd (upd (upd (upd (upd rQ p1.toNatClampNeg jE) v_1.toNatClampNeg eW) v_2.toNatClampNeg eY) v_3.toNatClampNeg dU) v_4.toNatClampNeg fY))) hP hD rfl
      have hP := hPD.1
      have hD := hPD.2
      refine lv_aload_n hx hb aHZ.2.2.2.2.2.2.2.2.2.2.1 rfl (lv_at hl 1 rfl) ?_
      refine lv_iload_n hx hb aHZ.2.2.2.2.2.2.2.2.2.2.2.1 rfl (lv_at hl 2 rfl) ?_
      refine lv_iconst (v := 5) hx hb aHZ.2.2.2.2.2.2.2.2.2.2.2.2.1 ic_5 ?_
      refine lv_iadd hx hb aHZ.2.2.2.2.2.2.2.2.2.2.2.2.2.1 ?_
      refine lv_topi (fun v_5 aJD => ?_)
      have hp := hp v_5 aJD
      refine lv_aload_n hx hb aHZ.2.2.2.2.2.2.2.2.2.2.2.2.2.2.1 rfl (lv_at hl 0 rfl) ?_
      refine va_get (D := (dC, dI)) (ci := 2) (v := .int gJ) (C := RX2) (T := TX2) (N := 8) hx hb hts i_X2 hown hK hP 0 rfl rfl 5 (lbz rfl) (hts _ q_216) (fun _ h9 => h9) rfl aHZ.2.2.2.2.2.2.2.2.2.2.2.2.2.2.2 ?_
      have hin := hp.1
      have hp := hp.2
      refine va_iast hx hb hK hP hD hS 1 0 rfl rfl hin aHa.1 (fun H locs hP hD hS => ?_)
      have hPD := PDw (ws' := (aJg cI cC cZ cB cJ wY uT jE eW eY dU fY gJ jG nU (upd (upd (upd (upd (upd (upd rQ p1.toNatClampNeg jE) v_1.toNatClampNeg eW) v_2.toNatClampNeg eY) v_3.toNatClampNeg dU) v_4.toNatClampNeg fY) v_5.toNatClampNeg gJ))) hP hD rfl
      have hP := hPD.1
      have hD := hPD.2
      refine lv_aload_n hx hb aHa.2.1 rfl (lv_at hl 1 rfl) ?_
      refine lv_iload_n hx hb aHa.2.2.1 rfl (lv_at hl 2 rfl) ?_
      refine lv_bipush (v := 6) hx hb aHa.2.2.2.1 bp_6 ?_
      refine lv_iadd hx hb aHa.2.2.2.2.1 ?_
      refine lv_topi (fun v_6 ev_6 => ?_)
      have hp := hp v_6 ev_6
      refine lv_aload_n hx hb aHa.2.2.2.2.2.1 rfl (lv_at hl 0 rfl) ?_
      refine va_get (D := (dC, dI)) (ci := 2) (v := .int jG) (C := RX2) (T := TX2) (N := 8) hx hb hts i_X2 hown hK hP 0 rfl rfl 6 (lbz rfl) (hts _ q_217) (fun _ h9 => h9) rfl aHa.2.2.2.2.2.2.1 ?_
      have hin := hp.1
      have hp := hp.2
      refine va_iast hx hb hK hP hD hS 1 0 rfl rfl hin aHa.2.2.2.2.2.2.2.1 (fun H locs hP hD hS => ?_)
      have hPD := PDw (ws' := (aJg cI cC cZ cB cJ wY uT jE eW eY dU fY gJ jG nU (upd (upd (upd (upd (upd (upd (upd rQ p1.toNatClampNeg jE) v_1.toNatClampNeg eW) v_2.toNatClampNeg eY) v_3.toNatClampNeg dU) v_4.toNatClampNeg fY) v_5.toNatClampNeg gJ) v_6.toNatClampNeg jG))) hP hD rfl
      have hP := hPD.1
      have hD := hPD.2
      refine lv_aload_n hx hb aHa.2.2.2.2.2.2.2.2.1 rfl (lv_at hl 1 rfl) ?_
      refine lv_iload_n hx hb aHa.2.2.2.2.2.2.2.2.2.1 rfl (lv_at hl 2 rfl) ?_
      refine lv_bipush (v := 7) hx hb aHa.2.2.2.2.2.2.2.2.2.2.1 bp_7 ?_
      refine lv_iadd hx hb aHa.2.2.2.2.2.2.2.2.2.2.2.1 ?_
      refine lv_topi (fun v_7 ev_7 => ?_)
      have hp := hp v_7 ev_7
      refine lv_aload_n hx hb aHa.2.2.2.2.2.2.2.2.2.2.2.2.1 rfl (lv_at hl 0 rfl) ?_
      refine va_get (D := (dC, dI)) (ci := 2) (v := .int nU) (C := RX2) (T := TX2) (N := 8) hx hb hts i_X2 hown hK hP 0 rfl rfl 7 (lbz rfl) (hts _ q_218) (fun _ h9 => h9) rfl aHa.2.2.2.2.2.2.2.2.2.2.2.2.2.1 ?_
      have hin := hp.1
      have hp := hp.2
      refine va_iast hx hb hK hP hD hS 1 0 rfl rfl hin aHa.2.2.2.2.2.2.2.2.2.2.2.2.2.2.1 (fun H locs hP hD hS => ?_)
      have hPD := PDw (ws' := (aJg cI cC cZ cB cJ wY uT jE eW eY dU fY gJ jG nU (upd (upd (upd (upd (upd (upd (upd (upd rQ p1.toNatClampNeg jE) v_1.toNatClampNeg eW) v_2.toNatClampNeg eY) v_3.toNatClampNeg dU) v_4.toNatClampNeg fY) v_5.toNatClampNeg gJ) v_6.toNatClampNeg jG) v_7.toNatClampNeg nU))) hP hD rfl
      have hP := hPD.1
      have hD := hPD.2
      exact W.vret hx hb hr (fun t ht hW => ⟨⟨(upd (upd (upd (upd (upd (upd (upd (upd rQ p1.toNatClampNeg jE) v_1.toNatClampNeg eW) v_2.toNatClampNeg eY) v_3.toNatClampNeg dU) v_4.toNatClampNeg fY) v_5.toNatClampNeg gJ) v_6.toNatClampNeg jG) v_7.toNatClampNeg nU), rfl, hp, by rw [ht]; exact hP, va_K.moved hW.alike hK, hD⟩, hS.F ht⟩) hS.2.2 aHa.2.2.2.2.2.2.2.2.2.2.2.2.2.2.2
    · have hp := hp.2 hc
      exact W.vret hx hb hr (fun t ht hW => ⟨⟨rQ, rfl, hp, by rw [ht]; exact hP, va_K.moved hW.alike hK, hD⟩, hS.F ht⟩) hS.2.2 aHz.2.2.2.2.2.2.2.2.1
abbrev wd_X4_store (cI cC cZ cB cJ : ClassId) (wY xX wF uT wD : Nat) (jE eW eY dU fY gJ jG nU pR uM : Int32) (rQ uF : Nat -> Int32) : va_W := [(wY, .inr (2, [.int jE, .int eW, .int eY, .int dU, .int fY, .int gJ, .int jG, .int nU])), (xX, .inr (4, [.ref wF, .ref uT, .ref wD, .int pR, .int uM])), (uT, .inl (cI, 16, .inl rQ)), (wD, .inl (cZ, 2, .inl uF))]
abbrev q_X4_store (dC : Nat -> ClassId) (dI : Nat -> Nat -> Nat) (cI cC cZ cB cJ : ClassId) (A : Nat -> Prop) (wY xX wF uT wD : Nat) (jE eW eY dU fY gJ jG nU pR uM : Int32) (post : Int32 -> (Nat -> Int32) -> (Nat -> Int32) -> Prop) : Array Value -> State -> Outcome -> State -> Prop := va_Qi (fun (r : Int32) (u : (Nat -> Int32) × (Nat -> Int32)) => post r u.1 u.2) (fun u t => gB (dC, dI) (tyl cI cC cZ cB cJ) A (wd_X4_store cI cC cZ cB cJ wY xX wF uT wD jE eW eY dU fY gJ jG nU pR uM u.1 u.2) t) A
abbrev rm_X4_store : Room := { frames := 1, cells := 0, slots := 0, locals := 22 }
def wp_X4_store (post : Int32 -> (Nat -> Int32) -> (Nat -> Int32) -> Prop) (p0 jE eW eY dU fY gJ jG nU : Int32) (rQ uF : Nat -> Int32) : Prop := (p0 < 0 -> post 0 rQ uF) /\ (¬ p0 < 0 -> (p0 < 2 -> ∀ v_1 : Int32, v_1 = p0 * 8 -> wp_X2_write_b2 (fun bBl => vp_in p0 2 /\ (post 1 bBl (upd uF p0.toNatClampNeg (vp_nar .boolean 1)))) v_1 jE eW eY dU fY gJ jG nU rQ) /\ (¬ p0 < 2 -> post 0 rQ uF))
set_option maxHeartbeats 4000000 in
set_option maxRecDepth 100000 in
theorem c_X4_store (l : Launch) (dC : Nat -> ClassId) (dI : Nat -> Nat -> Nat) (cI cC cZ cB cJ : ClassId) (wY xX wF uT wD sz : Nat) (p0 jE eW eY dU fY gJ jG nU pR uM : Int32) (rQ uF : Nat -> Int32) (post : Int32 -> (Nat -> Int32) -> (Nat -> Int32) -> Prop) (hw : wp_X4_store post p0 jE eW eY dU fY gJ jG nU rQ uF) : Met l yX4_store (gw yX4_store aXW 3 (some .boolean)) rm_X4_store (va_Pc [.ref xX, .int p0, .ref wY] (gPre (dC, dI) (tyl cI cC cZ cB cJ) (wd_X4_store cI cC cZ cB cJ wY xX wF uT wD jE eW eY dU fY gJ jG nU pR uM rQ uF) sz)) (q_X4_store dC dI cI cC cZ cB cJ (va_A (wd_X4_store cI cC cZ cB cJ wY xX wF uT wD jE eW eY dU fY gJ jG nU pR uM rQ uF) sz) wY xX wF uT wD jE eW eY dU fY gJ jG nU pR uM post) 0 0 (va_A (wd_X4_store cI cC cZ cB cJ wY xX wF uT wD jE eW eY dU fY gJ jG nU pR uM rQ uF) sz) := by
  refine aBJ (own := RX4) (dC, dI) (tyl cI cC cZ cB cJ) (wd_X4_store cI cC cZ cB cJ wY xX wF uT wD jE eW eY dU fY gJ jG nU pR uM rQ uF) sz [.ref xX, .int p0, .ref wY] (fun A => q_X4_store dC dI cI cC cZ cB cJ A wY xX wF uT wD jE eW eY dU fY gJ jG nU pR uM post) pn_RX4 rfl (lbz rfl) ?_
  intro p e s m args below meth c A H locs ls C0 hP hD hS hl
  have hl : lv_has ls 3 [(0, .ref xX), (1, .int p0), (2, .ref wY)] := hl
  obtain ⟨hx, hb, hr, hml, hown, hts, hlocks, hA, hK, hN, tL, tM, hZL, hTL, hZM, hTM, hZX⟩ := id C0
  have hp := hw
  unfold wp_X4_store at hp
  refine lv_iload_n hx hb eX4_store_0.1 rfl (lv_at hl 1 rfl) ?_
  refine lv_if_lt (tgt := 9) hx hb eX4_store_0.2.1 (by decide) (fun hc => ?_) (fun hc => ?_)
  · have hp := hp.1 hc
    refine lv_iconst (v := 0) hx hb aVZ.2.2.1 aCi ?_
    exact W.zret (v := 0) hx hb hr rfl (fun t ht hW => ⟨⟨0, (rQ, uF), rfl, hp, by rw [ht]; exact hP, va_K.moved hW.alike hK, hD⟩, hS.F ht⟩) hS.2.2 aVZ.2.2.2.1
  · have hp := hp.2 hc
    refine lv_iload_n hx hb eX4_store_0.2.2 rfl (lv_at hl 1 rfl) ?_
    refine lv_iconst (v := 2) hx hb aVZ.1 ic_2 ?_
    refine lv_icmp_lt (tgt := 11) hx hb aVZ.2.1 (by decide) (fun hc => ?_) (fun hc => ?_)
    · have hp := hp.1 hc
      refine lv_aload_n hx hb aVZ.2.2.2.2.1 rfl (lv_at hl 2 rfl) ?_
      refine lv_aload_n hx hb aVZ.2.2.2.2.2.1 rfl (lv_at hl 0 rfl) ?_
      refine va_get (D := (dC, dI)) (ci := 4) (v := .ref uT) (C := RX4) (T := TX4) (N := 5) hx hb hts i_X4 hown hK hP 1 rfl rfl 1 (lbz rfl) (hts _ q_625) (fun _ h9 => h9) rfl aVZ.2.2.2.2.2.2.1 ?_
      refine lv_iload_n hx hb aVZ.2.2.2.2.2.2.2.1 rfl (lv_at hl 1 rfl) ?_
      refine lv_bipush (v := 8) hx hb aVZ.2.2.2.2.2.2.2.2.1 bp_8 ?_
      refine lv_imul hx hb aVZ.2.2.2.2.2.2.2.2.2.1 ?_
      refine lv_topi (fun v_1 aFJ => ?_)
      have hp := hp v_1 aFJ
      have hm := mgk (wc := (aJg cI cC cZ cB cJ wY uT jE eW eY dU fY gJ jG nU rQ)) hP mk_194 4 rfl rfl rfl
      refine aBn hP hD hS hA (yS mk_194) (aAi mk_194) hm.1 hm.2 (aAk _) (zW _) (zF (As := [.ref uT, .int v_1]) (rest := []) C0 hP hD hS (yS mk_194) hm.1 (aAl _) 0 2 rfl rfl (c_X2_write_b2 l dC dI cI cC cZ cB cJ wY uT H.size v_1 jE eW eY dU fY gJ jG nU rQ _ hp) q_221 q_224 q_222 q_223 q_181 h_X2_write rfl rfl ⟨lbz rfl, lbz rfl⟩ rfl rfl hl.1 rfl (lv_room (lbz rfl)) aVZ.2.2.2.2.2.2.2.2.2.2.1 ⟨Nat.zero_le _, Nat.zero_le _⟩) (fun u H locs hp hP hD hS => ?_)
      obtain ⟨bBl, rfl⟩ : ∃ z, z = u := ⟨_, rfl⟩
      have hPD := PDm (ws' := (wd_X4_store cI cC cZ cB cJ wY xX wF uT wD jE eW eY dU fY gJ jG nU pR uM bBl uF)) hP hD 4 rfl rfl rfl
      have hP := hPD.1
      have hD := hPD.2
      refine lv_aload_n hx hb aVZ.2.2.2.2.2.2.2.2.2.2.2.1 rfl (lv_at hl 0 rfl) ?_
      refine va_get (D := (dC, dI)) (ci := 4) (v := .ref wD) (C := RX4) (T := TX4) (N := 5) hx hb hts i_X4 hown hK hP 1 rfl rfl 2 (lbz rfl) (hts _ q_24) (fun _ h9 => h9) rfl aVZ.2.2.2.2.2.2.2.2.2.2.2.2.1 ?_
      refine lv_iload_n hx hb aVZ.2.2.2.2.2.2.2.2.2.2.2.2.2.1 rfl (lv_at hl 1 rfl) ?_
      refine lv_iconst (v := 1) hx hb aVZ.2.2.2.2.2.2.2.2.2.2.2.2.2.2.1 aDx ?_
      have hin := hp.1
      have hp := hp.2
      refine va_zast hx hb hK hP hD hS 3 2 rfl rfl hin aVZ.2.2.2.2.2.2.2.2.2.2.2.2.2.2.2 (fun H locs hP hD hS => ?_)
      have hPD := PDw (ws' := (wd_X4_store cI cC cZ cB cJ wY xX wF uT wD jE eW eY dU fY gJ jG nU pR uM bBl (upd uF p0.toNatClampNeg (vp_nar .boolean 1)))) hP hD rfl
      have hP := hPD.1
      have hD := hPD.2
      refine lv_iconst (v := 1) hx hb eX4_store_30.1 aDx ?_
      exact W.zret (v := 1) hx hb hr rfl (fun t ht hW => ⟨⟨1, (bBl, (upd uF p0.toNatClampNeg (vp_nar .boolean 1))), rfl, hp, by rw [ht]; exact hP, va_K.moved hW.alike hK, hD⟩, hS.F ht⟩) hS.2.2 eX4_store_30.2
    · have hp := hp.2 hc
      refine lv_iconst (v := 0) hx hb aVZ.2.2.1 aCi ?_
      exact W.zret (v := 0) hx hb hr rfl (fun t ht hW => ⟨⟨0, (rQ, uF), rfl, hp, by rw [ht]; exact hP, va_K.moved hW.alike hK, hD⟩, hS.F ht⟩) hS.2.2 aVZ.2.2.2.1
abbrev wd_X9_keep (cI cC cZ cB cJ : ClassId) (a_x xI xH xB vI wY xX yA xY uD wF uT wD : Nat) (jE eW eY dU fY gJ jG nU pR uM : Int32) (rQ uF : Nat -> Int32) : va_W := [(a_x, .inr (9, [.ref xI, .ref xH, .ref xB, .ref vI, .ref wY, .ref xX, .ref yA, .ref xY, .ref uD])), (wY, .inr (2, [.int jE, .int eW, .int eY, .int dU, .int fY, .int gJ, .int jG, .int nU])), (xX, .inr (4, [.ref wF, .ref uT, .ref wD, .int pR, .int uM])), (uT, .inl (cI, 16, .inl rQ)), (wD, .inl (cZ, 2, .inl uF))]
abbrev q_X9_keep (dC : Nat -> ClassId) (dI : Nat -> Nat -> Nat) (cI cC cZ cB cJ : ClassId) (A : Nat -> Prop) (a_x xI xH xB vI wY xX yA xY uD wF uT wD : Nat) (jE eW eY dU fY gJ jG nU pR uM : Int32) (post : Int32 -> (Nat -> Int32) -> (Nat -> Int32) -> Prop) : Array Value -> State -> Outcome -> State -> Prop := va_Qi (fun (r : Int32) (u : (Nat -> Int32) × (Nat -> Int32)) => post r u.1 u.2) (fun u t => gB (dC, dI) (tyl cI cC cZ cB cJ) A (wd_X9_keep cI cC cZ cB cJ a_x xI xH xB vI wY xX yA xY uD wF uT wD jE eW eY dU fY gJ jG nU pR uM u.1 u.2) t) A
abbrev rm_X9_keep : Room := { frames := 2, cells := 0, slots := 0, locals := 44 }
def wp_X9_keep (post : Int32 -> (Nat -> Int32) -> (Nat -> Int32) -> Prop) (p0 jE eW eY dU fY gJ jG nU : Int32) (rQ uF : Nat -> Int32) : Prop := wp_X4_store (fun r_1 bBl pa_isKept_3 => narrow .boolean (.int r_1) = .int r_1 /\ post r_1 bBl pa_isKept_3) p0 jE eW eY dU fY gJ jG nU rQ uF
set_option maxHeartbeats 4000000 in
set_option maxRecDepth 100000 in
theorem c_X9_keep (l : Launch) (dC : Nat -> ClassId) (dI : Nat -> Nat -> Nat) (cI cC cZ cB cJ : ClassId) (a_x xI xH xB vI wY xX yA xY uD wF uT wD sz : Nat) (p0 jE eW eY dU fY gJ jG nU pR uM : Int32) (rQ uF : Nat -> Int32) (post : Int32 -> (Nat -> Int32) -> (Nat -> Int32) -> Prop) (hw : wp_X9_keep post p0 jE eW eY dU fY gJ jG nU rQ uF) : Met l yX9_keep (gw yX9_keep cX9_keep 2 (some .boolean)) rm_X9_keep (va_Pc [.ref a_x, .int p0] (gPre (dC, dI) (tyl cI cC cZ cB cJ) (wd_X9_keep cI cC cZ cB cJ a_x xI xH xB vI wY xX yA xY uD wF uT wD jE eW eY dU fY gJ jG nU pR uM rQ uF) sz)) (q_X9_keep dC dI cI cC cZ cB cJ (va_A (wd_X9_keep cI cC cZ cB cJ a_x xI xH xB vI wY xX yA xY uD wF uT wD jE eW eY dU fY gJ jG nU pR uM rQ uF) sz) a_x xI xH xB vI wY xX yA xY uD wF uT wD jE eW eY dU fY gJ jG nU pR uM post) 0 0 (va_A (wd_X9_keep cI cC cZ cB cJ a_x xI xH xB vI wY xX yA xY uD wF uT wD jE eW eY dU fY gJ jG nU pR uM rQ uF) sz) := by
  refine aBJ (own := RX9) (dC, dI) (tyl cI cC cZ cB cJ) (wd_X9_keep cI cC cZ cB cJ a_x xI xH xB vI wY xX yA xY uD wF uT wD jE eW eY dU fY gJ jG nU pR uM rQ uF) sz [.ref a_x, .int p0] (fun A => q_X9_keep dC dI cI cC cZ cB cJ A a_x xI xH xB vI wY xX yA xY uD wF uT wD jE eW eY dU fY gJ jG nU pR uM post) pn_RX9 rfl (lbz rfl) ?_
  intro p e s m args below meth c A H locs ls C0 hP hD hS hl
  have hl : lv_has ls 2 [(0, .ref a_x), (1, .int p0)] := hl
  obtain ⟨hx, hb, hr, hml, hown, hts, hlocks, hA, hK, hN, tL, tM, hZL, hTL, hZM, hTM, hZX⟩ := id C0
  have hp := hw
  unfold wp_X9_keep at hp
  refine lv_aload_n hx hb eX9_keep_0.1 rfl (lv_at hl 0 rfl) ?_
  refine va_get (D := (dC, dI)) (ci := 9) (v := .ref xX) (C := RX9) (T := TX9) (N := 9) hx hb hts aC3 hown hK hP 0 rfl rfl 5 (lbz rfl) (hts _ q_91) (fun _ h9 => h9) rfl eX9_keep_0.2.1 ?_
  refine lv_iload_n hx hb eX9_keep_0.2.2.1 rfl (lv_at hl 1 rfl) ?_
  refine lv_aload_n hx hb eX9_keep_0.2.2.2.1 rfl (lv_at hl 0 rfl) ?_
  refine va_get (D := (dC, dI)) (ci := 9) (v := .ref wY) (C := RX9) (T := TX9) (N := 9) hx hb hts aC3 hown hK hP 0 rfl rfl 4 (lbz rfl) (hts _ q_179) (fun _ h9 => h9) rfl eX9_keep_0.2.2.2.2.1 ?_
  have hm := mgk (wc := (wd_X4_store cI cC cZ cB cJ wY xX wF uT wD jE eW eY dU fY gJ jG nU pR uM rQ uF)) hP mk_195 5 rfl rfl rfl
  refine yW hP hD hS hA (yS mk_195) (aAi mk_195) hm.1 hm.2 (aAk _) (zW _) (zF (As := [.int p0, .ref wY]) (rest := []) C0 hP hD hS (yS mk_195) hm.1 (aAl _) 2 4 rfl rfl (c_X4_store l dC dI cI cC cZ cB cJ wY xX wF uT wD H.size p0 jE eW eY dU fY gJ jG nU pR uM rQ uF _ hp) q_626 q_629 q_627 q_628 q_93 h_X4_store rfl rfl ⟨lbz rfl, lbz rfl⟩ rfl rfl hl.1 rfl (lv_room (lbz rfl)) eX9_keep_0.2.2.2.2.2.1 ⟨Nat.zero_le _, Nat.zero_le _⟩) (fun r_1 u H locs hp hP hD hS => ?_)
  obtain ⟨bBl, pa_isKept_3⟩ := u
  have hPD := PDm (ws' := (wd_X9_keep cI cC cZ cB cJ a_x xI xH xB vI wY xX yA xY uD wF uT wD jE eW eY dU fY gJ jG nU pR uM bBl pa_isKept_3)) hP hD 5 rfl rfl rfl
  have hP := hPD.1
  have hD := hPD.2
  have hnz := hp.1
  have hp := hp.2
  exact W.zret (v := r_1) hx hb hr hnz (fun t ht hW => ⟨⟨r_1, (bBl, pa_isKept_3), rfl, hp, by rw [ht]; exact hP, va_K.moved hW.alike hK, hD⟩, hS.F ht⟩) hS.2.2 eX9_keep_0.2.2.2.2.2.2
abbrev aK8 (cI cC cZ cB cJ : ClassId) (wY uT : Nat) (jE eW eY dU fY gJ jG nU : Int32) (rQ : Nat -> Int32) : va_W := [(wY, .inr (2, [.int jE, .int eW, .int eY, .int dU, .int fY, .int gJ, .int jG, .int nU])), (uT, .inl (cI, 16, .inl rQ))]
abbrev q_X2_read_b2 (dC : Nat -> ClassId) (dI : Nat -> Nat -> Nat) (cI cC cZ cB cJ : ClassId) (A : Nat -> Prop) (wY uT : Nat) (rQ : Nat -> Int32) (post : Int32 -> Int32 -> Int32 -> Int32 -> Int32 -> Int32 -> Int32 -> Int32 -> Prop) : Array Value -> State -> Outcome -> State -> Prop := va_Qv (fun (u : Int32 × Int32 × Int32 × Int32 × Int32 × Int32 × Int32 × Int32) => post u.1 u.2.1 u.2.2.1 u.2.2.2.1 u.2.2.2.2.1 u.2.2.2.2.2.1 u.2.2.2.2.2.2.1 u.2.2.2.2.2.2.2) (fun u t => gB (dC, dI) (tyl cI cC cZ cB cJ) A (aK8 cI cC cZ cB cJ wY uT u.1 u.2.1 u.2.2.1 u.2.2.2.1 u.2.2.2.2.1 u.2.2.2.2.2.1 u.2.2.2.2.2.2.1 u.2.2.2.2.2.2.2 rQ) t) A
abbrev rm_X2_read_b2 : Room := { frames := 0, cells := 0, slots := 0, locals := 0 }
def wp_X2_read_b2 (post : Int32 -> Int32 -> Int32 -> Int32 -> Int32 -> Int32 -> Int32 -> Int32 -> Prop) (p1 jE eW eY dU fY gJ jG nU : Int32) (rQ : Nat -> Int32) : Prop := (p1 < 0 -> post jE eW eY dU fY gJ jG nU) /\ (¬ p1 < 0 -> (p1 <= (16 - 8) -> vp_in p1 16 /\ (∀ v_1 : Int32, v_1 = rQ p1.toNatClampNeg -> ∀ v_2 : Int32, v_2 = p1 + 1 -> vp_in v_2 16 /\ (∀ v_3 : Int32, v_3 = rQ v_2.toNatClampNeg -> ∀ v_4 : Int32, v_4 = p1 + 2 -> vp_in v_4 16 /\ (∀ v_5 : Int32, v_5 = rQ v_4.toNatClampNeg -> ∀ v_6 : Int32, v_6 = p1 + 3 -> vp_in v_6 16 /\ (∀ v_7 : Int32, v_7 = rQ v_6.toNatClampNeg -> ∀ v_8 : Int32, v_8 = p1 + 4 -> vp_in v_8 16 /\ (∀ v_9 : Int32, v_9 = rQ v_8.toNatClampNeg -> ∀ aEr : Int32, aEr = p1 + 5 -> vp_in aEr 16 /\ (∀ aGH : Int32, aGH = rQ aEr.toNatClampNeg -> ∀ aEp : Int32, aEp = p1 + 6 -> vp_in aEp 16 /\ (∀ aIQ : Int32, aIQ = rQ aEp.toNatClampNeg -> ∀ aGC : Int32, aGC = p1 + 7 -> vp_in aGC 16 /\ (∀ aHe : Int32, aHe = rQ aGC.toNatClampNeg -> post v_1 v_3 v_5 v_7 v_9 aGH aIQ aHe))))))))) /\ (¬ p1 <= (16 - 8) -> post jE eW eY dU fY gJ jG nU))
set_option maxHeartbeats 4000000 in
set_option maxRecDepth 100000 in
theorem c_X2_read_b2 (l : Launch) (dC : Nat -> ClassId) (dI : Nat -> Nat -> Nat) (cI cC cZ cB cJ : ClassId) (wY uT sz : Nat) (p1 jE eW eY dU fY gJ jG nU : Int32) (rQ : Nat -> Int32) (post : Int32 -> Int32 -> Int32 -> Int32 -> Int32 -> Int32 -> Int32 -> Int32 -> Prop) (hw : wp_X2_read_b2 post p1 jE eW eY dU fY gJ jG nU rQ) : Met l yX2_read (gw yX2_read aFe 3 none) rm_X2_read_b2 (va_Pc [.ref wY, .ref uT, .int p1] (gPre (dC, dI) (tyl cI cC cZ cB cJ) (aK8 cI cC cZ cB cJ wY uT jE eW eY dU fY gJ jG nU rQ) sz)) (q_X2_read_b2 dC dI cI cC cZ cB cJ (va_A (aK8 cI cC cZ cB cJ wY uT jE eW eY dU fY gJ jG nU rQ) sz) wY uT rQ post) 0 0 (va_A (aK8 cI cC cZ cB cJ wY uT jE eW eY dU fY gJ jG nU rQ) sz) := by
  refine aBJ (own := RX2) (dC, dI) (tyl cI cC cZ cB cJ) (aK8 cI cC cZ cB cJ wY uT jE eW eY dU fY gJ jG nU rQ) sz [.ref wY, .ref uT, .int p1] (fun A => q_X2_read_b2 dC dI cI cC cZ cB cJ A wY uT rQ post) pn_RX2 rfl (lbz rfl) ?_
  intro p e s m args below meth c A H locs ls C0 hP hD hS hl
  have hl : lv_has ls 3 [(0, .ref wY), (1, .ref uT), (2, .int p1)] := hl
  obtain ⟨hx, hb, hr, hml, hown, hts, hlocks, hA, hK, hN, tL, tM, hZL, hTL, hZM, hTM, hZX⟩ := id C0
  have hp := hw
  unfold wp_X2_read_b2 at hp
  refine lv_iload_n hx hb aJR.1 rfl (lv_at hl 2 rfl) ?_
  refine lv_if_lt (tgt := 13) hx hb aJR.2.1 (by decide) (fun hc => ?_) (fun hc => ?_)
  · have hp := hp.1 hc
    exact W.vret hx hb hr (fun t ht hW => ⟨⟨(jE, eW, eY, dU, fY, gJ, jG, nU), rfl, hp, by rw [ht]; exact hP, va_K.moved hW.alike hK, hD⟩, hS.F ht⟩) hS.2.2 aJR.2.2.2.2.2.2.2.2.1
  · have hp := hp.2 hc
    refine lv_iload_n hx hb aJR.2.2.1 rfl (lv_at hl 2 rfl) ?_
    refine lv_aload_n hx hb aJR.2.2.2.1 rfl (lv_at hl 1 rfl) ?_
    refine va_alen (v := 16) hx hb hK hP 1 0 rfl rfl rfl aJR.2.2.2.2.1 ?_
    refine lv_bipush (v := 8) hx hb aJR.2.2.2.2.2.1 bp_8 ?_
    refine lv_isub hx hb aJR.2.2.2.2.2.2.1 ?_
    refine lv_icmp_le (tgt := 14) hx hb aJR.2.2.2.2.2.2.2.1 (by decide) (fun hc => ?_) (fun hc => ?_)
    · have hp := hp.1 hc
      refine lv_aload_n hx hb aJR.2.2.2.2.2.2.2.2.2.1 rfl (lv_at hl 0 rfl) ?_
      refine lv_aload_n hx hb aJR.2.2.2.2.2.2.2.2.2.2.1 rfl (lv_at hl 1 rfl) ?_
      refine lv_iload_n hx hb aJR.2.2.2.2.2.2.2.2.2.2.2.1 rfl (lv_at hl 2 rfl) ?_
      have hin := hp.1
      have hp := hp.2
      refine va_iald hx hb hK hP 1 0 rfl rfl hin aJR.2.2.2.2.2.2.2.2.2.2.2.2.1 ?_
      refine lv_topi (fun v_1 aFJ => ?_)
      have hp := hp v_1 aFJ
      refine va_put (D := (dC, dI)) (ci := 2) (v := .int v_1) (ty := .int) (C := RX2) (T := TX2) (N := 8) hx hb hts i_X2 tyX2 aIa nmX2 hown hK hP hD hS 0 rfl rfl 0 (lbz rfl) (hts _ q_168) (fun _ h9 => h9) rfl (aIa 0 (lbz rfl)) rfl rfl (lbz rfl) aJR.2.2.2.2.2.2.2.2.2.2.2.2.2.1 (fun H locs hP hD hS => ?_)
      have hPD := PDw (ws' := (aK8 cI cC cZ cB cJ wY uT v_1 eW eY dU fY gJ jG nU rQ)) hP hD rfl
      have hP := hPD.1
      have hD := hPD.2
      refine lv_aload_n hx hb aJR.2.2.2.2.2.2.2.2.2.2.2.2.2.2.1 rfl (lv_at hl 0 rfl) ?_
      refine lv_aload_n hx hb aJR.2.2.2.2.2.2.2.2.2.2.2.2.2.2.2 rfl (lv_at hl 1 rfl) ?_
      refine lv_iload_n hx hb aIf.1 rfl (lv_at hl 2 rfl) ?_
      refine lv_iconst (v := 1) hx hb aIf.2.1 aDx ?_
      refine lv_iadd hx hb aIf.2.2.1 ?_
      refine lv_topi (fun v_2 aGO => ?_)
      have hp := hp v_2 aGO
      have hin := hp.1
      have hp := hp.2
      refine va_iald hx hb hK hP 1 0 rfl rfl hin aIf.2.2.2.1 ?_
      refine lv_topi (fun v_3 aGW => ?_)
      have hp := hp v_3 aGW
      refine va_put (D := (dC, dI)) (ci := 2) (v := .int v_3) (ty := .int) (C := RX2) (T := TX2) (N := 8) hx hb hts i_X2 tyX2 aIa nmX2 hown hK hP hD hS 0 rfl rfl 1 (lbz rfl) (hts _ q_169) (fun _ h9 => h9) rfl (aIa 1 (lbz rfl)) rfl rfl (lbz rfl) aIf.2.2.2.2.1 (fun H locs hP hD hS => ?_)
      have hPD := PDw (ws' := (aK8 cI cC cZ cB cJ wY uT v_1 v_3 eY dU fY gJ jG nU rQ)) hP hD rfl
      have hP := hPD.1
      have hD := hPD.2
      refine lv_aload_n hx hb aIf.2.2.2.2.2.1 rfl (lv_at hl 0 rfl) ?_
      refine lv_aload_n hx hb aIf.2.2.2.2.2.2.1 rfl (lv_at hl 1 rfl) ?_
      refine lv_iload_n hx hb aIf.2.2.2.2.2.2.2.1 rfl (lv_at hl 2 rfl) ?_
      refine lv_iconst (v := 2) hx hb aIf.2.2.2.2.2.2.2.2.1 ic_2 ?_
      refine lv_iadd hx hb aIf.2.2.2.2.2.2.2.2.2.1 ?_
      refine lv_topi (fun v_4 aHM => ?_)
      have hp := hp v_4 aHM
      have hin := hp.1
      have hp := hp.2
      refine va_iald hx hb hK hP 1 0 rfl rfl hin aIf.2.2.2.2.2.2.2.2.2.2.1 ?_
      refine lv_topi (fun v_5 aJD => ?_)
      have hp := hp v_5 aJD
      refine va_put (D := (dC, dI)) (ci := 2) (v := .int v_5) (ty := .int) (C := RX2) (T := TX2) (N := 8) hx hb hts i_X2 tyX2 aIa nmX2 hown hK hP hD hS 0 rfl rfl 2 (lbz rfl) (hts _ q_170) (fun _ h9 => h9) rfl (aIa 2 (lbz rfl)) rfl rfl (lbz rfl) aIf.2.2.2.2.2.2.2.2.2.2.2.1 (fun H locs hP hD hS => ?_)
      have hPD := PDw (ws' := (aK8 cI cC cZ cB cJ wY uT v_1 v_3 v_5 dU fY gJ jG nU rQ)) hP hD rfl
      have hP := hPD.1
      have hD := hPD.2
      refine lv_aload_n hx hb aIf.2.2.2.2.2.2.2.2.2.2.2.2.1 rfl (lv_at hl 0 rfl) ?_
      refine lv_aload_n hx hb aIf.2.2.2.2.2.2.2.2.2.2.2.2.2.1 rfl (lv_at hl 1 rfl) ?_
      refine lv_iload_n hx hb aIf.2.2.2.2.2.2.2.2.2.2.2.2.2.2.1 rfl (lv_at hl 2 rfl) ?_
      refine lv_iconst (v := 3) hx hb aIf.2.2.2.2.2.2.2.2.2.2.2.2.2.2.2 ic_3 ?_
      refine lv_iadd hx hb aIg.1 ?_
      refine lv_topi (fun v_6 ev_6 => ?_)
      have hp := hp v_6 ev_6
      have hin := hp.1
      have hp := hp.2
      refine va_iald hx hb hK hP 1 0 rfl rfl hin aIg.2.1 ?_
      refine lv_topi (fun v_7 ev_7 => ?_)
      have hp := hp v_7 ev_7
      refine va_put (D := (dC, dI)) (ci := 2) (v := .int v_7) (ty := .int) (C := RX2) (T := TX2) (N := 8) hx hb hts i_X2 tyX2 aIa nmX2 hown hK hP hD hS 0 rfl rfl 3 (lbz rfl) (hts _ q_214) (fun _ h9 => h9) rfl (aIa 3 (lbz rfl)) rfl rfl (lbz rfl) aIg.2.2.1 (fun H locs hP hD hS => ?_)
      have hPD := PDw (ws' := (aK8 cI cC cZ cB cJ wY uT v_1 v_3 v_5 v_7 fY gJ jG nU rQ)) hP hD rfl
      have hP := hPD.1
      have hD := hPD.2
      refine lv_aload_n hx hb aIg.2.2.2.1 rfl (lv_at hl 0 rfl) ?_
      refine lv_aload_n hx hb aIg.2.2.2.2.1 rfl (lv_at hl 1 rfl) ?_
      refine lv_iload_n hx hb aIg.2.2.2.2.2.1 rfl (lv_at hl 2 rfl) ?_
      refine lv_iconst (v := 4) hx hb aIg.2.2.2.2.2.2.1 ic_4 ?_
      refine lv_iadd hx hb aIg.2.2.2.2.2.2.2.1 ?_
      refine lv_topi (fun v_8 ev_8 => ?_)
      have hp := hp v_8 ev_8
      have hin := hp.1
      have hp := hp.2
      refine va_iald hx hb hK hP 1 0 rfl rfl hin aIg.2.2.2.2.2.2.2.2.1 ?_
      refine lv_topi (fun v_9 ev_9 => ?_)
      have hp := hp v_9 ev_9
      refine va_put (D := (dC, dI)) (ci := 2) (v := .int v_9) (ty := .int) (C := RX2) (T := TX2) (N := 8) hx hb hts i_X2 tyX2 aIa nmX2 hown hK hP hD hS 0 rfl rfl 4 (lbz rfl) (hts _ q_215) (fun _ h9 => h9) rfl (aIa 4 (lbz rfl)) rfl rfl (lbz rfl) aIg.2.2.2.2.2.2.2.2.2.1 (fun H locs hP hD hS => ?_)
      have hPD := PDw (ws' := (aK8 cI cC cZ cB cJ wY uT v_1 v_3 v_5 v_7 v_9 gJ jG nU rQ)) hP hD rfl
      have hP := hPD.1
      have hD := hPD.2
      refine lv_aload_n hx hb aIg.2.2.2.2.2.2.2.2.2.2.1 rfl (lv_at hl 0 rfl) ?_
      refine lv_aload_n hx hb aIg.2.2.2.2.2.2.2.2.2.2.2.1 rfl (lv_at hl 1 rfl) ?_
      refine lv_iload_n hx hb aIg.2.2.2.2.2.2.2.2.2.2.2.2.1 rfl (lv_at hl 2 rfl) ?_
      refine lv_iconst (v := 5) hx hb aIg.2.2.2.2.2.2.2.2.2.2.2.2.2.1 ic_5 ?_
      refine lv_iadd hx hb aIg.2.2.2.2.2.2.2.2.2.2.2.2.2.2.1 ?_
      refine lv_topi (fun aEr aNB => ?_)
      have hp := hp aEr aNB
      have hin := hp.1
      have hp := hp.2
      refine va_iald hx hb hK hP 1 0 rfl rfl hin aIg.2.2.2.2.2.2.2.2.2.2.2.2.2.2.2 ?_
      refine lv_topi (fun aGH ev_11 => ?_)
      have hp := hp aGH ev_11
      refine va_put (D := (dC, dI)) (ci := 2) (v := .int aGH) (ty := .int) (C := RX2) (T := TX2) (N := 8) hx hb hts i_X2 tyX2 aIa nmX2 hown hK hP hD hS 0 rfl rfl 5 (lbz rfl) (hts _ q_216) (fun _ h9 => h9) rfl (aIa 5 (lbz rfl)) rfl rfl (lbz rfl) aIh.1 (fun H locs hP hD hS => ?_)
      have hPD := PDw (ws' := (aK8 cI cC cZ cB cJ wY uT v_1 v_3 v_5 v_7 v_9 aGH jG nU rQ)) hP hD rfl
      have hP := hPD.1
      have hD := hPD.2
      refine lv_aload_n hx hb aIh.2.1 rfl (lv_at hl 0 rfl) ?_
      refine lv_aload_n hx hb aIh.2.2.1 rfl (lv_at hl 1 rfl) ?_
      refine lv_iload_n hx hb aIh.2.2.2.1 rfl (lv_at hl 2 rfl) ?_
      refine lv_bipush (v := 6) hx hb aIh.2.2.2.2.1 bp_6 ?_
      refine lv_iadd hx hb aIh.2.2.2.2.2.1 ?_
      refine lv_topi (fun aEp ev_12 => ?_)
      have hp := hp aEp ev_12
      have hin := hp.1
      have hp := hp.2
      refine va_iald hx hb hK hP 1 0 rfl rfl hin aIh.2.2.2.2.2.2.1 ?_
      refine lv_topi (fun aIQ ev_13 => ?_)
      have hp := hp aIQ ev_13
      refine va_put (D := (dC, dI)) (ci := 2) (v := .int aIQ) (ty := .int) (C := RX2) (T := TX2) (N := 8) hx hb hts i_X2 tyX2 aIa nmX2 hown hK hP hD hS 0 rfl rfl 6 (lbz rfl) (hts _ q_217) (fun _ h9 => h9) rfl (aIa 6 (lbz rfl)) rfl rfl (lbz rfl) aIh.2.2.2.2.2.2.2.1 (fun H locs hP hD hS => ?_)
      have hPD := PDw (ws' := (aK8 cI cC cZ cB cJ wY uT v_1 v_3 v_5 v_7 v_9 aGH aIQ nU rQ)) hP hD rfl
      have hP := hPD.1
      have hD := hPD.2
      refine lv_aload_n hx hb aIh.2.2.2.2.2.2.2.2.1 rfl (lv_at hl 0 rfl) ?_
      refine lv_aload_n hx hb aIh.2.2.2.2.2.2.2.2.2.1 rfl (lv_at hl 1 rfl) ?_
      refine lv_iload_n hx hb aIh.2.2.2.2.2.2.2.2.2.2.1 rfl (lv_at hl 2 rfl) ?_
      refine lv_bipush (v := 7) hx hb aIh.2.2.2.2.2.2.2.2.2.2.2.1 bp_7 ?_
      refine lv_iadd hx hb aIh.2.2.2.2.2.2.2.2.2.2.2.2.1 ?_
      refine lv_topi (fun aGC ev_14 => ?_)
      have hp := hp aGC ev_14
      have hin := hp.1
      have hp := hp.2
      refine va_iald hx hb hK hP 1 0 rfl rfl hin aIh.2.2.2.2.2.2.2.2.2.2.2.2.2.1 ?_
      refine lv_topi (fun aHe ev_15 => ?_)
      have hp := hp aHe ev_15
      refine va_put (D := (dC, dI)) (ci := 2) (v := .int aHe) (ty := .int) (C := RX2) (T := TX2) (N := 8) hx hb hts i_X2 tyX2 aIa nmX2 hown hK hP hD hS 0 rfl rfl 7 (lbz rfl) (hts _ q_218) (fun _ h9 => h9) rfl (aIa 7 (lbz rfl)) rfl rfl (lbz rfl) aIh.2.2.2.2.2.2.2.2.2.2.2.2.2.2.1 (fun H locs hP hD hS => ?_)
      have hPD := PDw (ws' := (aK8 cI cC cZ cB cJ wY uT v_1 v_3 v_5 v_7 v_9 aGH aIQ aHe rQ)) hP hD rfl
      have hP := hPD.1
      have hD := hPD.2
      exact W.vret hx hb hr (fun t ht hW => ⟨⟨(v_1, v_3, v_5, v_7, v_9, aGH, aIQ, aHe), rfl, hp, by rw [ht]; exact hP, va_K.moved hW.alike hK, hD⟩, hS.F ht⟩) hS.2.2 aIh.2.2.2.2.2.2.2.2.2.2.2.2.2.2.2
    · have hp := hp.2 hc
      exact W.vret hx hb hr (fun t ht hW => ⟨⟨(jE, eW, eY, dU, fY, gJ, jG, nU), rfl, hp, by rw [ht]; exact hP, va_K.moved hW.alike hK, hD⟩, hS.F ht⟩) hS.2.2 aJR.2.2.2.2.2.2.2.2.1
abbrev wd_X4_fetch (cI cC cZ cB cJ : ClassId) (wY xX wF uT wD : Nat) (jE eW eY dU fY gJ jG nU pR uM : Int32) (rQ uF : Nat -> Int32) : va_W := [(wY, .inr (2, [.int jE, .int eW, .int eY, .int dU, .int fY, .int gJ, .int jG, .int nU])), (xX, .inr (4, [.ref wF, .ref uT, .ref wD, .int pR, .int uM])), (uT, .inl (cI, 16, .inl rQ)), (wD, .inl (cZ, 2, .inl uF))]
abbrev q_X4_fetch (dC : Nat -> ClassId) (dI : Nat -> Nat -> Nat) (cI cC cZ cB cJ : ClassId) (A : Nat -> Prop) (wY xX wF uT wD : Nat) (uM : Int32) (rQ uF : Nat -> Int32) (post : Int32 -> Int32 -> Int32 -> Int32 -> Int32 -> Int32 -> Int32 -> Int32 -> Int32 -> Int32 -> Prop) : Array Value -> State -> Outcome -> State -> Prop := va_Qi (fun (r : Int32) (u : Int32 × Int32 × Int32 × Int32 × Int32 × Int32 × Int32 × Int32 × Int32) => post r u.1 u.2.1 u.2.2.1 u.2.2.2.1 u.2.2.2.2.1 u.2.2.2.2.2.1 u.2.2.2.2.2.2.1 u.2.2.2.2.2.2.2.1 u.2.2.2.2.2.2.2.2) (fun u t => gB (dC, dI) (tyl cI cC cZ cB cJ) A (wd_X4_fetch cI cC cZ cB cJ wY xX wF uT wD u.1 u.2.1 u.2.2.1 u.2.2.2.1 u.2.2.2.2.1 u.2.2.2.2.2.1 u.2.2.2.2.2.2.1 u.2.2.2.2.2.2.2.1 u.2.2.2.2.2.2.2.2 uM rQ uF) t) A
abbrev rm_X4_fetch : Room := { frames := 1, cells := 0, slots := 0, locals := 22 }
def wp_X4_fetch (post : Int32 -> Int32 -> Int32 -> Int32 -> Int32 -> Int32 -> Int32 -> Int32 -> Int32 -> Int32 -> Prop) (p0 jE eW eY dU fY gJ jG nU pR : Int32) (rQ uF : Nat -> Int32) : Prop := (p0 < 0 -> post 0 jE eW eY dU fY gJ jG nU pR) /\ (¬ p0 < 0 -> (2 <= p0 -> post 0 jE eW eY dU fY gJ jG nU pR) /\ (¬ 2 <= p0 -> vp_in p0 2 /\ ((¬ (uF p0.toNatClampNeg) = 0 -> ∀ v_1 : Int32, v_1 = p0 * 8 -> wp_X2_read_b2 (fun aNR aLF no_ground_4 no_bruised_5 no_ladder_6 no_helper_7 no_today_8 no_clock_9 => post 1 aNR aLF no_ground_4 no_bruised_5 no_ladder_6 no_helper_7 no_today_8 no_clock_9 0) v_1 jE eW eY dU fY gJ jG nU rQ) /\ ((uF p0.toNatClampNeg) = 0 -> post 0 jE eW eY dU fY gJ jG nU pR))))
set_option maxHeartbeats 4000000 in
set_option maxRecDepth 100000 in
theorem c_X4_fetch (l : Launch) (dC : Nat -> ClassId) (dI : Nat -> Nat -> Nat) (cI cC cZ cB cJ : ClassId) (wY xX wF uT wD sz : Nat) (p0 jE eW eY dU fY gJ jG nU pR uM : Int32) (rQ uF : Nat -> Int32) (post : Int32 -> Int32 -> Int32 -> Int32 -> Int32 -> Int32 -> Int32 -> Int32 -> Int32 -> Int32 -> Prop) (hw : wp_X4_fetch post p0 jE eW eY dU fY gJ jG nU pR rQ uF) : Met l yX4_fetch (gw yX4_fetch aST 3 (some .boolean)) rm_X4_fetch (va_Pc [.ref xX, .int p0, .ref wY] (gPre (dC, dI) (tyl cI cC cZ cB cJ) (wd_X4_fetch cI cC cZ cB cJ wY xX wF uT wD jE eW eY dU fY gJ jG nU pR uM rQ uF) sz)) (q_X4_fetch dC dI cI cC cZ cB cJ (va_A (wd_X4_fetch cI cC cZ cB cJ wY xX wF uT wD jE eW eY dU fY gJ jG nU pR uM rQ uF) sz) wY xX wF uT wD uM rQ uF post) 0 0 (va_A (wd_X4_fetch cI cC cZ cB cJ wY xX wF uT wD jE eW eY dU fY gJ jG nU pR uM rQ uF) sz) := by
  refine aBJ (own := RX4) (dC, dI) (tyl cI cC cZ cB cJ) (wd_X4_fetch cI cC cZ cB cJ wY xX wF uT wD jE eW eY dU fY gJ jG nU pR uM rQ uF) sz [.ref xX, .int p0, .ref wY] (fun A => q_X4_fetch dC dI cI cC cZ cB cJ A wY xX wF uT wD uM rQ uF post) pn_RX4 rfl (lbz rfl) ?_
  intro p e s m args below meth c A H locs ls C0 hP hD hS hl
  have hl : lv_has ls 3 [(0, .ref xX), (1, .int p0), (2, .ref wY)] := hl
  obtain ⟨hx, hb, hr, hml, hown, hts, hlocks, hA, hK, hN, tL, tM, hZL, hTL, hZM, hTM, hZX⟩ := id C0
  have hp := hw
  unfold wp_X4_fetch at hp
  refine lv_iload_n hx hb aSW.1 rfl (lv_at hl 1 rfl) ?_
  refine lv_if_lt (tgt := 18) hx hb aSW.2.1 (by decide) (fun hc => ?_) (fun hc => ?_)
  · have hp := hp.1 hc
    refine lv_iconst (v := 0) hx hb aSW.2.2.2.2.2.2.2.2.2.2.1 aCi ?_
    exact W.zret (v := 0) hx hb hr rfl (fun t ht hW => ⟨⟨0, (jE, eW, eY, dU, fY, gJ, jG, nU, pR), rfl, hp, by rw [ht]; exact hP, va_K.moved hW.alike hK, hD⟩, hS.F ht⟩) hS.2.2 aSW.2.2.2.2.2.2.2.2.2.2.2.1
  · have hp := hp.2 hc
    refine lv_iload_n hx hb aSW.2.2.1 rfl (lv_at hl 1 rfl) ?_
    refine lv_iconst (v := 2) hx hb aSW.2.2.2.1 ic_2 ?_
    refine lv_icmp_ge (tgt := 18) hx hb aSW.2.2.2.2.1 (by decide) (fun hc => ?_) (fun hc => ?_)
    · have hp := hp.1 hc
      refine lv_iconst (v := 0) hx hb aSW.2.2.2.2.2.2.2.2.2.2.1 aCi ?_
      exact W.zret (v := 0) hx hb hr rfl (fun t ht hW => ⟨⟨0, (jE, eW, eY, dU, fY, gJ, jG, nU, pR), rfl, hp, by rw [ht]; exact hP, va_K.moved hW.alike hK, hD⟩, hS.F ht⟩) hS.2.2 aSW.2.2.2.2.2.2.2.2.2.2.2.1
    · have hp := hp.2 hc
      refine lv_aload_n hx hb aSW.2.2.2.2.2.1 rfl (lv_at hl 0 rfl) ?_
      refine va_get (D := (dC, dI)) (ci := 4) (v := .ref wD) (C := RX4) (T := TX4) (N := 5) hx hb hts i_X4 hown hK hP 1 rfl rfl 2 (lbz rfl) (hts _ q_24) (fun _ h9 => h9) rfl aSW.2.2.2.2.2.2.1 ?_
      refine lv_iload_n hx hb aSW.2.2.2.2.2.2.2.1 rfl (lv_at hl 1 rfl) ?_
      have hin := hp.1
      have hp := hp.2
      refine va_zald hx hb hK hP 3 2 rfl rfl hin aSW.2.2.2.2.2.2.2.2.1 ?_
      refine lv_if_ne (tgt := 20) hx hb aSW.2.2.2.2.2.2.2.2.2.1 (by decide) (fun hc => ?_) (fun hc => ?_)
      · have hp := hp.1 hc
        refine lv_aload_n hx hb aSW.2.2.2.2.2.2.2.2.2.2.2.2.1 rfl (lv_at hl 2 rfl) ?_
        refine lv_aload_n hx hb aSW.2.2.2.2.2.2.2.2.2.2.2.2.2.1 rfl (lv_at hl 0 rfl) ?_
        refine va_get (D := (dC, dI)) (ci := 4) (v := .ref uT) (C := RX4) (T := TX4) (N := 5) hx hb hts i_X4 hown hK hP 1 rfl rfl 1 (lbz rfl) (hts _ q_625) (fun _ h9 => h9) rfl aSW.2.2.2.2.2.2.2.2.2.2.2.2.2.2.1 ?_
        refine lv_iload_n hx hb aSW.2.2.2.2.2.2.2.2.2.2.2.2.2.2.2 rfl (lv_at hl 1 rfl) ?_
        refine lv_bipush (v := 8) hx hb eX4_fetch_26.1 bp_8 ?_
        refine lv_imul hx hb eX4_fetch_26.2.1 ?_
        refine lv_topi (fun v_1 aFJ => ?_)
        have hp := hp v_1 aFJ
        have hm := mgk (wc := (aK8 cI cC cZ cB cJ wY uT jE eW eY dU fY gJ jG nU rQ)) hP mk_194 4 rfl rfl rfl
        refine aBn hP hD hS hA (yS mk_194) (aAi mk_194) hm.1 hm.2 (aAk _) (zW _) (zF (As := [.ref uT, .int v_1]) (rest := []) C0 hP hD hS (yS mk_194) hm.1 (aAl _) 0 2 rfl rfl (c_X2_read_b2 l dC dI cI cC cZ cB cJ wY uT H.size v_1 jE eW eY dU fY gJ jG nU rQ _ hp) q_402 q_405 q_403 q_404 q_181 h_X2_read rfl rfl ⟨lbz rfl, lbz rfl⟩ rfl rfl hl.1 rfl (lv_room (lbz rfl)) eX4_fetch_26.2.2.1 ⟨Nat.zero_le _, Nat.zero_le _⟩) (fun u H locs hp hP hD hS => ?_)
        obtain ⟨aNR, aLF, no_ground_4, no_bruised_5, no_ladder_6, no_helper_7, no_today_8, no_clock_9⟩ := u
        have hPD := PDm (ws' := (wd_X4_fetch cI cC cZ cB cJ wY xX wF uT wD aNR aLF no_ground_4 no_bruised_5 no_ladder_6 no_helper_7 no_today_8 no_clock_9 pR uM rQ uF)) hP hD 4 rfl rfl rfl
        have hP := hPD.1
        have hD := hPD.2
        refine lv_aload_n hx hb eX4_fetch_26.2.2.2.1 rfl (lv_at hl 0 rfl) ?_
        refine lv_iconst (v := 0) hx hb eX4_fetch_26.2.2.2.2.1 aCi ?_
        refine va_put (D := (dC, dI)) (ci := 4) (v := .int 0) (ty := .int) (C := RX4) (T := TX4) (N := 5) hx hb hts i_X4 tyX4 tyX4_ok nmX4 hown hK hP hD hS 1 rfl rfl 3 (lbz rfl) (hts _ q_23) (fun _ h9 => h9) rfl (tyX4_ok 3 (lbz rfl)) rfl rfl (lbz rfl) eX4_fetch_26.2.2.2.2.2.1 (fun H locs hP hD hS => ?_)
        have hPD := PDw (ws' := (wd_X4_fetch cI cC cZ cB cJ wY xX wF uT wD aNR aLF no_ground_4 no_bruised_5 no_ladder_6 no_helper_7 no_today_8 no_clock_9 0 uM rQ uF)) hP hD rfl
        have hP := hPD.1
        have hD := hPD.2
        refine lv_iconst (v := 1) hx hb eX4_fetch_26.2.2.2.2.2.2.1 aDx ?_
        exact W.zret (v := 1) hx hb hr rfl (fun t ht hW => ⟨⟨1, (aNR, aLF, no_ground_4, no_bruised_5, no_ladder_6, no_helper_7, no_today_8, no_clock_9, 0), rfl, hp, by rw [ht]; exact hP, va_K.moved hW.alike hK, hD⟩, hS.F ht⟩) hS.2.2 eX4_fetch_26.2.2.2.2.2.2.2
      · have hp := hp.2 hc
        refine lv_iconst (v := 0) hx hb aSW.2.2.2.2.2.2.2.2.2.2.1 aCi ?_
        exact W.zret (v := 0) hx hb hr rfl (fun t ht hW => ⟨⟨0, (jE, eW, eY, dU, fY, gJ, jG, nU, pR), rfl, hp, by rw [ht]; exact hP, va_K.moved hW.alike hK, hD⟩, hS.F ht⟩) hS.2.2 aSW.2.2.2.2.2.2.2.2.2.2.2.1
abbrev wd_X9_again (cI cC cZ cB cJ : ClassId) (a_x xI xH xB vI wY xX yA xY uD wF uT wD : Nat) (jE eW eY dU fY gJ jG nU pR uM : Int32) (rQ uF : Nat -> Int32) : va_W := [(a_x, .inr (9, [.ref xI, .ref xH, .ref xB, .ref vI, .ref wY, .ref xX, .ref yA, .ref xY, .ref uD])), (wY, .inr (2, [.int jE, .int eW, .int eY, .int dU, .int fY, .int gJ, .int jG, .int nU])), (xX, .inr (4, [.ref wF, .ref uT, .ref wD, .int pR, .int uM])), (uT, .inl (cI, 16, .inl rQ)), (wD, .inl (cZ, 2, .inl uF))]
abbrev q_X9_again (dC : Nat -> ClassId) (dI : Nat -> Nat -> Nat) (cI cC cZ cB cJ : ClassId) (A : Nat -> Prop) (a_x xI xH xB vI wY xX yA xY uD wF uT wD : Nat) (uM : Int32) (rQ uF : Nat -> Int32) (post : Int32 -> Int32 -> Int32 -> Int32 -> Int32 -> Int32 -> Int32 -> Int32 -> Int32 -> Int32 -> Prop) : Array Value -> State -> Outcome -> State -> Prop := va_Qi (fun (r : Int32) (u : Int32 × Int32 × Int32 × Int32 × Int32 × Int32 × Int32 × Int32 × Int32) => post r u.1 u.2.1 u.2.2.1 u.2.2.2.1 u.2.2.2.2.1 u.2.2.2.2.2.1 u.2.2.2.2.2.2.1 u.2.2.2.2.2.2.2.1 u.2.2.2.2.2.2.2.2) (fun u t => gB (dC, dI) (tyl cI cC cZ cB cJ) A (wd_X9_again cI cC cZ cB cJ a_x xI xH xB vI wY xX yA xY uD wF uT wD u.1 u.2.1 u.2.2.1 u.2.2.2.1 u.2.2.2.2.1 u.2.2.2.2.2.1 u.2.2.2.2.2.2.1 u.2.2.2.2.2.2.2.1 u.2.2.2.2.2.2.2.2 uM rQ uF) t) A
abbrev rm_X9_again : Room := { frames := 2, cells := 0, slots := 0, locals := 44 }
def wp_X9_again (post : Int32 -> Int32 -> Int32 -> Int32 -> Int32 -> Int32 -> Int32 -> Int32 -> Int32 -> Int32 -> Prop) (p0 jE eW eY dU fY gJ jG nU pR : Int32) (rQ uF : Nat -> Int32) : Prop := wp_X4_fetch (fun r_1 aNR aLF no_ground_4 no_bruised_5 no_ladder_6 no_helper_7 no_today_8 no_clock_9 pa_undoable_10 => narrow .boolean (.int r_1) = .int r_1 /\ post r_1 aNR aLF no_ground_4 no_bruised_5 no_ladder_6 no_helper_7 no_today_8 no_clock_9 pa_undoable_10) p0 jE eW eY dU fY gJ jG nU pR rQ uF
set_option maxHeartbeats 4000000 in
set_option maxRecDepth 100000 in
theorem c_X9_again (l : Launch) (dC : Nat -> ClassId) (dI : Nat -> Nat -> Nat) (cI cC cZ cB cJ : ClassId) (a_x xI xH xB vI wY xX yA xY uD wF uT wD sz : Nat) (p0 jE eW eY dU fY gJ jG nU pR uM : Int32) (rQ uF : Nat -> Int32) (post : Int32 -> Int32 -> Int32 -> Int32 -> Int32 -> Int32 -> Int32 -> Int32 -> Int32 -> Int32 -> Prop) (hw : wp_X9_again post p0 jE eW eY dU fY gJ jG nU pR rQ uF) : Met l yX9_again (gw yX9_again cX9_again 2 (some .boolean)) rm_X9_again (va_Pc [.ref a_x, .int p0] (gPre (dC, dI) (tyl cI cC cZ cB cJ) (wd_X9_again cI cC cZ cB cJ a_x xI xH xB vI wY xX yA xY uD wF uT wD jE eW eY dU fY gJ jG nU pR uM rQ uF) sz)) (q_X9_again dC dI cI cC cZ cB cJ (va_A (wd_X9_again cI cC cZ cB cJ a_x xI xH xB vI wY xX yA xY uD wF uT wD jE eW eY dU fY gJ jG nU pR uM rQ uF) sz) a_x xI xH xB vI wY xX yA xY uD wF uT wD uM rQ uF post) 0 0 (va_A (wd_X9_again cI cC cZ cB cJ a_x xI xH xB vI wY xX yA xY uD wF uT wD jE eW eY dU fY gJ jG nU pR uM rQ uF) sz) := by
  refine aBJ (own := RX9) (dC, dI) (tyl cI cC cZ cB cJ) (wd_X9_again cI cC cZ cB cJ a_x xI xH xB vI wY xX yA xY uD wF uT wD jE eW eY dU fY gJ jG nU pR uM rQ uF) sz [.ref a_x, .int p0] (fun A => q_X9_again dC dI cI cC cZ cB cJ A a_x xI xH xB vI wY xX yA xY uD wF uT wD uM rQ uF post) pn_RX9 rfl (lbz rfl) ?_
  intro p e s m args below meth c A H locs ls C0 hP hD hS hl
  have hl : lv_has ls 2 [(0, .ref a_x), (1, .int p0)] := hl
  obtain ⟨hx, hb, hr, hml, hown, hts, hlocks, hA, hK, hN, tL, tM, hZL, hTL, hZM, hTM, hZX⟩ := id C0
  have hp := hw
  unfold wp_X9_again at hp
  refine lv_aload_n hx hb eX9_again_0.1 rfl (lv_at hl 0 rfl) ?_
  refine va_get (D := (dC, dI)) (ci := 9) (v := .ref xX) (C := RX9) (T := TX9) (N := 9) hx hb hts aC3 hown hK hP 0 rfl rfl 5 (lbz rfl) (hts _ q_91) (fun _ h9 => h9) rfl eX9_again_0.2.1 ?_
  refine lv_iload_n hx hb eX9_again_0.2.2.1 rfl (lv_at hl 1 rfl) ?_
  refine lv_aload_n hx hb eX9_again_0.2.2.2.1 rfl (lv_at hl 0 rfl) ?_
  refine va_get (D := (dC, dI)) (ci := 9) (v := .ref wY) (C := RX9) (T := TX9) (N := 9) hx hb hts aC3 hown hK hP 0 rfl rfl 4 (lbz rfl) (hts _ q_179) (fun _ h9 => h9) rfl eX9_again_0.2.2.2.2.1 ?_
  have hm := mgk (wc := (wd_X4_fetch cI cC cZ cB cJ wY xX wF uT wD jE eW eY dU fY gJ jG nU pR uM rQ uF)) hP mk_195 5 rfl rfl rfl
  refine yW hP hD hS hA (yS mk_195) (aAi mk_195) hm.1 hm.2 (aAk _) (zW _) (zF (As := [.int p0, .ref wY]) (rest := []) C0 hP hD hS (yS mk_195) hm.1 (aAl _) 2 4 rfl rfl (c_X4_fetch l dC dI cI cC cZ cB cJ wY xX wF uT wD H.size p0 jE eW eY dU fY gJ jG nU pR uM rQ uF _ hp) q_630 q_633 q_631 q_632 q_93 h_X4_fetch rfl rfl ⟨lbz rfl, lbz rfl⟩ rfl rfl hl.1 rfl (lv_room (lbz rfl)) eX9_again_0.2.2.2.2.2.1 ⟨Nat.zero_le _, Nat.zero_le _⟩) (fun r_1 u H locs hp hP hD hS => ?_)
  obtain ⟨aNR, aLF, no_ground_4, no_bruised_5, no_ladder_6, no_helper_7, no_today_8, no_clock_9, pa_undoable_10⟩ := u
  have hPD := PDm (ws' := (wd_X9_again cI cC cZ cB cJ a_x xI xH xB vI wY xX yA xY uD wF uT wD aNR aLF no_ground_4 no_bruised_5 no_ladder_6 no_helper_7 no_today_8 no_clock_9 pa_undoable_10 uM rQ uF)) hP hD 5 rfl rfl rfl
  have hP := hPD.1
  have hD := hPD.2
  have hnz := hp.1
  have hp := hp.2
  exact W.zret (v := r_1) hx hb hr hnz (fun t ht hW => ⟨⟨r_1, (aNR, aLF, no_ground_4, no_bruised_5, no_ladder_6, no_helper_7, no_today_8, no_clock_9, pa_undoable_10), rfl, hp, by rw [ht]; exact hP, va_K.moved hW.alike hK, hD⟩, hS.F ht⟩) hS.2.2 eX9_again_0.2.2.2.2.2.2
abbrev wd_X9_count (cI cC cZ cB cJ : ClassId) (a_x xI xH xB vI wY xX yA xY uD uY xO tJ jJ mY pG pD pE eO wF uT wD rG : Nat) (qL qJ rX dN bD bJ aI : Int32) (pL : Nat -> Int32) (jE eW eY dU fY gJ jG nU pR uM qB : Int32) : va_W := [(a_x, .inr (9, [.ref xI, .ref xH, .ref xB, .ref vI, .ref wY, .ref xX, .ref yA, .ref xY, .ref uD])), (xI, .inr (8, [.ref uY, .int qL, .int qJ, .int rX])), (xB, .inr (0, [.ref vI, .ref wY, .ref xO])), (vI, .inr (3, [.ref tJ, .ref jJ, .ref mY, .ref pG, .ref pD, .ref pE, .ref eO, .int dN, .int bD, .int bJ, .int aI])), (mY, .inl (cI, 16, .inl pL)), (wY, .inr (2, [.int jE, .int eW, .int eY, .int dU, .int fY, .int gJ, .int jG, .int nU])), (xX, .inr (4, [.ref wF, .ref uT, .ref wD, .int pR, .int uM])), (yA, .inr (6, [.ref rG, .int qB]))]
abbrev q_X9_count (dC : Nat -> ClassId) (dI : Nat -> Nat -> Nat) (cI cC cZ cB cJ : ClassId) (A : Nat -> Prop) (a_x xI xH xB vI wY xX yA xY uD uY xO tJ jJ mY pG pD pE eO wF uT wD rG : Nat) (qL qJ rX dN bD bJ aI : Int32) (pL : Nat -> Int32) (jE eW eY dU fY gJ jG nU pR uM qB : Int32) (post : Int32 -> Prop) : Array Value -> State -> Outcome -> State -> Prop := va_Qi (fun (r : Int32) (u : Unit) => post r) (fun u t => gB (dC, dI) (tyl cI cC cZ cB cJ) A (wd_X9_count cI cC cZ cB cJ a_x xI xH xB vI wY xX yA xY uD uY xO tJ jJ mY pG pD pE eO wF uT wD rG qL qJ rX dN bD bJ aI pL jE eW eY dU fY gJ jG nU pR uM qB) t) A
abbrev rm_X9_count : Room := { frames := 2, cells := 0, slots := 0, locals := 45 }
def wp_X9_count (post : Int32 -> Prop) (p0 qL dN bD : Int32) (pL : Nat -> Int32) (jE eW eY dU fY jG nU pR qB : Int32) : Prop := (p0 = 0 -> post dN) /\ (p0 = 1 -> post bD) /\ (p0 = 2 -> post fY) /\ (p0 = 3 -> post jG) /\ (p0 = 4 -> post nU) /\ (p0 = 5 -> aOu (fun r_1 => post r_1) dN jE eW eY) /\ (p0 = 6 -> post jE) /\ (p0 = 7 -> post eW) /\ (p0 = 8 -> post eY) /\ (p0 = 9 -> post dU) /\ (p0 = 10 -> aVC (fun r_2 => post r_2) eW dN pL dU) /\ (p0 = 11 -> post pR) /\ (p0 = 12 -> post qB) /\ (p0 = 13 -> post qL) /\ (¬ p0 = 0 -> ¬ p0 = 1 -> ¬ p0 = 2 -> ¬ p0 = 3 -> ¬ p0 = 4 -> ¬ p0 = 5 -> ¬ p0 = 6 -> ¬ p0 = 7 -> ¬ p0 = 8 -> ¬ p0 = 9 -> ¬ p0 = 10 -> ¬ p0 = 11 -> ¬ p0 = 12 -> ¬ p0 = 13 -> post (-100))
set_option maxHeartbeats 4000000 in
set_option maxRecDepth 100000 in
theorem c_X9_count (l : Launch) (dC : Nat -> ClassId) (dI : Nat -> Nat -> Nat) (cI cC cZ cB cJ : ClassId) (a_x xI xH xB vI wY xX yA xY uD uY xO tJ jJ mY pG pD pE eO wF uT wD rG sz : Nat) (p0 qL qJ rX dN bD bJ aI : Int32) (pL : Nat -> Int32) (jE eW eY dU fY gJ jG nU pR uM qB : Int32) (post : Int32 -> Prop) (hw : wp_X9_count post p0 qL dN bD pL jE eW eY dU fY jG nU pR qB) : Met l yX9_count (gw yX9_count aEi 2 (some .int)) rm_X9_count (va_Pc [.ref a_x, .int p0] (gPre (dC, dI) (tyl cI cC cZ cB cJ) (wd_X9_count cI cC cZ cB cJ a_x xI xH xB vI wY xX yA xY uD uY xO tJ jJ mY pG pD pE eO wF uT wD rG qL qJ rX dN bD bJ aI pL jE eW eY dU fY gJ jG nU pR uM qB) sz)) (q_X9_count dC dI cI cC cZ cB cJ (va_A (wd_X9_count cI cC cZ cB cJ a_x xI xH xB vI wY xX yA xY uD uY xO tJ jJ mY pG pD pE eO wF uT wD rG qL qJ rX dN bD bJ aI pL jE eW eY dU fY gJ jG nU pR uM qB) sz) a_x xI xH xB vI wY xX yA xY uD uY xO tJ jJ mY pG pD pE eO wF uT wD rG qL qJ rX dN bD bJ aI pL jE eW eY dU fY gJ jG nU pR uM qB post) 0 0 (va_A (wd_X9_count cI cC cZ cB cJ a_x xI xH xB vI wY xX yA xY uD uY xO tJ jJ mY pG pD pE eO wF uT wD rG qL qJ rX dN bD bJ aI pL jE eW eY dU fY gJ jG nU pR uM qB) sz) := by
  refine aBJ (own := RX9) (dC, dI) (tyl cI cC cZ cB cJ) (wd_X9_count cI cC cZ cB cJ a_x xI xH xB vI wY xX yA xY uD uY xO tJ jJ mY pG pD pE eO wF uT wD rG qL qJ rX dN bD bJ aI pL jE eW eY dU fY gJ jG nU pR uM qB) sz [.ref a_x, .int p0] (fun A => q_X9_count dC dI cI cC cZ cB cJ A a_x xI xH xB vI wY xX yA xY uD uY xO tJ jJ mY pG pD pE eO wF uT wD rG qL qJ rX dN bD bJ aI pL jE eW eY dU fY gJ jG nU pR uM qB post) pn_RX9 rfl (lbz rfl) ?_
  intro p e s m args below meth c A H locs ls C0 hP hD hS hl
  have hl : lv_has ls 2 [(0, .ref a_x), (1, .int p0)] := hl
  obtain ⟨hx, hb, hr, hml, hown, hts, hlocks, hA, hK, hN, tL, tM, hZL, hTL, hZM, hTM, hZX⟩ := id C0
  have hp := hw
  unfold wp_X9_count at hp
  refine lv_iload_n hx hb aJb.1 rfl (lv_at hl 1 rfl) ?_
  by_cases hc0 : p0 = 0
  · have hp := hp.1 hc0
    refine lv_tableIn (tgt := 72) hx hb aJb.2.1 (by first | (rw [hc0]; done) | (rw [hc0]; decide)) (by first | (rw [hc0]; done) | (rw [hc0]; decide)) (by first | (rw [hc0]; done) | (rw [hc0]; rfl)) (by decide) ?_
    refine lv_aload_n hx hb aJb.2.2.1 rfl (lv_at hl 0 rfl) ?_
    refine va_get (D := (dC, dI)) (ci := 9) (v := .ref vI) (C := RX9) (T := TX9) (N := 9) hx hb hts aC3 hown hK hP 0 rfl rfl 3 (lbz rfl) (hts _ q_74) (fun _ h9 => h9) rfl aJb.2.2.2.1 ?_
    refine va_get (D := (dC, dI)) (ci := 3) (v := .int dN) (C := RX3) (T := TX3) (N := 11) hx hb hts i_X3 hown hK hP 3 rfl rfl 7 (lbz rfl) (hts _ q_539) (fun _ h9 => h9) rfl aJb.2.2.2.2.1 ?_
    exact W.iret (v := dN) hx hb hr (fun t ht hW => ⟨⟨dN, (), rfl, hp, by rw [ht]; exact hP, va_K.moved hW.alike hK, hD⟩, hS.F ht⟩) hS.2.2 aJb.2.2.2.2.2.1
  by_cases hc1 : p0 = 1
  · have hp := hp.2.1 hc1
    refine lv_tableIn (tgt := 80) hx hb aJb.2.1 (by first | (rw [hc1]; done) | (rw [hc1]; decide)) (by first | (rw [hc1]; done) | (rw [hc1]; decide)) (by first | (rw [hc1]; done) | (rw [hc1]; rfl)) (by decide) ?_
    refine lv_aload_n hx hb aJb.2.2.2.2.2.2.1 rfl (lv_at hl 0 rfl) ?_
    refine va_get (D := (dC, dI)) (ci := 9) (v := .ref vI) (C := RX9) (T := TX9) (N := 9) hx hb hts aC3 hown hK hP 0 rfl rfl 3 (lbz rfl) (hts _ q_74) (fun _ h9 => h9) rfl aJb.2.2.2.2.2.2.2.1 ?_
    refine va_get (D := (dC, dI)) (ci := 3) (v := .int bD) (C := RX3) (T := TX3) (N := 11) hx hb hts i_X3 hown hK hP 3 rfl rfl 8 (lbz rfl) (hts _ q_415) (fun _ h9 => h9) rfl aJb.2.2.2.2.2.2.2.2.1 ?_
    exact W.iret (v := bD) hx hb hr (fun t ht hW => ⟨⟨bD, (), rfl, hp, by rw [ht]; exact hP, va_K.moved hW.alike hK, hD⟩, hS.F ht⟩) hS.2.2 aJb.2.2.2.2.2.2.2.2.2.1
  by_cases hc2 : p0 = 2
  · have hp := hp.2.2.1 hc2
    refine lv_tableIn (tgt := 88) hx hb aJb.2.1 (by first | (rw [hc2]; done) | (rw [hc2]; decide)) (by first | (rw [hc2]; done) | (rw [hc2]; decide)) (by first | (rw [hc2]; done) | (rw [hc2]; rfl)) (by decide) ?_
    refine lv_aload_n hx hb aJb.2.2.2.2.2.2.2.2.2.2.1 rfl (lv_at hl 0 rfl) ?_
    refine va_get (D := (dC, dI)) (ci := 9) (v := .ref wY) (C := RX9) (T := TX9) (N := 9) hx hb hts aC3 hown hK hP 0 rfl rfl 4 (lbz rfl) (hts _ q_179) (fun _ h9 => h9) rfl aJb.2.2.2.2.2.2.2.2.2.2.2.1 ?_
    refine va_get (D := (dC, dI)) (ci := 2) (v := .int fY) (C := RX2) (T := TX2) (N := 8) hx hb hts i_X2 hown hK hP 5 rfl rfl 4 (lbz rfl) (hts _ q_497) (fun _ h9 => h9) rfl aJb.2.2.2.2.2.2.2.2.2.2.2.2.1 ?_
    exact W.iret (v := fY) hx hb hr (fun t ht hW => ⟨⟨fY, (), rfl, hp, by rw [ht]; exact hP, va_K.moved hW.alike hK, hD⟩, hS.F ht⟩) hS.2.2 aJb.2.2.2.2.2.2.2.2.2.2.2.2.2.1
  by_cases hc3 : p0 = 3
  · have hp := hp.2.2.2.1 hc3
    refine lv_tableIn (tgt := 96) hx hb aJb.2.1 (by first | (rw [hc3]; done) | (rw [hc3]; decide)) (by first | (rw [hc3]; done) | (rw [hc3]; decide)) (by first | (rw [hc3]; done) | (rw [hc3]; rfl)) (by decide) ?_
    refine lv_aload_n hx hb aJb.2.2.2.2.2.2.2.2.2.2.2.2.2.2.1 rfl (lv_at hl 0 rfl) ?_
    refine va_get (D := (dC, dI)) (ci := 9) (v := .ref wY) (C := RX9) (T := TX9) (N := 9) hx hb hts aC3 hown hK hP 0 rfl rfl 4 (lbz rfl) (hts _ q_179) (fun _ h9 => h9) rfl aJb.2.2.2.2.2.2.2.2.2.2.2.2.2.2.2 ?_
    refine va_get (D := (dC, dI)) (ci := 2) (v := .int jG) (C := RX2) (T := TX2) (N := 8) hx hb hts i_X2 hown hK hP 5 rfl rfl 6 (lbz rfl) (hts _ q_542) (fun _ h9 => h9) rfl aTl.1 ?_
    exact W.iret (v := jG) hx hb hr (fun t ht hW => ⟨⟨jG, (), rfl, hp, by rw [ht]; exact hP, va_K.moved hW.alike hK, hD⟩, hS.F ht⟩) hS.2.2 aTl.2.1
  by_cases hc4 : p0 = 4
  · have hp := hp.2.2.2.2.1 hc4
    refine lv_tableIn (tgt := 104) hx hb aJb.2.1 (by first | (rw [hc4]; done) | (rw [hc4]; decide)) (by first | (rw [hc4]; done) | (rw [hc4]; decide)) (by first | (rw [hc4]; done) | (rw [hc4]; rfl)) (by decide) ?_
    refine lv_aload_n hx hb aTl.2.2.1 rfl (lv_at hl 0 rfl) ?_
    refine va_get (D := (dC, dI)) (ci := 9) (v := .ref wY) (C := RX9) (T := TX9) (N := 9) hx hb hts aC3 hown hK hP 0 rfl rfl 4 (lbz rfl) (hts _ q_179) (fun _ h9 => h9) rfl aTl.2.2.2.1 ?_
    refine va_get (D := (dC, dI)) (ci := 2) (v := .int nU) (C := RX2) (T := TX2) (N := 8) hx hb hts i_X2 hown hK hP 5 rfl rfl 7 (lbz rfl) (hts _ q_634) (fun _ h9 => h9) rfl aTl.2.2.2.2.1 ?_
    exact W.iret (v := nU) hx hb hr (fun t ht hW => ⟨⟨nU, (), rfl, hp, by rw [ht]; exact hP, va_K.moved hW.alike hK, hD⟩, hS.F ht⟩) hS.2.2 aTl.2.2.2.2.2.1
  by_cases hc5 : p0 = 5
  · have hp := hp.2.2.2.2.2.1 hc5
    refine lv_tableIn (tgt := 112) hx hb aJb.2.1 (by first | (rw [hc5]; done) | (rw [hc5]; decide)) (by first | (rw [hc5]; done) | (rw [hc5]; decide)) (by first | (rw [hc5]; done) | (rw [hc5]; rfl)) (by decide) ?_
    refine lv_aload_n hx hb aTl.2.2.2.2.2.2.1 rfl (lv_at hl 0 rfl) ?_
    refine va_get (D := (dC, dI)) (ci := 9) (v := .ref xB) (C := RX9) (T := TX9) (N := 9) hx hb hts aC3 hown hK hP 0 rfl rfl 2 (lbz rfl) (hts _ q_146) (fun _ h9 => h9) rfl aTl.2.2.2.2.2.2.2.1 ?_
    have hm := mgk (wc := (aOf cI cC cZ cB cJ xB vI wY xO tJ jJ mY pG pD pE eO dN bD bJ aI jE eW eY dU fY gJ jG nU)) hP mk_196 8 rfl rfl rfl
    refine yW hP hD hS hA (yS mk_196) (aAi mk_196) hm.1 hm.2 (aAk _) (zW _) (zF (As := []) (rest := []) C0 hP hD hS (yS mk_196) hm.1 (aAl _) 2 0 rfl rfl (c_X0_hanging l dC dI cI cC cZ cB cJ xB vI wY xO tJ jJ mY pG pD pE eO H.size dN bD bJ aI jE eW eY dU fY gJ jG nU _ hp) q_186 q_190 q_188 q_189 q_187 h_X0_hanging rfl rfl ⟨lbz rfl, lbz rfl⟩ rfl rfl hl.1 rfl (lv_room (lbz rfl)) aTl.2.2.2.2.2.2.2.2.1 ⟨Nat.zero_le _, Nat.zero_le _⟩) (fun r_1 u H locs hp hP hD hS => ?_)
    have hPD := PDm (ws' := (wd_X9_count cI cC cZ cB cJ a_x xI xH xB vI wY xX yA xY uD uY xO tJ jJ mY pG pD pE eO wF uT wD rG qL qJ rX dN bD bJ aI pL jE eW eY dU fY gJ jG nU pR uM qB)) hP hD 8 rfl rfl rfl
    have hP := hPD.1
    have hD := hPD.2
    exact W.iret (v := r_1) hx hb hr (fun t ht hW => ⟨⟨r_1, (), rfl, hp, by rw [ht]; exact hP, va_K.moved hW.alike hK, hD⟩, hS.F ht⟩) hS.2.2 aTl.2.2.2.2.2.2.2.2.2.1
  by_cases hc6 : p0 = 6
  · have hp := hp.2.2.2.2.2.2.1 hc6
    refine lv_tableIn (tgt := 120) hx hb aJb.2.1 (by first | (rw [hc6]; done) | (rw [hc6]; decide)) (by first | (rw [hc6]; done) | (rw [hc6]; decide)) (by first | (rw [hc6]; done) | (rw [hc6]; rfl)) (by decide) ?_
    refine lv_aload_n hx hb aTl.2.2.2.2.2.2.2.2.2.2.1 rfl (lv_at hl 0 rfl) ?_
    refine va_get (D := (dC, dI)) (ci := 9) (v := .ref wY) (C := RX9) (T := TX9) (N := 9) hx hb hts aC3 hown hK hP 0 rfl rfl 4 (lbz rfl) (hts _ q_179) (fun _ h9 => h9) rfl aTl.2.2.2.2.2.2.2.2.2.2.2.1 ?_
    refine va_get (D := (dC, dI)) (ci := 2) (v := .int jE) (C := RX2) (T := TX2) (N := 8) hx hb hts i_X2 hown hK hP 5 rfl rfl 0 (lbz rfl) (hts _ q_541) (fun _ h9 => h9) rfl aTl.2.2.2.2.2.2.2.2.2.2.2.2.1 ?_
    exact W.iret (v := jE) hx hb hr (fun t ht hW => ⟨⟨jE, (), rfl, hp, by rw [ht]; exact hP, va_K.moved hW.alike hK, hD⟩, hS.F ht⟩) hS.2.2 aTl.2.2.2.2.2.2.2.2.2.2.2.2.2.1
  by_cases hc7 : p0 = 7
  · have hp := hp.2.2.2.2.2.2.2.1 hc7
    refine lv_tableIn (tgt := 128) hx hb aJb.2.1 (by first | (rw [hc7]; done) | (rw [hc7]; decide)) (by first | (rw [hc7]; done) | (rw [hc7]; decide)) (by first | (rw [hc7]; done) | (rw [hc7]; rfl)) (by decide) ?_
    refine lv_aload_n hx hb aTl.2.2.2.2.2.2.2.2.2.2.2.2.2.2.1 rfl (lv_at hl 0 rfl) ?_
    refine va_get (D := (dC, dI)) (ci := 9) (v := .ref wY) (C := RX9) (T := TX9) (N := 9) hx hb hts aC3 hown hK hP 0 rfl rfl 4 (lbz rfl) (hts _ q_179) (fun _ h9 => h9) rfl aTl.2.2.2.2.2.2.2.2.2.2.2.2.2.2.2 ?_
    refine va_get (D := (dC, dI)) (ci := 2) (v := .int eW) (C := RX2) (T := TX2) (N := 8) hx hb hts i_X2 hown hK hP 5 rfl rfl 1 (lbz rfl) (hts _ q_635) (fun _ h9 => h9) rfl aTm.1 ?_
    exact W.iret (v := eW) hx hb hr (fun t ht hW => ⟨⟨eW, (), rfl, hp, by rw [ht]; exact hP, va_K.moved hW.alike hK, hD⟩, hS.F ht⟩) hS.2.2 aTm.2.1
  by_cases hc8 : p0 = 8
  · have hp := hp.2.2.2.2.2.2.2.2.1 hc8
    refine lv_tableIn (tgt := 136) hx hb aJb.2.1 (by first | (rw [hc8]; done) | (rw [hc8]; decide)) (by first | (rw [hc8]; done) | (rw [hc8]; decide)) (by first | (rw [hc8]; done) | (rw [hc8]; rfl)) (by decide) ?_
    refine lv_aload_n hx hb aTm.2.2.1 rfl (lv_at hl 0 rfl) ?_
    refine va_get (D := (dC, dI)) (ci := 9) (v := .ref wY) (C := RX9) (T := TX9) (N := 9) hx hb hts aC3 hown hK hP 0 rfl rfl 4 (lbz rfl) (hts _ q_179) (fun _ h9 => h9) rfl aTm.2.2.2.1 ?_
    refine va_get (D := (dC, dI)) (ci := 2) (v := .int eY) (C := RX2) (T := TX2) (N := 8) hx hb hts i_X2 hown hK hP 5 rfl rfl 2 (lbz rfl) (hts _ q_636) (fun _ h9 => h9) rfl aTm.2.2.2.2.1 ?_
    exact W.iret (v := eY) hx hb hr (fun t ht hW => ⟨⟨eY, (), rfl, hp, by rw [ht]; exact hP, va_K.moved hW.alike hK, hD⟩, hS.F ht⟩) hS.2.2 aTm.2.2.2.2.2.1
  by_cases hc9 : p0 = 9
  · have hp := hp.2.2.2.2.2.2.2.2.2.1 hc9
    refine lv_tableIn (tgt := 144) hx hb aJb.2.1 (by first | (rw [hc9]; done) | (rw [hc9]; decide)) (by first | (rw [hc9]; done) | (rw [hc9]; decide)) (by first | (rw [hc9]; done) | (rw [hc9]; rfl)) (by decide) ?_
    refine lv_aload_n hx hb aTm.2.2.2.2.2.2.1 rfl (lv_at hl 0 rfl) ?_
    refine va_get (D := (dC, dI)) (ci := 9) (v := .ref wY) (C := RX9) (T := TX9) (N := 9) hx hb hts aC3 hown hK hP 0 rfl rfl 4 (lbz rfl) (hts _ q_179) (fun _ h9 => h9) rfl aTm.2.2.2.2.2.2.2.1 ?_
    refine va_get (D := (dC, dI)) (ci := 2) (v := .int dU) (C := RX2) (T := TX2) (N := 8) hx hb hts i_X2 hown hK hP 5 rfl rfl 3 (lbz rfl) (hts _ q_185) (fun _ h9 => h9) rfl aTm.2.2.2.2.2.2.2.2.1 ?_
    exact W.iret (v := dU) hx hb hr (fun t ht hW => ⟨⟨dU, (), rfl, hp, by rw [ht]; exact hP, va_K.moved hW.alike hK, hD⟩, hS.F ht⟩) hS.2.2 aTm.2.2.2.2.2.2.2.2.2.1
  by_cases hc10 : p0 = 10
  · have hp := hp.2.2.2.2.2.2.2.2.2.2.1 hc10
    refine lv_tableIn (tgt := 152) hx hb aJb.2.1 (by first | (rw [hc10]; done) | (rw [hc10]; decide)) (by first | (rw [hc10]; done) | (rw [hc10]; decide)) (by first | (rw [hc10]; done) | (rw [hc10]; rfl)) (by decide) ?_
    refine lv_aload_n hx hb aTm.2.2.2.2.2.2.2.2.2.2.1 rfl (lv_at hl 0 rfl) ?_
    refine va_get (D := (dC, dI)) (ci := 9) (v := .ref xB) (C := RX9) (T := TX9) (N := 9) hx hb hts aC3 hown hK hP 0 rfl rfl 2 (lbz rfl) (hts _ q_146) (fun _ h9 => h9) rfl aTm.2.2.2.2.2.2.2.2.2.2.2.1 ?_
    refine lv_aload_n hx hb aTm.2.2.2.2.2.2.2.2.2.2.2.2.1 rfl (lv_at hl 0 rfl) ?_
    refine va_get (D := (dC, dI)) (ci := 9) (v := .ref wY) (C := RX9) (T := TX9) (N := 9) hx hb hts aC3 hown hK hP 0 rfl rfl 4 (lbz rfl) (hts _ q_179) (fun _ h9 => h9) rfl aTm.2.2.2.2.2.2.2.2.2.2.2.2.2.1 ?_
    refine va_get (D := (dC, dI)) (ci := 2) (v := .int eW) (C := RX2) (T := TX2) (N := 8) hx hb hts i_X2 hown hK hP 5 rfl rfl 1 (lbz rfl) (hts _ q_635) (fun _ h9 => h9) rfl aTm.2.2.2.2.2.2.2.2.2.2.2.2.2.2.1 ?_
    have hm := mgk (wc := (aT8 cI cC cZ cB cJ xB vI wY xO tJ jJ mY pG pD pE eO dN bD bJ aI pL jE eW eY dU fY gJ jG nU)) hP mk_197 8 rfl rfl rfl
    refine yW hP hD hS hA (yS mk_197) (aAi mk_197) hm.1 hm.2 (aAk _) (zW _) (zF (As := [.int eW]) (rest := []) C0 hP hD hS (yS mk_197) hm.1 (aAl _) 2 0 rfl rfl (c_X0_worthOf l dC dI cI cC cZ cB cJ xB vI wY xO tJ jJ mY pG pD pE eO H.size eW dN bD bJ aI pL jE eW eY dU fY gJ jG nU _ hp) q_297 q_417 q_298 q_299 q_187 h_X0_worthOf rfl rfl ⟨lbz rfl, lbz rfl⟩ rfl rfl hl.1 rfl (lv_room (lbz rfl)) aTm.2.2.2.2.2.2.2.2.2.2.2.2.2.2.2 ⟨Nat.zero_le _, Nat.zero_le _⟩) (fun r_2 u H locs hp hP hD hS => ?_)
    have hPD := PDm (ws' := (wd_X9_count cI cC cZ cB cJ a_x xI xH xB vI wY xX yA xY uD uY xO tJ jJ mY pG pD pE eO wF uT wD rG qL qJ rX dN bD bJ aI pL jE eW eY dU fY gJ jG nU pR uM qB)) hP hD 8 rfl rfl rfl
    have hP := hPD.1
    have hD := hPD.2
    exact W.iret (v := r_2) hx hb hr (fun t ht hW => ⟨⟨r_2, (), rfl, hp, by rw [ht]; exact hP, va_K.moved hW.alike hK, hD⟩, hS.F ht⟩) hS.2.2 aVI.1
  by_cases hc11 : p0 = 11
  · have hp := hp.2.2.2.2.2.2.2.2.2.2.2.1 hc11
    refine lv_tableIn (tgt := 167) hx hb aJb.2.1 (by first | (rw [hc11]; done) | (rw [hc11]; decide)) (by first | (rw [hc11]; done) | (rw [hc11]; decide)) (by first | (rw [hc11]; done) | (rw [hc11]; rfl)) (by decide) ?_
    refine lv_aload_n hx hb aVI.2.1 rfl (lv_at hl 0 rfl) ?_
    refine va_get (D := (dC, dI)) (ci := 9) (v := .ref xX) (C := RX9) (T := TX9) (N := 9) hx hb hts aC3 hown hK hP 0 rfl rfl 5 (lbz rfl) (hts _ q_91) (fun _ h9 => h9) rfl aVI.2.2.1 ?_
    refine va_get (D := (dC, dI)) (ci := 4) (v := .int pR) (C := RX4) (T := TX4) (N := 5) hx hb hts i_X4 hown hK hP 6 rfl rfl 3 (lbz rfl) (hts _ q_406) (fun _ h9 => h9) rfl aVI.2.2.2.1 ?_
    exact W.iret (v := pR) hx hb hr (fun t ht hW => ⟨⟨pR, (), rfl, hp, by rw [ht]; exact hP, va_K.moved hW.alike hK, hD⟩, hS.F ht⟩) hS.2.2 aVI.2.2.2.2.1
  by_cases hc12 : p0 = 12
  · have hp := hp.2.2.2.2.2.2.2.2.2.2.2.2.1 hc12
    refine lv_tableIn (tgt := 175) hx hb aJb.2.1 (by first | (rw [hc12]; done) | (rw [hc12]; decide)) (by first | (rw [hc12]; done) | (rw [hc12]; decide)) (by first | (rw [hc12]; done) | (rw [hc12]; rfl)) (by decide) ?_
    refine lv_aload_n hx hb aVI.2.2.2.2.2.1 rfl (lv_at hl 0 rfl) ?_
    refine va_get (D := (dC, dI)) (ci := 9) (v := .ref yA) (C := RX9) (T := TX9) (N := 9) hx hb hts aC3 hown hK hP 0 rfl rfl 6 (lbz rfl) (hts _ q_363) (fun _ h9 => h9) rfl aVI.2.2.2.2.2.2.1 ?_
    refine va_get (D := (dC, dI)) (ci := 6) (v := .int qB) (C := RX6) (T := TX6) (N := 2) hx hb hts i_X6 hown hK hP 7 rfl rfl 1 (lbz rfl) (hts _ q_461) (fun _ h9 => h9) rfl aVI.2.2.2.2.2.2.2.1 ?_
    exact W.iret (v := qB) hx hb hr (fun t ht hW => ⟨⟨qB, (), rfl, hp, by rw [ht]; exact hP, va_K.moved hW.alike hK, hD⟩, hS.F ht⟩) hS.2.2 aVI.2.2.2.2.2.2.2.2.1
  by_cases hc13 : p0 = 13
  · have hp := hp.2.2.2.2.2.2.2.2.2.2.2.2.2.1 hc13
    refine lv_tableIn (tgt := 183) hx hb aJb.2.1 (by first | (rw [hc13]; done) | (rw [hc13]; decide)) (by first | (rw [hc13]; done) | (rw [hc13]; decide)) (by first | (rw [hc13]; done) | (rw [hc13]; rfl)) (by decide) ?_
    refine lv_aload_n hx hb aVI.2.2.2.2.2.2.2.2.2.1 rfl (lv_at hl 0 rfl) ?_
    refine va_get (D := (dC, dI)) (ci := 9) (v := .ref xI) (C := RX9) (T := TX9) (N := 9) hx hb hts aC3 hown hK hP 0 rfl rfl 0 (lbz rfl) (hts _ q_3) (fun _ h9 => h9) rfl aVI.2.2.2.2.2.2.2.2.2.2.1 ?_
    refine va_get (D := (dC, dI)) (ci := 8) (v := .int qL) (C := RX8) (T := TX8) (N := 4) hx hb hts i_X8 hown hK hP 1 rfl rfl 1 (lbz rfl) (hts _ q_73) (fun _ h9 => h9) rfl aVI.2.2.2.2.2.2.2.2.2.2.2.1 ?_
    exact W.iret (v := qL) hx hb hr (fun t ht hW => ⟨⟨qL, (), rfl, hp, by rw [ht]; exact hP, va_K.moved hW.alike hK, hD⟩, hS.F ht⟩) hS.2.2 aVI.2.2.2.2.2.2.2.2.2.2.2.2.1
  have hp := hp.2.2.2.2.2.2.2.2.2.2.2.2.2.2 hc0 hc1 hc2 hc3 hc4 hc5 hc6 hc7 hc8 hc9 hc10 hc11 hc12 hc13
  have key : W p l e rm_X9_count s m args below meth c H locs 0 0 (MQ below (q_X9_count dC dI cI cC cZ cB cJ A a_x xI xH xB vI wY xX yA xY uD uY xO tJ jJ mY pG pD pE eO wF uT wD rG qL qJ rX dN bD bJ aI pL jE eW eY dU fY gJ jG nU pR uM qB post) args s 0 0 A) (F0 m 191 ls []) := by
    refine lv_bipush (v := (-100)) hx hb aVI.2.2.2.2.2.2.2.2.2.2.2.2.2.1 bp_m100 ?_
    exact W.iret (v := (-100)) hx hb hr (fun t ht hW => ⟨⟨(-100), (), rfl, hp, by rw [ht]; exact hP, va_K.moved hW.alike hK, hD⟩, hS.F ht⟩) hS.2.2 aVI.2.2.2.2.2.2.2.2.2.2.2.2.2.2
  exact lv_tableOut (tgt := 191) hx hb aJb.2.1 (by have g0 := lv_neT (a := 0) hc0 rfl; have g1 := lv_neT (a := 1) hc1 rfl; have g2 := lv_neT (a := 2) hc2 rfl; have g3 := lv_neT (a := 3) hc3 rfl; have g4 := lv_neT (a := 4) hc4 rfl; have g5 := lv_neT (a := 5) hc5 rfl; have g6 := lv_neT (a := 6) hc6 rfl; have g7 := lv_neT (a := 7) hc7 rfl; have g8 := lv_neT (a := 8) hc8 rfl; have g9 := lv_neT (a := 9) hc9 rfl; have g10 := lv_neT (a := 10) hc10 rfl; have g11 := lv_neT (a := 11) hc11 rfl; have g12 := lv_neT (a := 12) hc12 rfl; have g13 := lv_neT (a := 13) hc13 rfl; omega) (by decide) key
abbrev wd_X9_row (cI cC cZ cB cJ : ClassId) (a_x xI xH xB vI wY xX yA xY uD rG : Nat) (qB : Int32) (jK : Nat -> Int32) : va_W := [(a_x, .inr (9, [.ref xI, .ref xH, .ref xB, .ref vI, .ref wY, .ref xX, .ref yA, .ref xY, .ref uD])), (yA, .inr (6, [.ref rG, .int qB])), (rG, .inl (cI, 16, .inl jK))]
abbrev q_X9_row (dC : Nat -> ClassId) (dI : Nat -> Nat -> Nat) (cI cC cZ cB cJ : ClassId) (A : Nat -> Prop) (a_x xI xH xB vI wY xX yA xY uD rG : Nat) (qB : Int32) (jK : Nat -> Int32) (post : Int32 -> Prop) : Array Value -> State -> Outcome -> State -> Prop := va_Qi (fun (r : Int32) (u : Unit) => post r) (fun u t => gB (dC, dI) (tyl cI cC cZ cB cJ) A (wd_X9_row cI cC cZ cB cJ a_x xI xH xB vI wY xX yA xY uD rG qB jK) t) A
abbrev rm_X9_row : Room := { frames := 6, cells := 1, slots := 6, locals := 100 }
def wp_X9_row (post : Int32 -> Prop) (postx : Prop) (p0 qB : Int32) (jK : Nat -> Int32) : Prop := (p0 < 0 -> postx) /\ (¬ p0 < 0 -> (p0 < qB -> vp_in p0 16 /\ (post (jK p0.toNatClampNeg))) /\ (¬ p0 < qB -> postx))
set_option maxHeartbeats 4000000 in
set_option maxRecDepth 100000 in
theorem c_X9_row (l : Launch) (hl9 : l.stackTraces = false) (dC : Nat -> ClassId) (dI : Nat -> Nat -> Nat) (cI cC cZ cB cJ : ClassId) (a_x xI xH xB vI wY xX yA xY uD rG sz : Nat) (p0 qB : Int32) (jK : Nat -> Int32) (post : Int32 -> Prop) (postx : Prop) (hw : wp_X9_row post postx p0 qB jK) : vx_Met l yX9_row (gw yX9_row cX9_row 2 (some .int)) rm_X9_row (va_Pc [.ref a_x, .int p0] (gPre (dC, dI) (tyl cI cC cZ cB cJ) (wd_X9_row cI cC cZ cB cJ a_x xI xH xB vI wY xX yA xY uD rG qB jK) sz)) (q_X9_row dC dI cI cC cZ cB cJ (va_A (wd_X9_row cI cC cZ cB cJ a_x xI xH xB vI wY xX yA xY uD rG qB jK) sz) a_x xI xH xB vI wY xX yA xY uD rG qB jK post) (gXC (dC, dI) (tyl cI cC cZ cB cJ) (va_A (wd_X9_row cI cC cZ cB cJ a_x xI xH xB vI wY xX yA xY uD rG qB jK) sz) (wd_X9_row cI cC cZ cB cJ a_x xI xH xB vI wY xX yA xY uD rG qB jK) postx) 1 6 (va_A (wd_X9_row cI cC cZ cB cJ a_x xI xH xB vI wY xX yA xY uD rG qB jK) sz) := by
  refine g_enterX (own := RX9) (dC, dI) (tyl cI cC cZ cB cJ) (wd_X9_row cI cC cZ cB cJ a_x xI xH xB vI wY xX yA xY uD rG qB jK) sz [.ref a_x, .int p0] (fun A => q_X9_row dC dI cI cC cZ cB cJ A a_x xI xH xB vI wY xX yA xY uD rG qB jK post) (fun A => (gXC (dC, dI) (tyl cI cC cZ cB cJ) A (wd_X9_row cI cC cZ cB cJ a_x xI xH xB vI wY xX yA xY uD rG qB jK) postx)) (by decide) rfl (lbz rfl) ?_
  intro p e s m args below meth c A H locs ls C0 htab hP hD hS hl
  have hl : lv_has ls 2 [(0, .ref a_x), (1, .int p0)] := hl
  obtain ⟨hx, hb, hr, hml, hown, hts, hlocks, hA, hK, hN, tL, tM, hZL, hTL, hZM, hTM, hZX⟩ := id C0
  have hp := hw
  unfold wp_X9_row at hp
  refine lv_iload_n hx hb eX9_row_0.1 rfl (lv_at hl 1 rfl) ?_
  refine lv_if_lt (tgt := 15) hx hb eX9_row_0.2.1 (by decide) (fun hc => ?_) (fun hc => ?_)
  · have hp := hp.1 hc
    exact g_throw C0 hl9 htab hP hD hS hl.1 eX9_row_0.2.2.2.2.2.2.2.1 eX9_row_0.2.2.2.2.2.2.2.2.1 eX9_row_0.2.2.2.2.2.2.2.2.2.1 eX9_row_0.2.2.2.2.2.2.2.2.2.2.1 (lbz rfl) (lbz rfl) (lbz rfl) (lbz rfl) hp
  · have hp := hp.2 hc
    refine lv_iload_n hx hb eX9_row_0.2.2.1 rfl (lv_at hl 1 rfl) ?_
    refine lv_aload_n hx hb eX9_row_0.2.2.2.1 rfl (lv_at hl 0 rfl) ?_
    refine va_get (D := (dC, dI)) (ci := 9) (v := .ref yA) (C := RX9) (T := TX9) (N := 9) hx hb hts aC3 hown hK hP 0 rfl rfl 6 (lbz rfl) (hts _ q_363) (fun _ h9 => h9) rfl eX9_row_0.2.2.2.2.1 ?_
    refine va_get (D := (dC, dI)) (ci := 6) (v := .int qB) (C := RX6) (T := TX6) (N := 2) hx hb hts i_X6 hown hK hP 1 rfl rfl 1 (lbz rfl) (hts _ q_461) (fun _ h9 => h9) rfl eX9_row_0.2.2.2.2.2.1 ?_
    refine lv_icmp_lt (tgt := 23) hx hb eX9_row_0.2.2.2.2.2.2.1 (by decide) (fun hc => ?_) (fun hc => ?_)
    · have hp := hp.1 hc
      refine lv_aload_n hx hb eX9_row_0.2.2.2.2.2.2.2.2.2.2.2.1 rfl (lv_at hl 0 rfl) ?_
      refine va_get (D := (dC, dI)) (ci := 9) (v := .ref yA) (C := RX9) (T := TX9) (N := 9) hx hb hts aC3 hown hK hP 0 rfl rfl 6 (lbz rfl) (hts _ q_363) (fun _ h9 => h9) rfl eX9_row_0.2.2.2.2.2.2.2.2.2.2.2.2.1 ?_
      refine va_get (D := (dC, dI)) (ci := 6) (v := .ref rG) (C := RX6) (T := TX6) (N := 2) hx hb hts i_X6 hown hK hP 1 rfl rfl 0 (lbz rfl) (hts _ q_637) (fun _ h9 => h9) rfl eX9_row_0.2.2.2.2.2.2.2.2.2.2.2.2.2.1 ?_
      refine lv_iload_n hx hb eX9_row_0.2.2.2.2.2.2.2.2.2.2.2.2.2.2.1 rfl (lv_at hl 1 rfl) ?_
      have hin := hp.1
      have hp := hp.2
      refine va_iald hx hb hK hP 2 0 rfl rfl hin eX9_row_0.2.2.2.2.2.2.2.2.2.2.2.2.2.2.2 ?_
      refine vx_ret (W.widen (k := 1) (n := 6) (Nat.zero_le _) (Nat.zero_le _) ?_)
      exact W.iret (v := jK p0.toNatClampNeg) hx hb hr (fun t ht hW => ⟨⟨jK p0.toNatClampNeg, (), rfl, hp, by rw [ht]; exact hP, va_K.moved hW.alike hK, hD⟩, hS.F ht⟩) hS.2.2 dX9_row_32
    · have hp := hp.2 hc
      exact g_throw C0 hl9 htab hP hD hS hl.1 eX9_row_0.2.2.2.2.2.2.2.1 eX9_row_0.2.2.2.2.2.2.2.2.1 eX9_row_0.2.2.2.2.2.2.2.2.2.1 eX9_row_0.2.2.2.2.2.2.2.2.2.2.1 (lbz rfl) (lbz rfl) (lbz rfl) (lbz rfl) hp
abbrev aVh (cI cC cZ cB cJ : ClassId) (a_m nY sJ eG iY lY jR jW jZ jO oQ bR aY jQ gY iJ mQ lJ jA bG mK jB mW mJ eJ dG : Nat) (bT aG jC bL bY : Int32) (jD : Nat) (mLn oF rP dQ aJ aB bW bZ aR aE bI aW bU fJ dO bM bQ bO jY oX : Int32) (qO : Nat -> Int32) : va_W := [(a_m, .inr (10, [.ref nY, .int bT, .ref sJ, .ref eG, .ref iY, .ref lY, .int aG, .ref jR, .ref jW, .ref jZ, .ref jO, .int jC, .ref oQ, .int bL, .int bY, rdv jO jQ jD, .int mLn, .int oF, .int rP, .int dQ, .ref bR, .ref aY, .int aJ, .int aB, .ref jQ, .int bW, .int bZ, .int aR, .int aE, .int bI, .int aW, .ref gY, .int bU, .ref iJ, .ref mQ, .int fJ, .ref lJ, .int dO, .ref jA, .ref bG, .int bM, .int bQ, .int bO, .ref mK, .ref jB, .ref mW, .int jY, .int oX, .ref mJ, .ref eJ, .ref dG])), (jO, .inl (cB, 80, .inl qO))]
abbrev q_X10_sign (dC : Nat -> ClassId) (dI : Nat -> Nat -> Nat) (cI cC cZ cB cJ : ClassId) (A : Nat -> Prop) (a_m nY sJ eG iY lY jR jW jZ jO oQ bR aY jQ gY iJ mQ lJ jA bG mK jB mW mJ eJ dG : Nat) (bT aG bL : Int32) (jD : Nat) (mLn oF rP dQ aJ aB bW bZ aR aE bI aW bU fJ dO bM bQ bO jY oX : Int32) (post : Int32 -> Int32 -> Int32 -> (Nat -> Int32) -> Prop) : Array Value -> State -> Outcome -> State -> Prop := va_Qi (fun (r : Int32) (u : Int32 × Int32 × (Nat -> Int32)) => post r u.1 u.2.1 u.2.2) (fun u t => gB (dC, dI) (tyl cI cC cZ cB cJ) A (aVh cI cC cZ cB cJ a_m nY sJ eG iY lY jR jW jZ jO oQ bR aY jQ gY iJ mQ lJ jA bG mK jB mW mJ eJ dG bT aG u.1 bL u.2.1 jD mLn oF rP dQ aJ aB bW bZ aR aE bI aW bU fJ dO bM bQ bO jY oX u.2.2) t) A
abbrev rm_X10_sign : Room := { frames := 0, cells := 0, slots := 0, locals := 0 }
section S_X10_sign
variable {p : Program} {l : Launch} {e : Env} {s : State} {m : MethodId} {args : Array Value} {below : List Frame} {meth : Method} {c : Code} {dC : Nat -> ClassId} {dI : Nat -> Nat -> Nat} {cI cC cZ cB cJ : ClassId} {A : Nat -> Prop} {a_m nY sJ eG iY lY jR jW jZ jO oQ bR aY jQ gY iJ mQ lJ jA bG mK jB mW mJ eJ dG : Nat} {bT aG bL : Int32} {jD : Nat} {mLn oF rP dQ aJ aB bW bZ aR aE bI aW bU fJ dO bM bQ bO jY oX : Int32} {post : Int32 -> Int32 -> Int32 -> (Nat -> Int32) -> Prop}
def ws_X10_sign_20 (post : Int32 -> Int32 -> Int32 -> (Nat -> Int32) -> Prop) (next : Int32 -> Int32 -> Int32 -> Int32 -> (Nat -> Int32) -> Prop) (x1 x2 jC bY : Int32) (qO : Nat -> Int32) : Prop := (x2 < 0 -> post jC jC bY qO) /\ (¬ x2 < 0 -> ∀ v_2 : Int32, v_2 = jC + 1 -> ∀ v_3 : Int32, v_3 = (x1 >>> ((8 * x2) &&& 31)).toInt8.toInt32 -> vp_in jC 80 /\ (∀ v_4 : Int32, v_4 = x2 + (-1) -> next x1 v_4 v_2 bY (upd qO jC.toNatClampNeg (vp_nar .byte v_3))))
noncomputable def wb_X10_sign_20 (post : Int32 -> Int32 -> Int32 -> (Nat -> Int32) -> Prop) : Nat -> Int32 -> Int32 -> Int32 -> Int32 -> (Nat -> Int32) -> Prop := fun n => Nat.rec (motive := fun _ => Int32 -> Int32 -> Int32 -> Int32 -> (Nat -> Int32) -> Prop) (fun _ _ _ _ _ => False) (fun _ ih => ws_X10_sign_20 post ih) n
set_option maxHeartbeats 4000000 in
set_option maxRecDepth 100000 in
theorem ks_X10_sign_20 (C0 : gc aJA (some .int) 3 zX (dC, dI) (tyl cI cC cZ cB cJ) A p s m args meth c) {next : Int32 -> Int32 -> Int32 -> Int32 -> (Nat -> Int32) -> Prop} (hKn : ∀ (x1 : Int32) (x2 : Int32) (jC : Int32) (bY : Int32) (qO : Nat -> Int32) (H : Heap) (locs : List Loc) (ls : Array Slot), next x1 x2 jC bY qO -> va_P (dC, dI) classes (aVh cI cC cZ cB cJ a_m nY sJ eG iY lY jR jW jZ jO oQ bR aY jQ gY iJ mQ lJ jA bG mK jB mW mJ eJ dG bT aG jC bL bY jD mLn oF rP dQ aJ aB bW bZ aR aE bI aW bU fJ dO bM bQ bO jY oX qO) H -> va_D A (aVh cI cC cZ cB cJ a_m nY sJ eG iY lY jR jW jZ jO oQ bR aY jQ gY iJ mQ lJ jA bG mK jB mW mJ eJ dG bT aG jC bL bY jD mLn oF rP dQ aJ aB bW bZ aR aE bI aW bU fJ dO bM bQ bO jY oX qO) -> va_S A s.heap H locs -> lv_has ls 3 [(0, .ref a_m), (1, .int x1), (2, .int x2)] -> W p l e rm_X10_sign s m args below meth c H locs 0 0 (MQ below (q_X10_sign dC dI cI cC cZ cB cJ A a_m nY sJ eG iY lY jR jW jZ jO oQ bR aY jQ gY iJ mQ lJ jA bG mK jB mW mJ eJ dG bT aG bL jD mLn oF rP dQ aJ aB bW bZ aR aE bI aW bU fJ dO bM bQ bO jY oX post) args s 0 0 A) (F0 m 20 ls [])) : ∀ (x1 x2 jC bY : Int32) (qO : Nat -> Int32) (H : Heap) (locs : List Loc) (ls : Array Slot), (ws_X10_sign_20 post next) x1 x2 jC bY qO -> va_P (dC, dI) classes (aVh cI cC cZ cB cJ a_m nY sJ eG iY lY jR jW jZ jO oQ bR aY jQ gY iJ mQ lJ jA bG mK jB mW mJ eJ dG bT aG jC bL bY jD mLn oF rP dQ aJ aB bW bZ aR aE bI aW bU fJ dO bM bQ bO jY oX qO) H -> va_D A (aVh cI cC cZ cB cJ a_m nY sJ eG iY lY jR jW jZ jO oQ bR aY jQ gY iJ mQ lJ jA bG mK jB mW mJ eJ dG bT aG jC bL bY jD mLn oF rP dQ aJ aB bW bZ aR aE bI aW bU fJ dO bM bQ bO jY oX qO) -> va_S A s.heap H locs -> lv_has ls 3 [(0, .ref a_m), (1, .int x1), (2, .int x2)] -> W p l e rm_X10_sign s m args below meth c H locs 0 0 (MQ below (q_X10_sign dC dI cI cC cZ cB cJ A a_m nY sJ eG iY lY jR jW jZ jO oQ bR aY jQ gY iJ mQ lJ jA bG mK jB mW mJ eJ dG bT aG bL jD mLn oF rP dQ aJ aB bW bZ aR aE bI aW bU fJ dO bM bQ bO jY oX post) args s 0 0 A) (F0 m 20 ls []) := by
  obtain ⟨hx, hb, hr, hml, hown, hts, hlocks, hA, hK, hN, tL, tM, hZL, hTL, hZM, hTM, hZX⟩ := id C0
  intro x1 x2 jC bY qO H locs ls hp hP hD hS hl
  unfold ws_X10_sign_20 at hp
  refine lv_iload_n hx hb bAN.2.2.2.2.2.2.2.2.2.2.2.2.2.1 rfl (lv_at hl 2 rfl) ?_
  refine lv_if_lt (tgt := 53) hx hb bAN.2.2.2.2.2.2.2.2.2.2.2.2.2.2.1 (by decide) (fun hc => ?_) (fun hc => ?_)
  · have hp := hp.1 hc
    refine lv_aload_n hx hb eX10_sign_50.2.1 rfl (lv_at hl 0 rfl) ?_
    refine va_get (D := (dC, dI)) (ci := 10) (v := .int jC) (C := zX) (T := aBe) (N := 51) hx hb hts aAt hown hK hP 0 rfl rfl 11 (lbz rfl) (hts _ q_639) (fun _ h9 => h9) rfl eX10_sign_50.2.2.1 ?_
    exact W.iret (v := jC) hx hb hr (fun t ht hW => ⟨⟨jC, (jC, bY, qO), rfl, hp, by rw [ht]; exact hP, va_K.moved hW.alike hK, hD⟩, hS.F ht⟩) hS.2.2 eX10_sign_50.2.2.2
  · have hp := hp.2 hc
    refine lv_aload_n hx hb bAN.2.2.2.2.2.2.2.2.2.2.2.2.2.2.2 rfl (lv_at hl 0 rfl) ?_
    refine va_get (D := (dC, dI)) (ci := 10) (v := .ref jO) (C := zX) (T := aBe) (N := 51) hx hb hts aAt hown hK hP 0 rfl rfl 10 (lbz rfl) (hts _ q_640) (fun _ h9 => h9) rfl aWU.1 ?_
    refine lv_aload_n hx hb aWU.2.1 rfl (lv_at hl 0 rfl) ?_
    refine lv_dup hx hb aWU.2.2.1 rfl ?_
    refine va_get (D := (dC, dI)) (ci := 10) (v := .int jC) (C := zX) (T := aBe) (N := 51) hx hb hts aAt hown hK hP 0 rfl rfl 11 (lbz rfl) (hts _ q_639) (fun _ h9 => h9) rfl aWU.2.2.2.1 ?_
    refine lv_dup_x1 hx hb aWU.2.2.2.2.1 rfl rfl ?_
    refine lv_iconst (v := 1) hx hb aWU.2.2.2.2.2.1 aDx ?_
    refine lv_iadd hx hb aWU.2.2.2.2.2.2.1 ?_
    refine lv_topi (fun v_2 aGO => ?_)
    have hp := hp v_2 aGO
    refine va_put (D := (dC, dI)) (ci := 10) (v := .int v_2) (ty := .int) (C := zX) (T := aBe) (N := 51) hx hb hts aAt aD2 aAa aEC hown hK hP hD hS 0 rfl rfl 11 (lbz rfl) (hts _ q_639) (fun _ h9 => h9) rfl (aAa 11 (lbz rfl)) rfl rfl (lbz rfl) aWU.2.2.2.2.2.2.2.1 (fun H locs hP hD hS => ?_)
    have hPD := PDw (ws' := (aVh cI cC cZ cB cJ a_m nY sJ eG iY lY jR jW jZ jO oQ bR aY jQ gY iJ mQ lJ jA bG mK jB mW mJ eJ dG bT aG v_2 bL bY jD mLn oF rP dQ aJ aB bW bZ aR aE bI aW bU fJ dO bM bQ bO jY oX qO)) hP hD rfl
    have hP := hPD.1
    have hD := hPD.2
    refine lv_iload_n hx hb aWU.2.2.2.2.2.2.2.2.1 rfl (lv_at hl 1 rfl) ?_
    refine lv_bipush (v := 8) hx hb aWU.2.2.2.2.2.2.2.2.2.1 bp_8 ?_
    refine lv_iload_n hx hb aWU.2.2.2.2.2.2.2.2.2.2.1 rfl (lv_at hl 2 rfl) ?_
    refine lv_imul hx hb aWU.2.2.2.2.2.2.2.2.2.2.2.1 ?_
    refine lv_ishr hx hb aWU.2.2.2.2.2.2.2.2.2.2.2.2.1 ?_
    refine lv_i2b hx hb aWU.2.2.2.2.2.2.2.2.2.2.2.2.2.1 rfl ?_
    refine lv_topi (fun v_3 aGW => ?_)
    have hp := hp v_3 aGW
    have hin := hp.1
    have hp := hp.2
    refine va_bast hx hb hK hP hD hS 1 3 rfl rfl hin aWU.2.2.2.2.2.2.2.2.2.2.2.2.2.2.1 (fun H locs hP hD hS => ?_)
    have hPD := PDw (ws' := (aVh cI cC cZ cB cJ a_m nY sJ eG iY lY jR jW jZ jO oQ bR aY jQ gY iJ mQ lJ jA bG mK jB mW mJ eJ dG bT aG v_2 bL bY jD mLn oF rP dQ aJ aB bW bZ aR aE bI aW bU fJ dO bM bQ bO jY oX (upd qO jC.toNatClampNeg (vp_nar .byte v_3)))) hP hD rfl
    have hP := hPD.1
    have hD := hPD.2
    obtain ⟨v_4, aHM⟩ : ∃ y : Int32, y = x2 + (-1) := ⟨_, rfl⟩
    refine lv_iinc (v := v_4) (lv' := [(2, .int v_4), (0, .ref a_m), (1, .int x1)]) hx hb aWU.2.2.2.2.2.2.2.2.2.2.2.2.2.2.2 hl (k := 2) rfl (by rw [aHM]; rfl) (by decide) rfl (fun ls hl => ?_)
    have hp := hp v_4 aHM
    refine lv_goto (tgt := 20) hx hb eX10_sign_50.1 (by decide) ?_
    exact hKn x1 v_4 v_2 bY (upd qO jC.toNatClampNeg (vp_nar .byte v_3)) H locs ls hp hP hD hS (lv_sub hl [1, 2, 0] rfl)
set_option maxHeartbeats 4000000 in
set_option maxRecDepth 100000 in
theorem kb_X10_sign_20 (C0 : gc aJA (some .int) 3 zX (dC, dI) (tyl cI cC cZ cB cJ) A p s m args meth c) : ∀ (n : Nat), ∀ (x1 x2 jC bY : Int32) (qO : Nat -> Int32) (H : Heap) (locs : List Loc) (ls : Array Slot), (wb_X10_sign_20 post n) x1 x2 jC bY qO -> va_P (dC, dI) classes (aVh cI cC cZ cB cJ a_m nY sJ eG iY lY jR jW jZ jO oQ bR aY jQ gY iJ mQ lJ jA bG mK jB mW mJ eJ dG bT aG jC bL bY jD mLn oF rP dQ aJ aB bW bZ aR aE bI aW bU fJ dO bM bQ bO jY oX qO) H -> va_D A (aVh cI cC cZ cB cJ a_m nY sJ eG iY lY jR jW jZ jO oQ bR aY jQ gY iJ mQ lJ jA bG mK jB mW mJ eJ dG bT aG jC bL bY jD mLn oF rP dQ aJ aB bW bZ aR aE bI aW bU fJ dO bM bQ bO jY oX qO) -> va_S A s.heap H locs -> lv_has ls 3 [(0, .ref a_m), (1, .int x1), (2, .int x2)] -> W p l e rm_X10_sign s m args below meth c H locs 0 0 (MQ below (q_X10_sign dC dI cI cC cZ cB cJ A a_m nY sJ eG iY lY jR jW jZ jO oQ bR aY jQ gY iJ mQ lJ jA bG mK jB mW mJ eJ dG bT aG bL jD mLn oF rP dQ aJ aB bW bZ aR aE bI aW bU fJ dO bM bQ bO jY oX post) args s 0 0 A) (F0 m 20 ls []) := by
  intro n
  induction n with
  | zero =>
    intro x1 x2 jC bY qO H locs ls hp
    exact False.elim hp
  | succ n ih =>
    intro x1 x2 jC bY qO H locs ls hp
    exact ks_X10_sign_20 C0 ih x1 x2 jC bY qO H locs ls hp
end S_X10_sign
def wp_X10_sign (post : Int32 -> Int32 -> Int32 -> (Nat -> Int32) -> Prop) (p0 jC bY : Int32) (qO : Nat -> Int32) : Prop := ∀ v_1 : Int32, v_1 = jC + 4 -> (v_1 <= 80 -> ∃ n : Nat, wb_X10_sign_20 post n p0 3 jC 0 qO) /\ (¬ v_1 <= 80 -> post (-1) jC 0 qO)
set_option maxHeartbeats 4000000 in
set_option maxRecDepth 100000 in
theorem c_X10_sign (l : Launch) (dC : Nat -> ClassId) (dI : Nat -> Nat -> Nat) (cI cC cZ cB cJ : ClassId) (a_m nY sJ eG iY lY jR jW jZ jO oQ bR aY jQ gY iJ mQ lJ jA bG mK jB mW mJ eJ dG sz : Nat) (p0 bT aG jC bL bY : Int32) (jD : Nat) (mLn oF rP dQ aJ aB bW bZ aR aE bI aW bU fJ dO bM bQ bO jY oX : Int32) (qO : Nat -> Int32) (post : Int32 -> Int32 -> Int32 -> (Nat -> Int32) -> Prop) (hw : wp_X10_sign post p0 jC bY qO) : Met l yX10_sign (gw yX10_sign aJA 3 (some .int)) rm_X10_sign (va_Pc [.ref a_m, .int p0] (gPre (dC, dI) (tyl cI cC cZ cB cJ) (aVh cI cC cZ cB cJ a_m nY sJ eG iY lY jR jW jZ jO oQ bR aY jQ gY iJ mQ lJ jA bG mK jB mW mJ eJ dG bT aG jC bL bY jD mLn oF rP dQ aJ aB bW bZ aR aE bI aW bU fJ dO bM bQ bO jY oX qO) sz)) (q_X10_sign dC dI cI cC cZ cB cJ (va_A (aVh cI cC cZ cB cJ a_m nY sJ eG iY lY jR jW jZ jO oQ bR aY jQ gY iJ mQ lJ jA bG mK jB mW mJ eJ dG bT aG jC bL bY jD mLn oF rP dQ aJ aB bW bZ aR aE bI aW bU fJ dO bM bQ bO jY oX qO) sz) a_m nY sJ eG iY lY jR jW jZ jO oQ bR aY jQ gY iJ mQ lJ jA bG mK jB mW mJ eJ dG bT aG bL jD mLn oF rP dQ aJ aB bW bZ aR aE bI aW bU fJ dO bM bQ bO jY oX post) 0 0 (va_A (aVh cI cC cZ cB cJ a_m nY sJ eG iY lY jR jW jZ jO oQ bR aY jQ gY iJ mQ lJ jA bG mK jB mW mJ eJ dG bT aG jC bL bY jD mLn oF rP dQ aJ aB bW bZ aR aE bI aW bU fJ dO bM bQ bO jY oX qO) sz) := by
  refine aBJ (own := zX) (dC, dI) (tyl cI cC cZ cB cJ) (aVh cI cC cZ cB cJ a_m nY sJ eG iY lY jR jW jZ jO oQ bR aY jQ gY iJ mQ lJ jA bG mK jB mW mJ eJ dG bT aG jC bL bY jD mLn oF rP dQ aJ aB bW bZ aR aE bI aW bU fJ dO bM bQ bO jY oX qO) sz [.ref a_m, .int p0] (fun A => q_X10_sign dC dI cI cC cZ cB cJ A a_m nY sJ eG iY lY jR jW jZ jO oQ bR aY jQ gY iJ mQ lJ jA bG mK jB mW mJ eJ dG bT aG bL jD mLn oF rP dQ aJ aB bW bZ aR aE bI aW bU fJ dO bM bQ bO jY oX post) aFY rfl (lbz rfl) ?_
  intro p e s m args below meth c A H locs ls C0 hP hD hS hl
  have hl : lv_has ls 3 [(0, .ref a_m), (1, .int p0)] := hl
  obtain ⟨hx, hb, hr, hml, hown, hts, hlocks, hA, hK, hN, tL, tM, hZL, hTL, hZM, hTM, hZX⟩ := id C0
  have hp := hw
  unfold wp_X10_sign at hp
  refine lv_aload_n hx hb bAN.1 rfl (lv_at hl 0 rfl) ?_
  refine lv_iconst (v := 0) hx hb bAN.2.1 aCi ?_
  refine va_put (D := (dC, dI)) (ci := 10) (v := .int 0) (ty := .int) (C := zX) (T := aBe) (N := 51) hx hb hts aAt aD2 aAa aEC hown hK hP hD hS 0 rfl rfl 14 (lbz rfl) (hts _ q_638) (fun _ h9 => h9) rfl (aAa 14 (lbz rfl)) rfl rfl (lbz rfl) bAN.2.2.1 (fun H locs hP hD hS => ?_)
  have hPD := PDw (ws' := (aVh cI cC cZ cB cJ a_m nY sJ eG iY lY jR jW jZ jO oQ bR aY jQ gY iJ mQ lJ jA bG mK jB mW mJ eJ dG bT aG jC bL 0 jD mLn oF rP dQ aJ aB bW bZ aR aE bI aW bU fJ dO bM bQ bO jY oX qO)) hP hD rfl
  have hP := hPD.1
  have hD := hPD.2
  refine lv_aload_n hx hb bAN.2.2.2.1 rfl (lv_at hl 0 rfl) ?_
  refine va_get (D := (dC, dI)) (ci := 10) (v := .int jC) (C := zX) (T := aBe) (N := 51) hx hb hts aAt hown hK hP 0 rfl rfl 11 (lbz rfl) (hts _ q_639) (fun _ h9 => h9) rfl bAN.2.2.2.2.1 ?_
  refine lv_iconst (v := 4) hx hb bAN.2.2.2.2.2.1 ic_4 ?_
  refine lv_iadd hx hb bAN.2.2.2.2.2.2.1 ?_
  refine lv_topi (fun v_1 aFJ => ?_)
  have hp := hp v_1 aFJ
  refine lv_bipush (v := 80) hx hb bAN.2.2.2.2.2.2.2.1 bp_80 ?_
  refine lv_icmp_le (tgt := 18) hx hb bAN.2.2.2.2.2.2.2.2.1 (by decide) (fun hc => ?_) (fun hc => ?_)
  · have hp := hp.1 hc
    refine lv_iconst (v := 3) hx hb bAN.2.2.2.2.2.2.2.2.2.2.2.1 ic_3 ?_
    refine lv_istore_n (lv' := [(2, .int 3), (0, .ref a_m), (1, .int p0)]) hx hb bAN.2.2.2.2.2.2.2.2.2.2.2.2.1 rfl hl (by decide) rfl (fun ls hl => ?_)
    obtain ⟨n9, hp⟩ := hp
    exact kb_X10_sign_20 C0 n9 p0 3 jC 0 qO H locs ls hp hP hD hS (lv_sub hl [1, 2, 0] rfl)
  · have hp := hp.2 hc
    refine lv_iconst (v := (-1)) hx hb bAN.2.2.2.2.2.2.2.2.2.1 aEJ ?_
    exact W.iret (v := (-1)) hx hb hr (fun t ht hW => ⟨⟨(-1), (jC, 0, qO), rfl, hp, by rw [ht]; exact hP, va_K.moved hW.alike hK, hD⟩, hS.F ht⟩) hS.2.2 bAN.2.2.2.2.2.2.2.2.2.2.1
abbrev aKW (cI cC cZ cB cJ : ClassId) : va_W := []
abbrev q_X10_in (dC : Nat -> ClassId) (dI : Nat -> Nat -> Nat) (cI cC cZ cB cJ : ClassId) (A : Nat -> Prop) (post : Int32 -> Prop) : Array Value -> State -> Outcome -> State -> Prop := va_Qi (fun (r : Int32) (u : Unit) => post r) (fun u t => gB (dC, dI) (tyl cI cC cZ cB cJ) A (aKW cI cC cZ cB cJ) t) A
abbrev rm_X10_in : Room := { frames := 0, cells := 0, slots := 0, locals := 0 }
def aJY (post : Int32 -> Prop) (p0 p1 p2 : Int32) : Prop := (p0 < p1 -> post 0) /\ (¬ p0 < p1 -> (p2 < p0 -> post 0) /\ (¬ p2 < p0 -> post 1))
set_option maxHeartbeats 4000000 in
set_option maxRecDepth 100000 in
theorem aRu (l : Launch) (dC : Nat -> ClassId) (dI : Nat -> Nat -> Nat) (cI cC cZ cB cJ : ClassId) (sz : Nat) (p0 p1 p2 : Int32) (post : Int32 -> Prop) (hw : aJY post p0 p1 p2) : Met l yX10_in (gw yX10_in cX10_in 3 (some .boolean)) rm_X10_in (va_Pc [.int p0, .int p1, .int p2] (gPre (dC, dI) (tyl cI cC cZ cB cJ) (aKW cI cC cZ cB cJ) sz)) (q_X10_in dC dI cI cC cZ cB cJ (va_A (aKW cI cC cZ cB cJ) sz) post) 0 0 (va_A (aKW cI cC cZ cB cJ) sz) := by
  refine aBJ (own := zX) (dC, dI) (tyl cI cC cZ cB cJ) (aKW cI cC cZ cB cJ) sz [.int p0, .int p1, .int p2] (fun A => q_X10_in dC dI cI cC cZ cB cJ A post) aFY rfl (lbz rfl) ?_
  intro p e s m args below meth c A H locs ls C0 hP hD hS hl
  have hl : lv_has ls 3 [(0, .int p0), (1, .int p1), (2, .int p2)] := hl
  obtain ⟨hx, hb, hr, hml, hown, hts, hlocks, hA, hK, hN, tL, tM, hZL, hTL, hZM, hTM, hZX⟩ := id C0
  have hp := hw
  unfold aJY at hp
  refine lv_iload_n hx hb eX10_in_0.1 rfl (lv_at hl 0 rfl) ?_
  refine lv_iload_n hx hb eX10_in_0.2.1 rfl (lv_at hl 1 rfl) ?_
  refine lv_icmp_lt (tgt := 14) hx hb eX10_in_0.2.2.1 (by decide) (fun hc => ?_) (fun hc => ?_)
  · have hp := hp.1 hc
    refine lv_iconst (v := 0) hx hb eX10_in_0.2.2.2.2.2.2.2.2.1 aCi ?_
    exact W.zret (v := 0) hx hb hr rfl (fun t ht hW => ⟨⟨0, (), rfl, hp, by rw [ht]; exact hP, va_K.moved hW.alike hK, hD⟩, hS.F ht⟩) hS.2.2 eX10_in_0.2.2.2.2.2.2.2.2.2
  · have hp := hp.2 hc
    refine lv_iload_n hx hb eX10_in_0.2.2.2.1 rfl (lv_at hl 0 rfl) ?_
    refine lv_iload_n hx hb eX10_in_0.2.2.2.2.1 rfl (lv_at hl 2 rfl) ?_
    refine lv_icmp_gt (tgt := 14) hx hb eX10_in_0.2.2.2.2.2.1 (by decide) (fun hc => ?_) (fun hc => ?_)
    · have hp := hp.1 hc
      refine lv_iconst (v := 0) hx hb eX10_in_0.2.2.2.2.2.2.2.2.1 aCi ?_
      exact W.zret (v := 0) hx hb hr rfl (fun t ht hW => ⟨⟨0, (), rfl, hp, by rw [ht]; exact hP, va_K.moved hW.alike hK, hD⟩, hS.F ht⟩) hS.2.2 eX10_in_0.2.2.2.2.2.2.2.2.2
    · have hp := hp.2 hc
      refine lv_iconst (v := 1) hx hb eX10_in_0.2.2.2.2.2.2.1 aDx ?_
      refine lv_goto (tgt := 15) hx hb eX10_in_0.2.2.2.2.2.2.2.1 (by decide) ?_
      exact W.zret (v := 1) hx hb hr rfl (fun t ht hW => ⟨⟨1, (), rfl, hp, by rw [ht]; exact hP, va_K.moved hW.alike hK, hD⟩, hS.F ht⟩) hS.2.2 eX10_in_0.2.2.2.2.2.2.2.2.2
abbrev wd_X10_end (cI cC cZ cB cJ : ClassId) (a_m nY sJ eG iY lY jR jW jZ jO oQ bR aY jQ gY iJ mQ lJ jA bG mK jB mW mJ eJ dG : Nat) (bT aG jC bL bY : Int32) (jD : Nat) (mLn oF rP dQ aJ aB bW bZ aR aE bI aW bU fJ dO bM bQ bO jY oX : Int32) : va_W := [(a_m, .inr (10, [.ref nY, .int bT, .ref sJ, .ref eG, .ref iY, .ref lY, .int aG, .ref jR, .ref jW, .ref jZ, .ref jO, .int jC, .ref oQ, .int bL, .int bY, rdv jO jQ jD, .int mLn, .int oF, .int rP, .int dQ, .ref bR, .ref aY, .int aJ, .int aB, .ref jQ, .int bW, .int bZ, .int aR, .int aE, .int bI, .int aW, .ref gY, .int bU, .ref iJ, .ref mQ, .int fJ, .ref lJ, .int dO, .ref jA, .ref bG, .int bM, .int bQ, .int bO, .ref mK, .ref jB, .ref mW, .int jY, .int oX, .ref mJ, .ref eJ, .ref dG]))]
abbrev q_X10_end (dC : Nat -> ClassId) (dI : Nat -> Nat -> Nat) (cI cC cZ cB cJ : ClassId) (A : Nat -> Prop) (a_m nY sJ eG iY lY jR jW jZ jO oQ bR aY jQ gY iJ mQ lJ jA bG mK jB mW mJ eJ dG : Nat) (bT aG bL : Int32) (jD : Nat) (mLn oF rP dQ aJ aB bW bZ aR aE bI aW bU fJ dO bM bQ bO jY oX : Int32) (post : Int32 -> Int32 -> Int32 -> Prop) : Array Value -> State -> Outcome -> State -> Prop := va_Qi (fun (r : Int32) (u : Int32 × Int32) => post r u.1 u.2) (fun u t => gB (dC, dI) (tyl cI cC cZ cB cJ) A (wd_X10_end cI cC cZ cB cJ a_m nY sJ eG iY lY jR jW jZ jO oQ bR aY jQ gY iJ mQ lJ jA bG mK jB mW mJ eJ dG bT aG u.1 bL u.2 jD mLn oF rP dQ aJ aB bW bZ aR aE bI aW bU fJ dO bM bQ bO jY oX) t) A
abbrev rm_X10_end : Room := { frames := 1, cells := 0, slots := 0, locals := 22 }
def wp_X10_end (post : Int32 -> Int32 -> Int32 -> Prop) (p0 jC bY : Int32) : Prop := aJY (fun r_1 => (¬ r_1 = 0 -> post 1 p0 0) /\ (r_1 = 0 -> post 0 jC 0)) p0 0 jC
set_option maxHeartbeats 4000000 in
set_option maxRecDepth 100000 in
theorem c_X10_end (l : Launch) (dC : Nat -> ClassId) (dI : Nat -> Nat -> Nat) (cI cC cZ cB cJ : ClassId) (a_m nY sJ eG iY lY jR jW jZ jO oQ bR aY jQ gY iJ mQ lJ jA bG mK jB mW mJ eJ dG sz : Nat) (p0 bT aG jC bL bY : Int32) (jD : Nat) (mLn oF rP dQ aJ aB bW bZ aR aE bI aW bU fJ dO bM bQ bO jY oX : Int32) (post : Int32 -> Int32 -> Int32 -> Prop) (hw : wp_X10_end post p0 jC bY) : Met l yX10_end (gw yX10_end cX10_end 2 (some .boolean)) rm_X10_end (va_Pc [.ref a_m, .int p0] (gPre (dC, dI) (tyl cI cC cZ cB cJ) (wd_X10_end cI cC cZ cB cJ a_m nY sJ eG iY lY jR jW jZ jO oQ bR aY jQ gY iJ mQ lJ jA bG mK jB mW mJ eJ dG bT aG jC bL bY jD mLn oF rP dQ aJ aB bW bZ aR aE bI aW bU fJ dO bM bQ bO jY oX) sz)) (q_X10_end dC dI cI cC cZ cB cJ (va_A (wd_X10_end cI cC cZ cB cJ a_m nY sJ eG iY lY jR jW jZ jO oQ bR aY jQ gY iJ mQ lJ jA bG mK jB mW mJ eJ dG bT aG jC bL bY jD mLn oF rP dQ aJ aB bW bZ aR aE bI aW bU fJ dO bM bQ bO jY oX) sz) a_m nY sJ eG iY lY jR jW jZ jO oQ bR aY jQ gY iJ mQ lJ jA bG mK jB mW mJ eJ dG bT aG bL jD mLn oF rP dQ aJ aB bW bZ aR aE bI aW bU fJ dO bM bQ bO jY oX post) 0 0 (va_A (wd_X10_end cI cC cZ cB cJ a_m nY sJ eG iY lY jR jW jZ jO oQ bR aY jQ gY iJ mQ lJ jA bG mK jB mW mJ eJ dG bT aG jC bL bY jD mLn oF rP dQ aJ aB bW bZ aR aE bI aW bU fJ dO bM bQ bO jY oX) sz) := by
  refine aBJ (own := zX) (dC, dI) (tyl cI cC cZ cB cJ) (wd_X10_end cI cC cZ cB cJ a_m nY sJ eG iY lY jR jW jZ jO oQ bR aY jQ gY iJ mQ lJ jA bG mK jB mW mJ eJ dG bT aG jC bL bY jD mLn oF rP dQ aJ aB bW bZ aR aE bI aW bU fJ dO bM bQ bO jY oX) sz [.ref a_m, .int p0] (fun A => q_X10_end dC dI cI cC cZ cB cJ A a_m nY sJ eG iY lY jR jW jZ jO oQ bR aY jQ gY iJ mQ lJ jA bG mK jB mW mJ eJ dG bT aG bL jD mLn oF rP dQ aJ aB bW bZ aR aE bI aW bU fJ dO bM bQ bO jY oX post) aFY rfl (lbz rfl) ?_
  intro p e s m args below meth c A H locs ls C0 hP hD hS hl
  have hl : lv_has ls 2 [(0, .ref a_m), (1, .int p0)] := hl
  obtain ⟨hx, hb, hr, hml, hown, hts, hlocks, hA, hK, hN, tL, tM, hZL, hTL, hZM, hTM, hZX⟩ := id C0
  have hp := hw
  unfold wp_X10_end at hp
  refine lv_aload_n hx hb eX10_end_0.1 rfl (lv_at hl 0 rfl) ?_
  refine lv_iconst (v := 0) hx hb eX10_end_0.2.1 aCi ?_
  refine va_put (D := (dC, dI)) (ci := 10) (v := .int 0) (ty := .int) (C := zX) (T := aBe) (N := 51) hx hb hts aAt aD2 aAa aEC hown hK hP hD hS 0 rfl rfl 14 (lbz rfl) (hts _ q_638) (fun _ h9 => h9) rfl (aAa 14 (lbz rfl)) rfl rfl (lbz rfl) eX10_end_0.2.2.1 (fun H locs hP hD hS => ?_)
  have hPD := PDw (ws' := (wd_X10_end cI cC cZ cB cJ a_m nY sJ eG iY lY jR jW jZ jO oQ bR aY jQ gY iJ mQ lJ jA bG mK jB mW mJ eJ dG bT aG jC bL 0 jD mLn oF rP dQ aJ aB bW bZ aR aE bI aW bU fJ dO bM bQ bO jY oX)) hP hD rfl
  have hP := hPD.1
  have hD := hPD.2
  refine lv_iload_n hx hb eX10_end_0.2.2.2.1 rfl (lv_at hl 1 rfl) ?_
  refine lv_iconst (v := 0) hx hb eX10_end_0.2.2.2.2.1 aCi ?_
  refine lv_aload_n hx hb eX10_end_0.2.2.2.2.2.1 rfl (lv_at hl 0 rfl) ?_
  refine va_get (D := (dC, dI)) (ci := 10) (v := .int jC) (C := zX) (T := aBe) (N := 51) hx hb hts aAt hown hK hP 0 rfl rfl 11 (lbz rfl) (hts _ q_639) (fun _ h9 => h9) rfl eX10_end_0.2.2.2.2.2.2.1 ?_
  refine yW (wc := (aKW cI cC cZ cB cJ)) hP hD hS hA [] [0] rfl rfl rfl rfl (aDn (As := [.int p0, .int 0, .int jC]) (rest := []) C0 hP hD hS [] rfl rfl (aRu l dC dI cI cC cZ cB cJ H.size p0 0 jC _ hp) q_641 q_644 q_643 aBL aRx rfl rfl ⟨lbz rfl, lbz rfl⟩ rfl rfl hl.1 rfl (lv_room (lbz rfl)) eX10_end_0.2.2.2.2.2.2.2.1 ⟨Nat.zero_le _, Nat.zero_le _⟩) (fun r_1 u H locs hp hP hD hS => ?_)
  have hPD := PDs (ws' := (wd_X10_end cI cC cZ cB cJ a_m nY sJ eG iY lY jR jW jZ jO oQ bR aY jQ gY iJ mQ lJ jA bG mK jB mW mJ eJ dG bT aG jC bL 0 jD mLn oF rP dQ aJ aB bW bZ aR aE bI aW bU fJ dO bM bQ bO jY oX)) hP hD [0] (by decide) rfl
  have hP := hPD.1
  have hD := hPD.2
  refine lv_if_ne (tgt := 19) hx hb eX10_end_0.2.2.2.2.2.2.2.2.1 (by decide) (fun hc => ?_) (fun hc => ?_)
  · have hp := hp.1 hc
    refine lv_aload_n hx hb eX10_end_0.2.2.2.2.2.2.2.2.2.2.2.1 rfl (lv_at hl 0 rfl) ?_
    refine lv_iload_n hx hb eX10_end_0.2.2.2.2.2.2.2.2.2.2.2.2.1 rfl (lv_at hl 1 rfl) ?_
    refine va_put (D := (dC, dI)) (ci := 10) (v := .int p0) (ty := .int) (C := zX) (T := aBe) (N := 51) hx hb hts aAt aD2 aAa aEC hown hK hP hD hS 0 rfl rfl 11 (lbz rfl) (hts _ q_639) (fun _ h9 => h9) rfl (aAa 11 (lbz rfl)) rfl rfl (lbz rfl) eX10_end_0.2.2.2.2.2.2.2.2.2.2.2.2.2.1 (fun H locs hP hD hS => ?_)
    have hPD := PDw (ws' := (wd_X10_end cI cC cZ cB cJ a_m nY sJ eG iY lY jR jW jZ jO oQ bR aY jQ gY iJ mQ lJ jA bG mK jB mW mJ eJ dG bT aG p0 bL 0 jD mLn oF rP dQ aJ aB bW bZ aR aE bI aW bU fJ dO bM bQ bO jY oX)) hP hD rfl
    have hP := hPD.1
    have hD := hPD.2
    refine lv_iconst (v := 1) hx hb eX10_end_0.2.2.2.2.2.2.2.2.2.2.2.2.2.2.1 aDx ?_
    exact W.zret (v := 1) hx hb hr rfl (fun t ht hW => ⟨⟨1, (p0, 0), rfl, hp, by rw [ht]; exact hP, va_K.moved hW.alike hK, hD⟩, hS.F ht⟩) hS.2.2 eX10_end_0.2.2.2.2.2.2.2.2.2.2.2.2.2.2.2
  · have hp := hp.2 hc
    refine lv_iconst (v := 0) hx hb eX10_end_0.2.2.2.2.2.2.2.2.2.1 aCi ?_
    exact W.zret (v := 0) hx hb hr rfl (fun t ht hW => ⟨⟨0, (jC, 0), rfl, hp, by rw [ht]; exact hP, va_K.moved hW.alike hK, hD⟩, hS.F ht⟩) hS.2.2 eX10_end_0.2.2.2.2.2.2.2.2.2.2.1
abbrev aRM (cI cC cZ cB cJ : ClassId) (a_m nY sJ eG iY lY jR jW jZ jO oQ bR aY jQ gY iJ mQ lJ jA bG mK jB mW mJ eJ dG : Nat) (bT aG jC bL bY : Int32) (jD : Nat) (mLn oF rP dQ aJ aB bW bZ aR aE bI aW bU fJ dO bM bQ bO jY oX : Int32) : va_W := [(a_m, .inr (10, [.ref nY, .int bT, .ref sJ, .ref eG, .ref iY, .ref lY, .int aG, .ref jR, .ref jW, .ref jZ, .ref jO, .int jC, .ref oQ, .int bL, .int bY, rdv jO jQ jD, .int mLn, .int oF, .int rP, .int dQ, .ref bR, .ref aY, .int aJ, .int aB, .ref jQ, .int bW, .int bZ, .int aR, .int aE, .int bI, .int aW, .ref gY, .int bU, .ref iJ, .ref mQ, .int fJ, .ref lJ, .int dO, .ref jA, .ref bG, .int bM, .int bQ, .int bO, .ref mK, .ref jB, .ref mW, .int jY, .int oX, .ref mJ, .ref eJ, .ref dG]))]
abbrev q_X10_begin (dC : Nat -> ClassId) (dI : Nat -> Nat -> Nat) (cI cC cZ cB cJ : ClassId) (A : Nat -> Prop) (a_m nY sJ eG iY lY jR jW jZ jO oQ bR aY jQ gY iJ mQ lJ jA bG mK jB mW mJ eJ dG : Nat) (bT aG jC bL bY aJ aB bW bZ aR aE bI aW bU fJ dO bM bQ bO jY oX : Int32) (post : Nat -> Int32 -> Int32 -> Int32 -> Int32 -> Prop) : Array Value -> State -> Outcome -> State -> Prop := va_Qv (fun (u : Nat × Int32 × Int32 × Int32 × Int32) => post u.1 u.2.1 u.2.2.1 u.2.2.2.1 u.2.2.2.2) (fun u t => gB (dC, dI) (tyl cI cC cZ cB cJ) A (aRM cI cC cZ cB cJ a_m nY sJ eG iY lY jR jW jZ jO oQ bR aY jQ gY iJ mQ lJ jA bG mK jB mW mJ eJ dG bT aG jC bL bY u.1 u.2.1 u.2.2.1 u.2.2.2.1 u.2.2.2.2 aJ aB bW bZ aR aE bI aW bU fJ dO bM bQ bO jY oX) t) A
abbrev rm_X10_begin : Room := { frames := 0, cells := 0, slots := 0, locals := 0 }
def wp_X10_begin (post : Nat -> Int32 -> Int32 -> Int32 -> Int32 -> Prop) (p1 p2 : Int32) (jD : Nat) (mLn oF rP dQ : Int32) : Prop := post 1 p1 p2 0 (-1)
set_option maxHeartbeats 4000000 in
set_option maxRecDepth 100000 in
theorem c_X10_begin (l : Launch) (dC : Nat -> ClassId) (dI : Nat -> Nat -> Nat) (cI cC cZ cB cJ : ClassId) (a_m nY sJ eG iY lY jR jW jZ jO oQ bR aY jQ gY iJ mQ lJ jA bG mK jB mW mJ eJ dG sz : Nat) (p1 p2 bT aG jC bL bY : Int32) (jD : Nat) (mLn oF rP dQ aJ aB bW bZ aR aE bI aW bU fJ dO bM bQ bO jY oX : Int32) (post : Nat -> Int32 -> Int32 -> Int32 -> Int32 -> Prop) (hw : wp_X10_begin post p1 p2 jD mLn oF rP dQ) : Met l yX10_begin (gw yX10_begin aYS 4 none) rm_X10_begin (va_Pc [.ref a_m, .ref jO, .int p1, .int p2] (gPre (dC, dI) (tyl cI cC cZ cB cJ) (aRM cI cC cZ cB cJ a_m nY sJ eG iY lY jR jW jZ jO oQ bR aY jQ gY iJ mQ lJ jA bG mK jB mW mJ eJ dG bT aG jC bL bY jD mLn oF rP dQ aJ aB bW bZ aR aE bI aW bU fJ dO bM bQ bO jY oX) sz)) (q_X10_begin dC dI cI cC cZ cB cJ (va_A (aRM cI cC cZ cB cJ a_m nY sJ eG iY lY jR jW jZ jO oQ bR aY jQ gY iJ mQ lJ jA bG mK jB mW mJ eJ dG bT aG jC bL bY jD mLn oF rP dQ aJ aB bW bZ aR aE bI aW bU fJ dO bM bQ bO jY oX) sz) a_m nY sJ eG iY lY jR jW jZ jO oQ bR aY jQ gY iJ mQ lJ jA bG mK jB mW mJ eJ dG bT aG jC bL bY aJ aB bW bZ aR aE bI aW bU fJ dO bM bQ bO jY oX post) 0 0 (va_A (aRM cI cC cZ cB cJ a_m nY sJ eG iY lY jR jW jZ jO oQ bR aY jQ gY iJ mQ lJ jA bG mK jB mW mJ eJ dG bT aG jC bL bY jD mLn oF rP dQ aJ aB bW bZ aR aE bI aW bU fJ dO bM bQ bO jY oX) sz) := by
  refine aBJ (own := zX) (dC, dI) (tyl cI cC cZ cB cJ) (aRM cI cC cZ cB cJ a_m nY sJ eG iY lY jR jW jZ jO oQ bR aY jQ gY iJ mQ lJ jA bG mK jB mW mJ eJ dG bT aG jC bL bY jD mLn oF rP dQ aJ aB bW bZ aR aE bI aW bU fJ dO bM bQ bO jY oX) sz [.ref a_m, .ref jO, .int p1, .int p2] (fun A => q_X10_begin dC dI cI cC cZ cB cJ A a_m nY sJ eG iY lY jR jW jZ jO oQ bR aY jQ gY iJ mQ lJ jA bG mK jB mW mJ eJ dG bT aG jC bL bY aJ aB bW bZ aR aE bI aW bU fJ dO bM bQ bO jY oX post) aFY rfl (lbz rfl) ?_
  intro p e s m args below meth c A H locs ls C0 hP hD hS hl
  have hl : lv_has ls 4 [(0, .ref a_m), (1, .ref jO), (2, .int p1), (3, .int p2)] := hl
  obtain ⟨hx, hb, hr, hml, hown, hts, hlocks, hA, hK, hN, tL, tM, hZL, hTL, hZM, hTM, hZX⟩ := id C0
  have hp := hw
  unfold wp_X10_begin at hp
  refine lv_aload_n hx hb aHX.1 rfl (lv_at hl 0 rfl) ?_
  refine lv_aload_n hx hb aHX.2.1 rfl (lv_at hl 1 rfl) ?_
  refine va_put (D := (dC, dI)) (ci := 10) (v := .ref jO) (ty := .array .byte) (C := zX) (T := aBe) (N := 51) hx hb hts aAt aD2 aAa aEC hown hK hP hD hS 0 rfl rfl 15 (lbz rfl) (hts _ q_645) (fun _ h9 => h9) rfl (aAa 15 (lbz rfl)) rfl rfl (lbz rfl) aHX.2.2.1 (fun H locs hP hD hS => ?_)
  have hPD := PDw (ws' := (aRM cI cC cZ cB cJ a_m nY sJ eG iY lY jR jW jZ jO oQ bR aY jQ gY iJ mQ lJ jA bG mK jB mW mJ eJ dG bT aG jC bL bY 1 mLn oF rP dQ aJ aB bW bZ aR aE bI aW bU fJ dO bM bQ bO jY oX)) hP hD rfl
  have hP := hPD.1
  have hD := hPD.2
  refine lv_aload_n hx hb aHX.2.2.2.1 rfl (lv_at hl 0 rfl) ?_
  refine lv_iload_n hx hb aHX.2.2.2.2.1 rfl (lv_at hl 2 rfl) ?_
  refine va_put (D := (dC, dI)) (ci := 10) (v := .int p1) (ty := .int) (C := zX) (T := aBe) (N := 51) hx hb hts aAt aD2 aAa aEC hown hK hP hD hS 0 rfl rfl 16 (lbz rfl) (hts _ q_646) (fun _ h9 => h9) rfl (aAa 16 (lbz rfl)) rfl rfl (lbz rfl) aHX.2.2.2.2.2.1 (fun H locs hP hD hS => ?_)
  have hPD := PDw (ws' := (aRM cI cC cZ cB cJ a_m nY sJ eG iY lY jR jW jZ jO oQ bR aY jQ gY iJ mQ lJ jA bG mK jB mW mJ eJ dG bT aG jC bL bY 1 p1 oF rP dQ aJ aB bW bZ aR aE bI aW bU fJ dO bM bQ bO jY oX)) hP hD rfl
  have hP := hPD.1
  have hD := hPD.2
  refine lv_aload_n hx hb aHX.2.2.2.2.2.2.1 rfl (lv_at hl 0 rfl) ?_
  refine lv_iload_n hx hb aHX.2.2.2.2.2.2.2.1 rfl (lv_at hl 3 rfl) ?_
  refine va_put (D := (dC, dI)) (ci := 10) (v := .int p2) (ty := .int) (C := zX) (T := aBe) (N := 51) hx hb hts aAt aD2 aAa aEC hown hK hP hD hS 0 rfl rfl 17 (lbz rfl) (hts _ q_647) (fun _ h9 => h9) rfl (aAa 17 (lbz rfl)) rfl rfl (lbz rfl) aHX.2.2.2.2.2.2.2.2.1 (fun H locs hP hD hS => ?_)
  have hPD := PDw (ws' := (aRM cI cC cZ cB cJ a_m nY sJ eG iY lY jR jW jZ jO oQ bR aY jQ gY iJ mQ lJ jA bG mK jB mW mJ eJ dG bT aG jC bL bY 1 p1 p2 rP dQ aJ aB bW bZ aR aE bI aW bU fJ dO bM bQ bO jY oX)) hP hD rfl
  have hP := hPD.1
  have hD := hPD.2
  refine lv_aload_n hx hb aHX.2.2.2.2.2.2.2.2.2.1 rfl (lv_at hl 0 rfl) ?_
  refine lv_iconst (v := 0) hx hb aHX.2.2.2.2.2.2.2.2.2.2.1 aCi ?_
  refine va_put (D := (dC, dI)) (ci := 10) (v := .int 0) (ty := .int) (C := zX) (T := aBe) (N := 51) hx hb hts aAt aD2 aAa aEC hown hK hP hD hS 0 rfl rfl 18 (lbz rfl) (hts _ q_648) (fun _ h9 => h9) rfl (aAa 18 (lbz rfl)) rfl rfl (lbz rfl) aHX.2.2.2.2.2.2.2.2.2.2.2.1 (fun H locs hP hD hS => ?_)
  have hPD := PDw (ws' := (aRM cI cC cZ cB cJ a_m nY sJ eG iY lY jR jW jZ jO oQ bR aY jQ gY iJ mQ lJ jA bG mK jB mW mJ eJ dG bT aG jC bL bY 1 p1 p2 0 dQ aJ aB bW bZ aR aE bI aW bU fJ dO bM bQ bO jY oX)) hP hD rfl
  have hP := hPD.1
  have hD := hPD.2
  refine lv_aload_n hx hb aHX.2.2.2.2.2.2.2.2.2.2.2.2.1 rfl (lv_at hl 0 rfl) ?_
  refine lv_iconst (v := (-1)) hx hb aHX.2.2.2.2.2.2.2.2.2.2.2.2.2.1 aEJ ?_
  refine va_put (D := (dC, dI)) (ci := 10) (v := .int (-1)) (ty := .int) (C := zX) (T := aBe) (N := 51) hx hb hts aAt aD2 aAa aEC hown hK hP hD hS 0 rfl rfl 19 (lbz rfl) (hts _ q_649) (fun _ h9 => h9) rfl (aAa 19 (lbz rfl)) rfl rfl (lbz rfl) aHX.2.2.2.2.2.2.2.2.2.2.2.2.2.2.1 (fun H locs hP hD hS => ?_)
  have hPD := PDw (ws' := (aRM cI cC cZ cB cJ a_m nY sJ eG iY lY jR jW jZ jO oQ bR aY jQ gY iJ mQ lJ jA bG mK jB mW mJ eJ dG bT aG jC bL bY 1 p1 p2 0 (-1) aJ aB bW bZ aR aE bI aW bU fJ dO bM bQ bO jY oX)) hP hD rfl
  have hP := hPD.1
  have hD := hPD.2
  exact W.vret hx hb hr (fun t ht hW => ⟨⟨(1, p1, p2, 0, (-1)), rfl, hp, by rw [ht]; exact hP, va_K.moved hW.alike hK, hD⟩, hS.F ht⟩) hS.2.2 aHX.2.2.2.2.2.2.2.2.2.2.2.2.2.2.2
abbrev aVf (cI cC cZ cB cJ : ClassId) (a_m nY sJ eG iY lY jR jW jZ jO oQ bR aY jQ gY iJ mQ lJ jA bG mK jB mW mJ eJ dG : Nat) (bT aG jC bL bY : Int32) (jD : Nat) (mLn oF rP dQ aJ aB bW bZ aR aE bI aW bU fJ dO bM bQ bO jY oX : Int32) : va_W := [(a_m, .inr (10, [.ref nY, .int bT, .ref sJ, .ref eG, .ref iY, .ref lY, .int aG, .ref jR, .ref jW, .ref jZ, .ref jO, .int jC, .ref oQ, .int bL, .int bY, rdv jO jQ jD, .int mLn, .int oF, .int rP, .int dQ, .ref bR, .ref aY, .int aJ, .int aB, .ref jQ, .int bW, .int bZ, .int aR, .int aE, .int bI, .int aW, .ref gY, .int bU, .ref iJ, .ref mQ, .int fJ, .ref lJ, .int dO, .ref jA, .ref bG, .int bM, .int bQ, .int bO, .ref mK, .ref jB, .ref mW, .int jY, .int oX, .ref mJ, .ref eJ, .ref dG]))]
abbrev q_X10_fine (dC : Nat -> ClassId) (dI : Nat -> Nat -> Nat) (cI cC cZ cB cJ : ClassId) (A : Nat -> Prop) (a_m nY sJ eG iY lY jR jW jZ jO oQ bR aY jQ gY iJ mQ lJ jA bG mK jB mW mJ eJ dG : Nat) (bT aG jC bL bY : Int32) (jD : Nat) (mLn oF rP dQ aJ aB bW bZ aR aE bI aW bU fJ dO bM bQ bO jY oX : Int32) (post : Int32 -> Prop) : Array Value -> State -> Outcome -> State -> Prop := va_Qi (fun (r : Int32) (u : Unit) => post r) (fun u t => gB (dC, dI) (tyl cI cC cZ cB cJ) A (aVf cI cC cZ cB cJ a_m nY sJ eG iY lY jR jW jZ jO oQ bR aY jQ gY iJ mQ lJ jA bG mK jB mW mJ eJ dG bT aG jC bL bY jD mLn oF rP dQ aJ aB bW bZ aR aE bI aW bU fJ dO bM bQ bO jY oX) t) A
abbrev rm_X10_fine : Room := { frames := 0, cells := 0, slots := 0, locals := 0 }
def aRX (post : Int32 -> Prop) (dQ : Int32) : Prop := (¬ dQ = (-1) -> post 0) /\ (dQ = (-1) -> post 1)
set_option maxHeartbeats 4000000 in
set_option maxRecDepth 100000 in
theorem c_X10_fine (l : Launch) (dC : Nat -> ClassId) (dI : Nat -> Nat -> Nat) (cI cC cZ cB cJ : ClassId) (a_m nY sJ eG iY lY jR jW jZ jO oQ bR aY jQ gY iJ mQ lJ jA bG mK jB mW mJ eJ dG sz : Nat) (bT aG jC bL bY : Int32) (jD : Nat) (mLn oF rP dQ aJ aB bW bZ aR aE bI aW bU fJ dO bM bQ bO jY oX : Int32) (post : Int32 -> Prop) (hw : aRX post dQ) : Met l yX10_fine (gw yX10_fine cX10_fine 1 (some .boolean)) rm_X10_fine (va_Pc [.ref a_m] (gPre (dC, dI) (tyl cI cC cZ cB cJ) (aVf cI cC cZ cB cJ a_m nY sJ eG iY lY jR jW jZ jO oQ bR aY jQ gY iJ mQ lJ jA bG mK jB mW mJ eJ dG bT aG jC bL bY jD mLn oF rP dQ aJ aB bW bZ aR aE bI aW bU fJ dO bM bQ bO jY oX) sz)) (q_X10_fine dC dI cI cC cZ cB cJ (va_A (aVf cI cC cZ cB cJ a_m nY sJ eG iY lY jR jW jZ jO oQ bR aY jQ gY iJ mQ lJ jA bG mK jB mW mJ eJ dG bT aG jC bL bY jD mLn oF rP dQ aJ aB bW bZ aR aE bI aW bU fJ dO bM bQ bO jY oX) sz) a_m nY sJ eG iY lY jR jW jZ jO oQ bR aY jQ gY iJ mQ lJ jA bG mK jB mW mJ eJ dG bT aG jC bL bY jD mLn oF rP dQ aJ aB bW bZ aR aE bI aW bU fJ dO bM bQ bO jY oX post) 0 0 (va_A (aVf cI cC cZ cB cJ a_m nY sJ eG iY lY jR jW jZ jO oQ bR aY jQ gY iJ mQ lJ jA bG mK jB mW mJ eJ dG bT aG jC bL bY jD mLn oF rP dQ aJ aB bW bZ aR aE bI aW bU fJ dO bM bQ bO jY oX) sz) := by
  refine aBJ (own := zX) (dC, dI) (tyl cI cC cZ cB cJ) (aVf cI cC cZ cB cJ a_m nY sJ eG iY lY jR jW jZ jO oQ bR aY jQ gY iJ mQ lJ jA bG mK jB mW mJ eJ dG bT aG jC bL bY jD mLn oF rP dQ aJ aB bW bZ aR aE bI aW bU fJ dO bM bQ bO jY oX) sz [.ref a_m] (fun A => q_X10_fine dC dI cI cC cZ cB cJ A a_m nY sJ eG iY lY jR jW jZ jO oQ bR aY jQ gY iJ mQ lJ jA bG mK jB mW mJ eJ dG bT aG jC bL bY jD mLn oF rP dQ aJ aB bW bZ aR aE bI aW bU fJ dO bM bQ bO jY oX post) aFY rfl (lbz rfl) ?_
  intro p e s m args below meth c A H locs ls C0 hP hD hS hl
  have hl : lv_has ls 1 [(0, .ref a_m)] := hl
  obtain ⟨hx, hb, hr, hml, hown, hts, hlocks, hA, hK, hN, tL, tM, hZL, hTL, hZM, hTM, hZX⟩ := id C0
  have hp := hw
  unfold aRX at hp
  refine lv_aload_n hx hb eX10_fine_0.1 rfl (lv_at hl 0 rfl) ?_
  refine va_get (D := (dC, dI)) (ci := 10) (v := .int dQ) (C := zX) (T := aBe) (N := 51) hx hb hts aAt hown hK hP 0 rfl rfl 19 (lbz rfl) (hts _ q_649) (fun _ h9 => h9) rfl eX10_fine_0.2.1 ?_
  refine lv_iconst (v := (-1)) hx hb eX10_fine_0.2.2.1 aEJ ?_
  refine lv_icmp_ne (tgt := 12) hx hb eX10_fine_0.2.2.2.1 (by decide) (fun hc => ?_) (fun hc => ?_)
  · have hp := hp.1 hc
    refine lv_iconst (v := 0) hx hb eX10_fine_0.2.2.2.2.2.2.1 aCi ?_
    exact W.zret (v := 0) hx hb hr rfl (fun t ht hW => ⟨⟨0, (), rfl, hp, by rw [ht]; exact hP, va_K.moved hW.alike hK, hD⟩, hS.F ht⟩) hS.2.2 eX10_fine_0.2.2.2.2.2.2.2
  · have hp := hp.2 hc
    refine lv_iconst (v := 1) hx hb eX10_fine_0.2.2.2.2.1 aDx ?_
    refine lv_goto (tgt := 13) hx hb eX10_fine_0.2.2.2.2.2.1 (by decide) ?_
    exact W.zret (v := 1) hx hb hr rfl (fun t ht hW => ⟨⟨1, (), rfl, hp, by rw [ht]; exact hP, va_K.moved hW.alike hK, hD⟩, hS.F ht⟩) hS.2.2 eX10_fine_0.2.2.2.2.2.2.2
abbrev aVg (cI cC cZ cB cJ : ClassId) (a_m nY sJ eG iY lY jR jW jZ jO oQ bR aY jQ gY iJ mQ lJ jA bG mK jB mW mJ eJ dG : Nat) (bT aG jC bL bY : Int32) (jD : Nat) (mLn oF rP dQ aJ aB bW bZ aR aE bI aW bU fJ dO bM bQ bO jY oX : Int32) (qO qQ : Nat -> Int32) : va_W := [(a_m, .inr (10, [.ref nY, .int bT, .ref sJ, .ref eG, .ref iY, .ref lY, .int aG, .ref jR, .ref jW, .ref jZ, .ref jO, .int jC, .ref oQ, .int bL, .int bY, rdv jO jQ jD, .int mLn, .int oF, .int rP, .int dQ, .ref bR, .ref aY, .int aJ, .int aB, .ref jQ, .int bW, .int bZ, .int aR, .int aE, .int bI, .int aW, .ref gY, .int bU, .ref iJ, .ref mQ, .int fJ, .ref lJ, .int dO, .ref jA, .ref bG, .int bM, .int bQ, .int bO, .ref mK, .ref jB, .ref mW, .int jY, .int oX, .ref mJ, .ref eJ, .ref dG])), (jO, .inl (cB, 80, .inl qO)), (jQ, .inl (cB, 40, .inl qQ))]
abbrev q_X10_here (dC : Nat -> ClassId) (dI : Nat -> Nat -> Nat) (cI cC cZ cB cJ : ClassId) (A : Nat -> Prop) (a_m nY sJ eG iY lY jR jW jZ jO oQ bR aY jQ gY iJ mQ lJ jA bG mK jB mW mJ eJ dG : Nat) (bT aG jC bL bY : Int32) (jD : Nat) (mLn oF rP dQ aJ aB bW bZ aR aE bI aW bU fJ dO bM bQ bO jY oX : Int32) (qO qQ : Nat -> Int32) (post : Int32 -> Prop) : Array Value -> State -> Outcome -> State -> Prop := va_Qi (fun (r : Int32) (u : Unit) => post r) (fun u t => gB (dC, dI) (tyl cI cC cZ cB cJ) A (aVg cI cC cZ cB cJ a_m nY sJ eG iY lY jR jW jZ jO oQ bR aY jQ gY iJ mQ lJ jA bG mK jB mW mJ eJ dG bT aG jC bL bY jD mLn oF rP dQ aJ aB bW bZ aR aE bI aW bU fJ dO bM bQ bO jY oX qO qQ) t) A
abbrev rm_X10_here : Room := { frames := 0, cells := 0, slots := 0, locals := 0 }
def aPe (post : Int32 -> Prop) (jD : Nat) (mLn oF rP : Int32) (qO qQ : Nat -> Int32) : Prop := (mLn <= rP -> post (-1)) /\ (¬ mLn <= rP -> (oF <= rP -> post (-1)) /\ (¬ oF <= rP -> (jD = 1 /\ vp_in rP 80 /\ ∀ v_1 : Int32, v_1 = qO rP.toNatClampNeg -> ∀ v_2 : Int32, v_2 = v_1 &&& 255 -> post v_2) \/ (jD = 2 /\ vp_in rP 40 /\ ∀ v_3 : Int32, v_3 = qQ rP.toNatClampNeg -> ∀ v_4 : Int32, v_4 = v_3 &&& 255 -> post v_4)))
set_option maxHeartbeats 4000000 in
set_option maxRecDepth 100000 in
theorem c_X10_here (l : Launch) (dC : Nat -> ClassId) (dI : Nat -> Nat -> Nat) (cI cC cZ cB cJ : ClassId) (a_m nY sJ eG iY lY jR jW jZ jO oQ bR aY jQ gY iJ mQ lJ jA bG mK jB mW mJ eJ dG sz : Nat) (bT aG jC bL bY : Int32) (jD : Nat) (mLn oF rP dQ aJ aB bW bZ aR aE bI aW bU fJ dO bM bQ bO jY oX : Int32) (qO qQ : Nat -> Int32) (post : Int32 -> Prop) (hw : aPe post jD mLn oF rP qO qQ) : Met l yX10_here (gw yX10_here aYR 1 (some .int)) rm_X10_here (va_Pc [.ref a_m] (gPre (dC, dI) (tyl cI cC cZ cB cJ) (aVg cI cC cZ cB cJ a_m nY sJ eG iY lY jR jW jZ jO oQ bR aY jQ gY iJ mQ lJ jA bG mK jB mW mJ eJ dG bT aG jC bL bY jD mLn oF rP dQ aJ aB bW bZ aR aE bI aW bU fJ dO bM bQ bO jY oX qO qQ) sz)) (q_X10_here dC dI cI cC cZ cB cJ (va_A (aVg cI cC cZ cB cJ a_m nY sJ eG iY lY jR jW jZ jO oQ bR aY jQ gY iJ mQ lJ jA bG mK jB mW mJ eJ dG bT aG jC bL bY jD mLn oF rP dQ aJ aB bW bZ aR aE bI aW bU fJ dO bM bQ bO jY oX qO qQ) sz) a_m nY sJ eG iY lY jR jW jZ jO oQ bR aY jQ gY iJ mQ lJ jA bG mK jB mW mJ eJ dG bT aG jC bL bY jD mLn oF rP dQ aJ aB bW bZ aR aE bI aW bU fJ dO bM bQ bO jY oX qO qQ post) 0 0 (va_A (aVg cI cC cZ cB cJ a_m nY sJ eG iY lY jR jW jZ jO oQ bR aY jQ gY iJ mQ lJ jA bG mK jB mW mJ eJ dG bT aG jC bL bY jD mLn oF rP dQ aJ aB bW bZ aR aE bI aW bU fJ dO bM bQ bO jY oX qO qQ) sz) := by
  refine aBJ (own := zX) (dC, dI) (tyl cI cC cZ cB cJ) (aVg cI cC cZ cB cJ a_m nY sJ eG iY lY jR jW jZ jO oQ bR aY jQ gY iJ mQ lJ jA bG mK jB mW mJ eJ dG bT aG jC bL bY jD mLn oF rP dQ aJ aB bW bZ aR aE bI aW bU fJ dO bM bQ bO jY oX qO qQ) sz [.ref a_m] (fun A => q_X10_here dC dI cI cC cZ cB cJ A a_m nY sJ eG iY lY jR jW jZ jO oQ bR aY jQ gY iJ mQ lJ jA bG mK jB mW mJ eJ dG bT aG jC bL bY jD mLn oF rP dQ aJ aB bW bZ aR aE bI aW bU fJ dO bM bQ bO jY oX qO qQ post) aFY rfl (lbz rfl) ?_
  intro p e s m args below meth c A H locs ls C0 hP hD hS hl
  have hl : lv_has ls 1 [(0, .ref a_m)] := hl
  obtain ⟨hx, hb, hr, hml, hown, hts, hlocks, hA, hK, hN, tL, tM, hZL, hTL, hZM, hTM, hZX⟩ := id C0
  have hp := hw
  unfold aPe at hp
  refine lv_aload_n hx hb aVX.1 rfl (lv_at hl 0 rfl) ?_
  refine va_get (D := (dC, dI)) (ci := 10) (v := .int rP) (C := zX) (T := aBe) (N := 51) hx hb hts aAt hown hK hP 0 rfl rfl 18 (lbz rfl) (hts _ q_648) (fun _ h9 => h9) rfl aVX.2.1 ?_
  refine lv_aload_n hx hb aVX.2.2.1 rfl (lv_at hl 0 rfl) ?_
  refine va_get (D := (dC, dI)) (ci := 10) (v := .int mLn) (C := zX) (T := aBe) (N := 51) hx hb hts aAt hown hK hP 0 rfl rfl 16 (lbz rfl) (hts _ q_646) (fun _ h9 => h9) rfl aVX.2.2.2.1 ?_
  refine lv_icmp_ge (tgt := 38) hx hb aVX.2.2.2.2.1 (by decide) (fun hc => ?_) (fun hc => ?_)
  · have hp := hp.1 hc
    refine lv_iconst (v := (-1)) hx hb eX10_here_34.2.2.1 aEJ ?_
    exact W.iret (v := (-1)) hx hb hr (fun t ht hW => ⟨⟨(-1), (), rfl, hp, by rw [ht]; exact hP, va_K.moved hW.alike hK, hD⟩, hS.F ht⟩) hS.2.2 eX10_here_34.2.2.2
  · have hp := hp.2 hc
    refine lv_aload_n hx hb aVX.2.2.2.2.2.1 rfl (lv_at hl 0 rfl) ?_
    refine va_get (D := (dC, dI)) (ci := 10) (v := .int rP) (C := zX) (T := aBe) (N := 51) hx hb hts aAt hown hK hP 0 rfl rfl 18 (lbz rfl) (hts _ q_648) (fun _ h9 => h9) rfl aVX.2.2.2.2.2.2.1 ?_
    refine lv_aload_n hx hb aVX.2.2.2.2.2.2.2.1 rfl (lv_at hl 0 rfl) ?_
    refine va_get (D := (dC, dI)) (ci := 10) (v := .int oF) (C := zX) (T := aBe) (N := 51) hx hb hts aAt hown hK hP 0 rfl rfl 17 (lbz rfl) (hts _ q_647) (fun _ h9 => h9) rfl aVX.2.2.2.2.2.2.2.2.1 ?_
    refine lv_icmp_ge (tgt := 38) hx hb aVX.2.2.2.2.2.2.2.2.2.1 (by decide) (fun hc => ?_) (fun hc => ?_)
    · have hp := hp.1 hc
      refine lv_iconst (v := (-1)) hx hb eX10_here_34.2.2.1 aEJ ?_
      exact W.iret (v := (-1)) hx hb hr (fun t ht hW => ⟨⟨(-1), (), rfl, hp, by rw [ht]; exact hP, va_K.moved hW.alike hK, hD⟩, hS.F ht⟩) hS.2.2 eX10_here_34.2.2.2
    · have hp := hp.2 hc
      refine lv_aload_n hx hb aVX.2.2.2.2.2.2.2.2.2.2.1 rfl (lv_at hl 0 rfl) ?_
      refine va_get (D := (dC, dI)) (ci := 10) (v := rdv jO jQ jD) (C := zX) (T := aBe) (N := 51) hx hb hts aAt hown hK hP 0 rfl rfl 15 (lbz rfl) (hts _ q_645) (fun _ h9 => h9) rfl aVX.2.2.2.2.2.2.2.2.2.2.2.1 ?_
      refine lv_aload_n hx hb aVX.2.2.2.2.2.2.2.2.2.2.2.2.1 rfl (lv_at hl 0 rfl) ?_
      refine va_get (D := (dC, dI)) (ci := 10) (v := .int rP) (C := zX) (T := aBe) (N := 51) hx hb hts aAt hown hK hP 0 rfl rfl 18 (lbz rfl) (hts _ q_648) (fun _ h9 => h9) rfl aVX.2.2.2.2.2.2.2.2.2.2.2.2.2.1 ?_
      rcases hp with ⟨hk, hin, hp⟩ | ⟨hk, hin, hp⟩
      · refine W.eq (g2 := F0 m 30 ls (.int rP :: .ref jO :: [])) (by rw [hk]; rfl) ?_
        refine va_bald hx hb hK hP 1 3 rfl rfl hin aVX.2.2.2.2.2.2.2.2.2.2.2.2.2.2.1 ?_
        refine lv_topi (fun v_1 aFJ => ?_)
        have hp := hp v_1 aFJ
        refine lv_sipush (v := 255) hx hb aVX.2.2.2.2.2.2.2.2.2.2.2.2.2.2.2 sp_255 ?_
        refine lv_iand hx hb eX10_here_34.1 ?_
        refine lv_topi (fun v_2 aGO => ?_)
        have hp := hp v_2 aGO
        refine lv_goto (tgt := 39) hx hb eX10_here_34.2.1 (by decide) ?_
        exact W.iret (v := v_2) hx hb hr (fun t ht hW => ⟨⟨v_2, (), rfl, hp, by rw [ht]; exact hP, va_K.moved hW.alike hK, hD⟩, hS.F ht⟩) hS.2.2 eX10_here_34.2.2.2
      · refine W.eq (g2 := F0 m 30 ls (.int rP :: .ref jQ :: [])) (by rw [hk]; rfl) ?_
        refine va_bald hx hb hK hP 2 3 rfl rfl hin aVX.2.2.2.2.2.2.2.2.2.2.2.2.2.2.1 ?_
        refine lv_topi (fun v_3 aGW => ?_)
        have hp := hp v_3 aGW
        refine lv_sipush (v := 255) hx hb aVX.2.2.2.2.2.2.2.2.2.2.2.2.2.2.2 sp_255 ?_
        refine lv_iand hx hb eX10_here_34.1 ?_
        refine lv_topi (fun v_4 aHM => ?_)
        have hp := hp v_4 aHM
        refine lv_goto (tgt := 39) hx hb eX10_here_34.2.1 (by decide) ?_
        exact W.iret (v := v_4) hx hb hr (fun t ht hW => ⟨⟨v_4, (), rfl, hp, by rw [ht]; exact hP, va_K.moved hW.alike hK, hD⟩, hS.F ht⟩) hS.2.2 eX10_here_34.2.2.2
abbrev aSM (cI cC cZ cB cJ : ClassId) (a_m nY sJ eG iY lY jR jW jZ jO oQ bR aY jQ gY iJ mQ lJ jA bG mK jB mW mJ eJ dG : Nat) (bT aG jC bL bY : Int32) (jD : Nat) (mLn oF rP dQ aJ aB bW bZ aR aE bI aW bU fJ dO bM bQ bO jY oX : Int32) : va_W := [(a_m, .inr (10, [.ref nY, .int bT, .ref sJ, .ref eG, .ref iY, .ref lY, .int aG, .ref jR, .ref jW, .ref jZ, .ref jO, .int jC, .ref oQ, .int bL, .int bY, rdv jO jQ jD, .int mLn, .int oF, .int rP, .int dQ, .ref bR, .ref aY, .int aJ, .int aB, .ref jQ, .int bW, .int bZ, .int aR, .int aE, .int bI, .int aW, .ref gY, .int bU, .ref iJ, .ref mQ, .int fJ, .ref lJ, .int dO, .ref jA, .ref bG, .int bM, .int bQ, .int bO, .ref mK, .ref jB, .ref mW, .int jY, .int oX, .ref mJ, .ref eJ, .ref dG]))]
abbrev q_X10_fault (dC : Nat -> ClassId) (dI : Nat -> Nat -> Nat) (cI cC cZ cB cJ : ClassId) (A : Nat -> Prop) (a_m nY sJ eG iY lY jR jW jZ jO oQ bR aY jQ gY iJ mQ lJ jA bG mK jB mW mJ eJ dG : Nat) (bT aG jC bL bY : Int32) (jD : Nat) (mLn oF rP aJ aB bW bZ aR aE bI aW bU fJ dO bM bQ bO jY oX : Int32) (post : Int32 -> Prop) : Array Value -> State -> Outcome -> State -> Prop := va_Qv (fun (u : Int32) => post u) (fun u t => gB (dC, dI) (tyl cI cC cZ cB cJ) A (aSM cI cC cZ cB cJ a_m nY sJ eG iY lY jR jW jZ jO oQ bR aY jQ gY iJ mQ lJ jA bG mK jB mW mJ eJ dG bT aG jC bL bY jD mLn oF rP u aJ aB bW bZ aR aE bI aW bU fJ dO bM bQ bO jY oX) t) A
abbrev rm_X10_fault : Room := { frames := 1, cells := 0, slots := 0, locals := 20 }
def aSQ (post : Int32 -> Prop) (p0 dQ : Int32) : Prop := aRX (fun r_1 => (r_1 = 0 -> post dQ) /\ (¬ r_1 = 0 -> post p0)) dQ
set_option maxHeartbeats 4000000 in
set_option maxRecDepth 100000 in
theorem c_X10_fault (l : Launch) (dC : Nat -> ClassId) (dI : Nat -> Nat -> Nat) (cI cC cZ cB cJ : ClassId) (a_m nY sJ eG iY lY jR jW jZ jO oQ bR aY jQ gY iJ mQ lJ jA bG mK jB mW mJ eJ dG sz : Nat) (p0 bT aG jC bL bY : Int32) (jD : Nat) (mLn oF rP dQ aJ aB bW bZ aR aE bI aW bU fJ dO bM bQ bO jY oX : Int32) (post : Int32 -> Prop) (hw : aSQ post p0 dQ) : Met l yX10_fault (gw yX10_fault cX10_fault 2 none) rm_X10_fault (va_Pc [.ref a_m, .int p0] (gPre (dC, dI) (tyl cI cC cZ cB cJ) (aSM cI cC cZ cB cJ a_m nY sJ eG iY lY jR jW jZ jO oQ bR aY jQ gY iJ mQ lJ jA bG mK jB mW mJ eJ dG bT aG jC bL bY jD mLn oF rP dQ aJ aB bW bZ aR aE bI aW bU fJ dO bM bQ bO jY oX) sz)) (q_X10_fault dC dI cI cC cZ cB cJ (va_A (aSM cI cC cZ cB cJ a_m nY sJ eG iY lY jR jW jZ jO oQ bR aY jQ gY iJ mQ lJ jA bG mK jB mW mJ eJ dG bT aG jC bL bY jD mLn oF rP dQ aJ aB bW bZ aR aE bI aW bU fJ dO bM bQ bO jY oX) sz) a_m nY sJ eG iY lY jR jW jZ jO oQ bR aY jQ gY iJ mQ lJ jA bG mK jB mW mJ eJ dG bT aG jC bL bY jD mLn oF rP aJ aB bW bZ aR aE bI aW bU fJ dO bM bQ bO jY oX post) 0 0 (va_A (aSM cI cC cZ cB cJ a_m nY sJ eG iY lY jR jW jZ jO oQ bR aY jQ gY iJ mQ lJ jA bG mK jB mW mJ eJ dG bT aG jC bL bY jD mLn oF rP dQ aJ aB bW bZ aR aE bI aW bU fJ dO bM bQ bO jY oX) sz) := by
  refine aBJ (own := zX) (dC, dI) (tyl cI cC cZ cB cJ) (aSM cI cC cZ cB cJ a_m nY sJ eG iY lY jR jW jZ jO oQ bR aY jQ gY iJ mQ lJ jA bG mK jB mW mJ eJ dG bT aG jC bL bY jD mLn oF rP dQ aJ aB bW bZ aR aE bI aW bU fJ dO bM bQ bO jY oX) sz [.ref a_m, .int p0] (fun A => q_X10_fault dC dI cI cC cZ cB cJ A a_m nY sJ eG iY lY jR jW jZ jO oQ bR aY jQ gY iJ mQ lJ jA bG mK jB mW mJ eJ dG bT aG jC bL bY jD mLn oF rP aJ aB bW bZ aR aE bI aW bU fJ dO bM bQ bO jY oX post) aFY rfl (lbz rfl) ?_
  intro p e s m args below meth c A H locs ls C0 hP hD hS hl
  have hl : lv_has ls 2 [(0, .ref a_m), (1, .int p0)] := hl
  obtain ⟨hx, hb, hr, hml, hown, hts, hlocks, hA, hK, hN, tL, tM, hZL, hTL, hZM, hTM, hZX⟩ := id C0
  have hp := hw
  unfold aSQ at hp
  refine lv_aload_n hx hb eX10_fault_0.1 rfl (lv_at hl 0 rfl) ?_
  refine yW (wc := (aVf cI cC cZ cB cJ a_m nY sJ eG iY lY jR jW jZ jO oQ bR aY jQ gY iJ mQ lJ jA bG mK jB mW mJ eJ dG bT aG jC bL bY jD mLn oF rP dQ aJ aB bW bZ aR aE bI aW bU fJ dO bM bQ bO jY oX)) hP hD hS hA [0] [] rfl rfl rfl rfl (zF (As := []) (rest := []) C0 hP hD hS [0] rfl rfl 0 10 rfl rfl (c_X10_fine l dC dI cI cC cZ cB cJ a_m nY sJ eG iY lY jR jW jZ jO oQ bR aY jQ gY iJ mQ lJ jA bG mK jB mW mJ eJ dG H.size bT aG jC bL bY jD mLn oF rP dQ aJ aB bW bZ aR aE bI aW bU fJ dO bM bQ bO jY oX _ hp) q_650 q_653 q_651 q_652 aBL h_X10_fine rfl rfl ⟨lbz rfl, lbz rfl⟩ rfl rfl hl.1 rfl (lv_room (lbz rfl)) eX10_fault_0.2.1 ⟨Nat.zero_le _, Nat.zero_le _⟩) (fun r_1 u H locs hp hP hD hS => ?_)
  have hPD := PDs (ws' := (aSM cI cC cZ cB cJ a_m nY sJ eG iY lY jR jW jZ jO oQ bR aY jQ gY iJ mQ lJ jA bG mK jB mW mJ eJ dG bT aG jC bL bY jD mLn oF rP dQ aJ aB bW bZ aR aE bI aW bU fJ dO bM bQ bO jY oX)) hP hD [0] (by decide) rfl
  have hP := hPD.1
  have hD := hPD.2
  refine lv_if_eq (tgt := 12) hx hb eX10_fault_0.2.2.1 (by decide) (fun hc => ?_) (fun hc => ?_)
  · have hp := hp.1 hc
    exact W.vret hx hb hr (fun t ht hW => ⟨⟨dQ, rfl, hp, by rw [ht]; exact hP, va_K.moved hW.alike hK, hD⟩, hS.F ht⟩) hS.2.2 eX10_fault_0.2.2.2.2.2.2
  · have hp := hp.2 hc
    refine lv_aload_n hx hb eX10_fault_0.2.2.2.1 rfl (lv_at hl 0 rfl) ?_
    refine lv_iload_n hx hb eX10_fault_0.2.2.2.2.1 rfl (lv_at hl 1 rfl) ?_
    refine va_put (D := (dC, dI)) (ci := 10) (v := .int p0) (ty := .int) (C := zX) (T := aBe) (N := 51) hx hb hts aAt aD2 aAa aEC hown hK hP hD hS 0 rfl rfl 19 (lbz rfl) (hts _ q_649) (fun _ h9 => h9) rfl (aAa 19 (lbz rfl)) rfl rfl (lbz rfl) eX10_fault_0.2.2.2.2.2.1 (fun H locs hP hD hS => ?_)
    have hPD := PDw (ws' := (aSM cI cC cZ cB cJ a_m nY sJ eG iY lY jR jW jZ jO oQ bR aY jQ gY iJ mQ lJ jA bG mK jB mW mJ eJ dG bT aG jC bL bY jD mLn oF rP p0 aJ aB bW bZ aR aE bI aW bU fJ dO bM bQ bO jY oX)) hP hD rfl
    have hP := hPD.1
    have hD := hPD.2
    exact W.vret hx hb hr (fun t ht hW => ⟨⟨p0, rfl, hp, by rw [ht]; exact hP, va_K.moved hW.alike hK, hD⟩, hS.F ht⟩) hS.2.2 eX10_fault_0.2.2.2.2.2.2
abbrev aG9 (cI cC cZ cB cJ : ClassId) (a_m nY sJ eG iY lY jR jW jZ jO oQ bR aY jQ gY iJ mQ lJ jA bG mK jB mW mJ eJ dG : Nat) (bT aG jC bL bY : Int32) (jD : Nat) (mLn oF rP dQ aJ aB bW bZ aR aE bI aW bU fJ dO bM bQ bO jY oX : Int32) (qO qQ : Nat -> Int32) : va_W := [(a_m, .inr (10, [.ref nY, .int bT, .ref sJ, .ref eG, .ref iY, .ref lY, .int aG, .ref jR, .ref jW, .ref jZ, .ref jO, .int jC, .ref oQ, .int bL, .int bY, rdv jO jQ jD, .int mLn, .int oF, .int rP, .int dQ, .ref bR, .ref aY, .int aJ, .int aB, .ref jQ, .int bW, .int bZ, .int aR, .int aE, .int bI, .int aW, .ref gY, .int bU, .ref iJ, .ref mQ, .int fJ, .ref lJ, .int dO, .ref jA, .ref bG, .int bM, .int bQ, .int bO, .ref mK, .ref jB, .ref mW, .int jY, .int oX, .ref mJ, .ref eJ, .ref dG])), (jO, .inl (cB, 80, .inl qO)), (jQ, .inl (cB, 40, .inl qQ))]
abbrev q_X10_number (dC : Nat -> ClassId) (dI : Nat -> Nat -> Nat) (cI cC cZ cB cJ : ClassId) (A : Nat -> Prop) (a_m nY sJ eG iY lY jR jW jZ jO oQ bR aY jQ gY iJ mQ lJ jA bG mK jB mW mJ eJ dG : Nat) (bT aG jC bL bY : Int32) (jD : Nat) (mLn oF aJ aB bW bZ aR aE bI aW bU fJ dO bM bQ bO jY oX : Int32) (qO qQ : Nat -> Int32) (post : Int32 -> Int32 -> Int32 -> Prop) : Array Value -> State -> Outcome -> State -> Prop := va_Qi (fun (r : Int32) (u : Int32 × Int32) => post r u.1 u.2) (fun u t => gB (dC, dI) (tyl cI cC cZ cB cJ) A (aG9 cI cC cZ cB cJ a_m nY sJ eG iY lY jR jW jZ jO oQ bR aY jQ gY iJ mQ lJ jA bG mK jB mW mJ eJ dG bT aG jC bL bY jD mLn oF u.1 u.2 aJ aB bW bZ aR aE bI aW bU fJ dO bM bQ bO jY oX qO qQ) t) A
abbrev rm_X10_number : Room := { frames := 2, cells := 0, slots := 0, locals := 41 }
section S_X10_number
variable {p : Program} {l : Launch} {e : Env} {s : State} {m : MethodId} {args : Array Value} {below : List Frame} {meth : Method} {c : Code} {dC : Nat -> ClassId} {dI : Nat -> Nat -> Nat} {cI cC cZ cB cJ : ClassId} {A : Nat -> Prop} {a_m nY sJ eG iY lY jR jW jZ jO oQ bR aY jQ gY iJ mQ lJ jA bG mK jB mW mJ eJ dG : Nat} {bT aG jC bL bY : Int32} {jD : Nat} {mLn oF aJ aB bW bZ aR aE bI aW bU fJ dO bM bQ bO jY oX : Int32} {qO qQ : Nat -> Int32} {post : Int32 -> Int32 -> Int32 -> Prop}
def ws_X10_number_66 (post : Int32 -> Int32 -> Int32 -> Prop) (jD : Nat) (mLn oF : Int32) (qO qQ : Nat -> Int32) (x2 x3 rP dQ : Int32) : Prop := (¬ rP = x2 -> post x3 rP dQ) /\ (rP = x2 -> aSQ (fun m_wrong_2 => post x3 rP m_wrong_2) rP dQ)
set_option maxHeartbeats 4000000 in
set_option maxRecDepth 100000 in
theorem ks_X10_number_66 (C0 : gc aEF (some .int) 4 zX (dC, dI) (tyl cI cC cZ cB cJ) A p s m args meth c) : ∀ (x2 x3 rP dQ : Int32) (H : Heap) (locs : List Loc) (ls : Array Slot), (ws_X10_number_66 post jD mLn oF qO qQ) x2 x3 rP dQ -> va_P (dC, dI) classes (aG9 cI cC cZ cB cJ a_m nY sJ eG iY lY jR jW jZ jO oQ bR aY jQ gY iJ mQ lJ jA bG mK jB mW mJ eJ dG bT aG jC bL bY jD mLn oF rP dQ aJ aB bW bZ aR aE bI aW bU fJ dO bM bQ bO jY oX qO qQ) H -> va_D A (aG9 cI cC cZ cB cJ a_m nY sJ eG iY lY jR jW jZ jO oQ bR aY jQ gY iJ mQ lJ jA bG mK jB mW mJ eJ dG bT aG jC bL bY jD mLn oF rP dQ aJ aB bW bZ aR aE bI aW bU fJ dO bM bQ bO jY oX qO qQ) -> va_S A s.heap H locs -> lv_has ls 4 [(0, .ref a_m), (2, .int x2), (3, .int x3)] -> W p l e rm_X10_number s m args below meth c H locs 0 0 (MQ below (q_X10_number dC dI cI cC cZ cB cJ A a_m nY sJ eG iY lY jR jW jZ jO oQ bR aY jQ gY iJ mQ lJ jA bG mK jB mW mJ eJ dG bT aG jC bL bY jD mLn oF aJ aB bW bZ aR aE bI aW bU fJ dO bM bQ bO jY oX qO qQ post) args s 0 0 A) (F0 m 66 ls []) := by
  obtain ⟨hx, hb, hr, hml, hown, hts, hlocks, hA, hK, hN, tL, tM, hZL, hTL, hZM, hTM, hZX⟩ := id C0
  intro x2 x3 rP dQ H locs ls hp hP hD hS hl
  unfold ws_X10_number_66 at hp
  refine lv_aload_n hx hb aNA.2.2.2.2.2.2.1 rfl (lv_at hl 0 rfl) ?_
  refine va_get (D := (dC, dI)) (ci := 10) (v := .int rP) (C := zX) (T := aBe) (N := 51) hx hb hts aAt hown hK hP 0 rfl rfl 18 (lbz rfl) (hts _ q_648) (fun _ h9 => h9) rfl aNA.2.2.2.2.2.2.2.1 ?_
  refine lv_iload_n hx hb aNA.2.2.2.2.2.2.2.2.1 rfl (lv_at hl 1 rfl) ?_
  refine lv_icmp_ne (tgt := 82) hx hb aNA.2.2.2.2.2.2.2.2.2.1 (by decide) (fun hc => ?_) (fun hc => ?_)
  · have hp := hp.1 hc
    refine lv_iload_n hx hb aNA.2.2.2.2.2.2.2.2.2.2.2.2.2.2.1 rfl (lv_at hl 2 rfl) ?_
    exact W.iret (v := x3) hx hb hr (fun t ht hW => ⟨⟨x3, (rP, dQ), rfl, hp, by rw [ht]; exact hP, va_K.moved hW.alike hK, hD⟩, hS.F ht⟩) hS.2.2 aNA.2.2.2.2.2.2.2.2.2.2.2.2.2.2.2
  · have hp := hp.2 hc
    refine lv_aload_n hx hb aNA.2.2.2.2.2.2.2.2.2.2.1 rfl (lv_at hl 0 rfl) ?_
    refine lv_aload_n hx hb aNA.2.2.2.2.2.2.2.2.2.2.2.1 rfl (lv_at hl 0 rfl) ?_
    refine va_get (D := (dC, dI)) (ci := 10) (v := .int rP) (C := zX) (T := aBe) (N := 51) hx hb hts aAt hown hK hP 0 rfl rfl 18 (lbz rfl) (hts _ q_648) (fun _ h9 => h9) rfl aNA.2.2.2.2.2.2.2.2.2.2.2.2.1 ?_
    have hm := mgk (wc := (aSM cI cC cZ cB cJ a_m nY sJ eG iY lY jR jW jZ jO oQ bR aY jQ gY iJ mQ lJ jA bG mK jB mW mJ eJ dG bT aG jC bL bY jD mLn oF rP dQ aJ aB bW bZ aR aE bI aW bU fJ dO bM bQ bO jY oX)) hP mk_198 3 rfl rfl rfl
    refine aBn hP hD hS hA (yS mk_198) (aAi mk_198) hm.1 hm.2 (aAk _) (zW _) (zF (As := [.int rP]) (rest := []) C0 hP hD hS (yS mk_198) hm.1 (aAl _) 0 10 rfl rfl (c_X10_fault l dC dI cI cC cZ cB cJ a_m nY sJ eG iY lY jR jW jZ jO oQ bR aY jQ gY iJ mQ lJ jA bG mK jB mW mJ eJ dG H.size rP bT aG jC bL bY jD mLn oF rP dQ aJ aB bW bZ aR aE bI aW bU fJ dO bM bQ bO jY oX _ hp) q_654 q_657 q_655 q_656 aBL h_X10_fault rfl rfl ⟨lbz rfl, lbz rfl⟩ rfl rfl hl.1 rfl (lv_room (lbz rfl)) aNA.2.2.2.2.2.2.2.2.2.2.2.2.2.1 ⟨Nat.zero_le _, Nat.zero_le _⟩) (fun u H locs hp hP hD hS => ?_)
    obtain ⟨m_wrong_2, rfl⟩ : ∃ z, z = u := ⟨_, rfl⟩
    have hPD := PDm (ws' := (aG9 cI cC cZ cB cJ a_m nY sJ eG iY lY jR jW jZ jO oQ bR aY jQ gY iJ mQ lJ jA bG mK jB mW mJ eJ dG bT aG jC bL bY jD mLn oF rP m_wrong_2 aJ aB bW bZ aR aE bI aW bU fJ dO bM bQ bO jY oX qO qQ)) hP hD 3 rfl rfl rfl
    have hP := hPD.1
    have hD := hPD.2
    refine lv_iload_n hx hb aNA.2.2.2.2.2.2.2.2.2.2.2.2.2.2.1 rfl (lv_at hl 2 rfl) ?_
    exact W.iret (v := x3) hx hb hr (fun t ht hW => ⟨⟨x3, (rP, m_wrong_2), rfl, hp, by rw [ht]; exact hP, va_K.moved hW.alike hK, hD⟩, hS.F ht⟩) hS.2.2 aNA.2.2.2.2.2.2.2.2.2.2.2.2.2.2.2
def ws_X10_number_16 (post : Int32 -> Int32 -> Int32 -> Prop) (next : Int32 -> Int32 -> Int32 -> Int32 -> Int32 -> Prop) (jD : Nat) (mLn oF : Int32) (qO qQ : Nat -> Int32) (x1 x2 x3 rP dQ : Int32) : Prop := ((x2 + x1) <= rP -> ws_X10_number_66 post jD mLn oF qO qQ x2 x3 rP dQ) /\ (¬ (x2 + x1) <= rP -> aPe (fun r_3 => aJY (fun r_4 => (r_4 = 0 -> ws_X10_number_66 post jD mLn oF qO qQ x2 x3 rP dQ) /\ (¬ r_4 = 0 -> ∀ v_5 : Int32, v_5 = 10 * x3 -> aPe (fun r_6 => ∀ v_7 : Int32, v_7 = v_5 + r_6 -> ∀ v_8 : Int32, v_8 = v_7 - 48 -> ∀ v_9 : Int32, v_9 = rP + 1 -> next x1 x2 v_8 v_9 dQ) jD mLn oF rP qO qQ)) r_3 48 57) jD mLn oF rP qO qQ)
noncomputable def wb_X10_number_16 (post : Int32 -> Int32 -> Int32 -> Prop) (jD : Nat) (mLn oF : Int32) (qO qQ : Nat -> Int32) : Nat -> Int32 -> Int32 -> Int32 -> Int32 -> Int32 -> Prop := fun n => Nat.rec (motive := fun _ => Int32 -> Int32 -> Int32 -> Int32 -> Int32 -> Prop) (fun _ _ _ _ _ => False) (fun _ ih => ws_X10_number_16 post ih jD mLn oF qO qQ) n
set_option maxHeartbeats 4000000 in
set_option maxRecDepth 100000 in
theorem ks_X10_number_16 (C0 : gc aEF (some .int) 4 zX (dC, dI) (tyl cI cC cZ cB cJ) A p s m args meth c) {next : Int32 -> Int32 -> Int32 -> Int32 -> Int32 -> Prop} (hKn : ∀ (x1 : Int32) (x2 : Int32) (x3 : Int32) (rP : Int32) (dQ : Int32) (H : Heap) (locs : List Loc) (ls : Array Slot), next x1 x2 x3 rP dQ -> va_P (dC, dI) classes (aG9 cI cC cZ cB cJ a_m nY sJ eG iY lY jR jW jZ jO oQ bR aY jQ gY iJ mQ lJ jA bG mK jB mW mJ eJ dG bT aG jC bL bY jD mLn oF rP dQ aJ aB bW bZ aR aE bI aW bU fJ dO bM bQ bO jY oX qO qQ) H -> va_D A (aG9 cI cC cZ cB cJ a_m nY sJ eG iY lY jR jW jZ jO oQ bR aY jQ gY iJ mQ lJ jA bG mK jB mW mJ eJ dG bT aG jC bL bY jD mLn oF rP dQ aJ aB bW bZ aR aE bI aW bU fJ dO bM bQ bO jY oX qO qQ) -> va_S A s.heap H locs -> lv_has ls 4 [(0, .ref a_m), (1, .int x1), (2, .int x2), (3, .int x3)] -> W p l e rm_X10_number s m args below meth c H locs 0 0 (MQ below (q_X10_number dC dI cI cC cZ cB cJ A a_m nY sJ eG iY lY jR jW jZ jO oQ bR aY jQ gY iJ mQ lJ jA bG mK jB mW mJ eJ dG bT aG jC bL bY jD mLn oF aJ aB bW bZ aR aE bI aW bU fJ dO bM bQ bO jY oX qO qQ post) args s 0 0 A) (F0 m 16 ls [])) : ∀ (x1 x2 x3 rP dQ : Int32) (H : Heap) (locs : List Loc) (ls : Array Slot), (ws_X10_number_16 post next jD mLn oF qO qQ) x1 x2 x3 rP dQ -> va_P (dC, dI) classes (aG9 cI cC cZ cB cJ a_m nY sJ eG iY lY jR jW jZ jO oQ bR aY jQ gY iJ mQ lJ jA bG mK jB mW mJ eJ dG bT aG jC bL bY jD mLn oF rP dQ aJ aB bW bZ aR aE bI aW bU fJ dO bM bQ bO jY oX qO qQ) H -> va_D A (aG9 cI cC cZ cB cJ a_m nY sJ eG iY lY jR jW jZ jO oQ bR aY jQ gY iJ mQ lJ jA bG mK jB mW mJ eJ dG bT aG jC bL bY jD mLn oF rP dQ aJ aB bW bZ aR aE bI aW bU fJ dO bM bQ bO jY oX qO qQ) -> va_S A s.heap H locs -> lv_has ls 4 [(0, .ref a_m), (1, .int x1), (2, .int x2), (3, .int x3)] -> W p l e rm_X10_number s m args below meth c H locs 0 0 (MQ below (q_X10_number dC dI cI cC cZ cB cJ A a_m nY sJ eG iY lY jR jW jZ jO oQ bR aY jQ gY iJ mQ lJ jA bG mK jB mW mJ eJ dG bT aG jC bL bY jD mLn oF aJ aB bW bZ aR aE bI aW bU fJ dO bM bQ bO jY oX qO qQ post) args s 0 0 A) (F0 m 16 ls []) := by
  obtain ⟨hx, hb, hr, hml, hown, hts, hlocks, hA, hK, hN, tL, tM, hZL, hTL, hZM, hTM, hZX⟩ := id C0
  intro x1 x2 x3 rP dQ H locs ls hp hP hD hS hl
  unfold ws_X10_number_16 at hp
  refine lv_aload_n hx hb aTA.2.2.2.2.2.2.2.2.2.2.1 rfl (lv_at hl 0 rfl) ?_
  refine va_get (D := (dC, dI)) (ci := 10) (v := .int rP) (C := zX) (T := aBe) (N := 51) hx hb hts aAt hown hK hP 0 rfl rfl 18 (lbz rfl) (hts _ q_648) (fun _ h9 => h9) rfl aTA.2.2.2.2.2.2.2.2.2.2.2.1 ?_
  refine lv_iload_n hx hb aTA.2.2.2.2.2.2.2.2.2.2.2.2.1 rfl (lv_at hl 2 rfl) ?_
  refine lv_iload_n hx hb aTA.2.2.2.2.2.2.2.2.2.2.2.2.2.1 rfl (lv_at hl 1 rfl) ?_
  refine lv_iadd hx hb aTA.2.2.2.2.2.2.2.2.2.2.2.2.2.2.1 ?_
  refine lv_icmp_ge (tgt := 66) hx hb aTA.2.2.2.2.2.2.2.2.2.2.2.2.2.2.2 (by decide) (fun hc => ?_) (fun hc => ?_)
  · have hp := hp.1 hc
    exact ks_X10_number_66 C0 x2 x3 rP dQ H locs ls hp hP hD hS (lv_sub hl [0, 2, 3] rfl)
  · have hp := hp.2 hc
    refine lv_aload_n hx hb aQO.1 rfl (lv_at hl 0 rfl) ?_
    have hm := mgk (wc := (aVg cI cC cZ cB cJ a_m nY sJ eG iY lY jR jW jZ jO oQ bR aY jQ gY iJ mQ lJ jA bG mK jB mW mJ eJ dG bT aG jC bL bY jD mLn oF rP dQ aJ aB bW bZ aR aE bI aW bU fJ dO bM bQ bO jY oX qO qQ)) hP mk_85 3 rfl rfl rfl
    refine yW hP hD hS hA (yS mk_85) (aAi mk_85) hm.1 hm.2 (aAk _) (zW _) (zF (As := []) (rest := []) C0 hP hD hS (yS mk_85) hm.1 (aAl _) 0 10 rfl rfl (c_X10_here l dC dI cI cC cZ cB cJ a_m nY sJ eG iY lY jR jW jZ jO oQ bR aY jQ gY iJ mQ lJ jA bG mK jB mW mJ eJ dG H.size bT aG jC bL bY jD mLn oF rP dQ aJ aB bW bZ aR aE bI aW bU fJ dO bM bQ bO jY oX qO qQ _ hp) q_658 q_661 q_659 q_660 aBL h_X10_here rfl rfl ⟨lbz rfl, lbz rfl⟩ rfl rfl hl.1 rfl (lv_room (lbz rfl)) aQO.2.1 ⟨Nat.zero_le _, Nat.zero_le _⟩) (fun r_3 u H locs hp hP hD hS => ?_)
    have hPD := PDm (ws' := (aG9 cI cC cZ cB cJ a_m nY sJ eG iY lY jR jW jZ jO oQ bR aY jQ gY iJ mQ lJ jA bG mK jB mW mJ eJ dG bT aG jC bL bY jD mLn oF rP dQ aJ aB bW bZ aR aE bI aW bU fJ dO bM bQ bO jY oX qO qQ)) hP hD 3 rfl rfl rfl
    have hP := hPD.1
    have hD := hPD.2
    refine lv_bipush (v := 48) hx hb aQO.2.2.1 bp_48 ?_
    refine lv_bipush (v := 57) hx hb aQO.2.2.2.1 bp_57 ?_
    have hm := mgk (wc := (aKW cI cC cZ cB cJ)) hP mk_20 3 rfl rfl rfl
    refine yW hP hD hS hA (yS mk_20) (aAi mk_20) hm.1 hm.2 (aAk _) (zW _) (aDn (As := [.int r_3, .int 48, .int 57]) (rest := []) C0 hP hD hS (yS mk_20) hm.1 (aAl _) (aRu l dC dI cI cC cZ cB cJ H.size r_3 48 57 _ hp) q_641 q_644 q_643 aBL aRx rfl rfl ⟨lbz rfl, lbz rfl⟩ rfl rfl hl.1 rfl (lv_room (lbz rfl)) aQO.2.2.2.2.1 ⟨Nat.zero_le _, Nat.zero_le _⟩) (fun r_4 u H locs hp hP hD hS => ?_)
    have hPD := PDm (ws' := (aG9 cI cC cZ cB cJ a_m nY sJ eG iY lY jR jW jZ jO oQ bR aY jQ gY iJ mQ lJ jA bG mK jB mW mJ eJ dG bT aG jC bL bY jD mLn oF rP dQ aJ aB bW bZ aR aE bI aW bU fJ dO bM bQ bO jY oX qO qQ)) hP hD 3 rfl rfl rfl
    have hP := hPD.1
    have hD := hPD.2
    refine lv_if_eq (tgt := 66) hx hb aQO.2.2.2.2.2.1 (by decide) (fun hc => ?_) (fun hc => ?_)
    · have hp := hp.1 hc
      exact ks_X10_number_66 C0 x2 x3 rP dQ H locs ls hp hP hD hS (lv_sub hl [0, 2, 3] rfl)
    · have hp := hp.2 hc
      refine lv_bipush (v := 10) hx hb aQO.2.2.2.2.2.2.1 bp_10 ?_
      refine lv_iload_n hx hb aQO.2.2.2.2.2.2.2.1 rfl (lv_at hl 3 rfl) ?_
      refine lv_imul hx hb aQO.2.2.2.2.2.2.2.2.1 ?_
      refine lv_topi (fun v_5 aJD => ?_)
      have hp := hp v_5 aJD
      refine lv_aload_n hx hb aQO.2.2.2.2.2.2.2.2.2.1 rfl (lv_at hl 0 rfl) ?_
      have hm := mgk (wc := (aVg cI cC cZ cB cJ a_m nY sJ eG iY lY jR jW jZ jO oQ bR aY jQ gY iJ mQ lJ jA bG mK jB mW mJ eJ dG bT aG jC bL bY jD mLn oF rP dQ aJ aB bW bZ aR aE bI aW bU fJ dO bM bQ bO jY oX qO qQ)) hP mk_85 3 rfl rfl rfl
      refine yW hP hD hS hA (yS mk_85) (aAi mk_85) hm.1 hm.2 (aAk _) (zW _) (zF (As := []) (rest := [.int v_5]) C0 hP hD hS (yS mk_85) hm.1 (aAl _) 0 10 rfl rfl (c_X10_here l dC dI cI cC cZ cB cJ a_m nY sJ eG iY lY jR jW jZ jO oQ bR aY jQ gY iJ mQ lJ jA bG mK jB mW mJ eJ dG H.size bT aG jC bL bY jD mLn oF rP dQ aJ aB bW bZ aR aE bI aW bU fJ dO bM bQ bO jY oX qO qQ _ hp) q_658 q_661 q_659 q_660 aBL h_X10_here rfl rfl ⟨lbz rfl, lbz rfl⟩ rfl rfl hl.1 rfl (lv_room (lbz rfl)) aQO.2.2.2.2.2.2.2.2.2.2.1 ⟨Nat.zero_le _, Nat.zero_le _⟩) (fun r_6 u H locs hp hP hD hS => ?_)
      have hPD := PDm (ws' := (aG9 cI cC cZ cB cJ a_m nY sJ eG iY lY jR jW jZ jO oQ bR aY jQ gY iJ mQ lJ jA bG mK jB mW mJ eJ dG bT aG jC bL bY jD mLn oF rP dQ aJ aB bW bZ aR aE bI aW bU fJ dO bM bQ bO jY oX qO qQ)) hP hD 3 rfl rfl rfl
      have hP := hPD.1
      have hD := hPD.2
      refine lv_iadd hx hb aQO.2.2.2.2.2.2.2.2.2.2.2.1 ?_
      refine lv_topi (fun v_7 ev_7 => ?_)
      have hp := hp v_7 ev_7
      refine lv_bipush (v := 48) hx hb aQO.2.2.2.2.2.2.2.2.2.2.2.2.1 bp_48 ?_
      refine lv_isub hx hb aQO.2.2.2.2.2.2.2.2.2.2.2.2.2.1 ?_
      refine lv_topi (fun v_8 ev_8 => ?_)
      have hp := hp v_8 ev_8
      refine lv_istore_n (lv' := [(3, .int v_8), (0, .ref a_m), (1, .int x1), (2, .int x2)]) hx hb aQO.2.2.2.2.2.2.2.2.2.2.2.2.2.2.1 rfl hl (by decide) rfl (fun ls hl => ?_)
      refine lv_aload_n hx hb aQO.2.2.2.2.2.2.2.2.2.2.2.2.2.2.2 rfl (lv_at hl 1 rfl) ?_
      refine lv_dup hx hb aNA.1 rfl ?_
      refine va_get (D := (dC, dI)) (ci := 10) (v := .int rP) (C := zX) (T := aBe) (N := 51) hx hb hts aAt hown hK hP 0 rfl rfl 18 (lbz rfl) (hts _ q_648) (fun _ h9 => h9) rfl aNA.2.1 ?_
      refine lv_iconst (v := 1) hx hb aNA.2.2.1 aDx ?_
      refine lv_iadd hx hb aNA.2.2.2.1 ?_
      refine lv_topi (fun v_9 ev_9 => ?_)
      have hp := hp v_9 ev_9
      refine va_put (D := (dC, dI)) (ci := 10) (v := .int v_9) (ty := .int) (C := zX) (T := aBe) (N := 51) hx hb hts aAt aD2 aAa aEC hown hK hP hD hS 0 rfl rfl 18 (lbz rfl) (hts _ q_648) (fun _ h9 => h9) rfl (aAa 18 (lbz rfl)) rfl rfl (lbz rfl) aNA.2.2.2.2.1 (fun H locs hP hD hS => ?_)
      have hPD := PDw (ws' := (aG9 cI cC cZ cB cJ a_m nY sJ eG iY lY jR jW jZ jO oQ bR aY jQ gY iJ mQ lJ jA bG mK jB mW mJ eJ dG bT aG jC bL bY jD mLn oF v_9 dQ aJ aB bW bZ aR aE bI aW bU fJ dO bM bQ bO jY oX qO qQ)) hP hD rfl
      have hP := hPD.1
      have hD := hPD.2
      refine lv_goto (tgt := 16) hx hb aNA.2.2.2.2.2.1 (by decide) ?_
      exact hKn x1 x2 v_8 v_9 dQ H locs ls hp hP hD hS (lv_sub hl [1, 2, 3, 0] rfl)
set_option maxHeartbeats 4000000 in
set_option maxRecDepth 100000 in
theorem kb_X10_number_16 (C0 : gc aEF (some .int) 4 zX (dC, dI) (tyl cI cC cZ cB cJ) A p s m args meth c) : ∀ (n : Nat), ∀ (x1 x2 x3 rP dQ : Int32) (H : Heap) (locs : List Loc) (ls : Array Slot), (wb_X10_number_16 post jD mLn oF qO qQ n) x1 x2 x3 rP dQ -> va_P (dC, dI) classes (aG9 cI cC cZ cB cJ a_m nY sJ eG iY lY jR jW jZ jO oQ bR aY jQ gY iJ mQ lJ jA bG mK jB mW mJ eJ dG bT aG jC bL bY jD mLn oF rP dQ aJ aB bW bZ aR aE bI aW bU fJ dO bM bQ bO jY oX qO qQ) H -> va_D A (aG9 cI cC cZ cB cJ a_m nY sJ eG iY lY jR jW jZ jO oQ bR aY jQ gY iJ mQ lJ jA bG mK jB mW mJ eJ dG bT aG jC bL bY jD mLn oF rP dQ aJ aB bW bZ aR aE bI aW bU fJ dO bM bQ bO jY oX qO qQ) -> va_S A s.heap H locs -> lv_has ls 4 [(0, .ref a_m), (1, .int x1), (2, .int x2), (3, .int x3)] -> W p l e rm_X10_number s m args below meth c H locs 0 0 (MQ below (q_X10_number dC dI cI cC cZ cB cJ A a_m nY sJ eG iY lY jR jW jZ jO oQ bR aY jQ gY iJ mQ lJ jA bG mK jB mW mJ eJ dG bT aG jC bL bY jD mLn oF aJ aB bW bZ aR aE bI aW bU fJ dO bM bQ bO jY oX qO qQ post) args s 0 0 A) (F0 m 16 ls []) := by
  intro n
  induction n with
  | zero =>
    intro x1 x2 x3 rP dQ H locs ls hp
    exact False.elim hp
  | succ n ih =>
    intro x1 x2 x3 rP dQ H locs ls hp
    exact ks_X10_number_16 C0 ih x1 x2 x3 rP dQ H locs ls hp
end S_X10_number
def aOj (post : Int32 -> Int32 -> Int32 -> Prop) (p0 : Int32) (jD : Nat) (mLn oF rP dQ : Int32) (qO qQ : Nat -> Int32) : Prop := aRX (fun r_1 => (¬ r_1 = 0 -> ∃ n : Nat, wb_X10_number_16 post jD mLn oF qO qQ n p0 rP 0 rP dQ) /\ (r_1 = 0 -> post 0 rP dQ)) dQ
set_option maxHeartbeats 4000000 in
set_option maxRecDepth 100000 in
theorem c_X10_number (l : Launch) (dC : Nat -> ClassId) (dI : Nat -> Nat -> Nat) (cI cC cZ cB cJ : ClassId) (a_m nY sJ eG iY lY jR jW jZ jO oQ bR aY jQ gY iJ mQ lJ jA bG mK jB mW mJ eJ dG sz : Nat) (p0 bT aG jC bL bY : Int32) (jD : Nat) (mLn oF rP dQ aJ aB bW bZ aR aE bI aW bU fJ dO bM bQ bO jY oX : Int32) (qO qQ : Nat -> Int32) (post : Int32 -> Int32 -> Int32 -> Prop) (hw : aOj post p0 jD mLn oF rP dQ qO qQ) : Met l yX10_number (gw yX10_number aEF 4 (some .int)) rm_X10_number (va_Pc [.ref a_m, .int p0] (gPre (dC, dI) (tyl cI cC cZ cB cJ) (aG9 cI cC cZ cB cJ a_m nY sJ eG iY lY jR jW jZ jO oQ bR aY jQ gY iJ mQ lJ jA bG mK jB mW mJ eJ dG bT aG jC bL bY jD mLn oF rP dQ aJ aB bW bZ aR aE bI aW bU fJ dO bM bQ bO jY oX qO qQ) sz)) (q_X10_number dC dI cI cC cZ cB cJ (va_A (aG9 cI cC cZ cB cJ a_m nY sJ eG iY lY jR jW jZ jO oQ bR aY jQ gY iJ mQ lJ jA bG mK jB mW mJ eJ dG bT aG jC bL bY jD mLn oF rP dQ aJ aB bW bZ aR aE bI aW bU fJ dO bM bQ bO jY oX qO qQ) sz) a_m nY sJ eG iY lY jR jW jZ jO oQ bR aY jQ gY iJ mQ lJ jA bG mK jB mW mJ eJ dG bT aG jC bL bY jD mLn oF aJ aB bW bZ aR aE bI aW bU fJ dO bM bQ bO jY oX qO qQ post) 0 0 (va_A (aG9 cI cC cZ cB cJ a_m nY sJ eG iY lY jR jW jZ jO oQ bR aY jQ gY iJ mQ lJ jA bG mK jB mW mJ eJ dG bT aG jC bL bY jD mLn oF rP dQ aJ aB bW bZ aR aE bI aW bU fJ dO bM bQ bO jY oX qO qQ) sz) := by
  refine aBJ (own := zX) (dC, dI) (tyl cI cC cZ cB cJ) (aG9 cI cC cZ cB cJ a_m nY sJ eG iY lY jR jW jZ jO oQ bR aY jQ gY iJ mQ lJ jA bG mK jB mW mJ eJ dG bT aG jC bL bY jD mLn oF rP dQ aJ aB bW bZ aR aE bI aW bU fJ dO bM bQ bO jY oX qO qQ) sz [.ref a_m, .int p0] (fun A => q_X10_number dC dI cI cC cZ cB cJ A a_m nY sJ eG iY lY jR jW jZ jO oQ bR aY jQ gY iJ mQ lJ jA bG mK jB mW mJ eJ dG bT aG jC bL bY jD mLn oF aJ aB bW bZ aR aE bI aW bU fJ dO bM bQ bO jY oX qO qQ post) aFY rfl (lbz rfl) ?_
  intro p e s m args below meth c A H locs ls C0 hP hD hS hl
  have hl : lv_has ls 4 [(0, .ref a_m), (1, .int p0)] := hl
  obtain ⟨hx, hb, hr, hml, hown, hts, hlocks, hA, hK, hN, tL, tM, hZL, hTL, hZM, hTM, hZX⟩ := id C0
  have hp := hw
  unfold aOj at hp
  refine lv_aload_n hx hb aTA.1 rfl (lv_at hl 0 rfl) ?_
  have hm := mgk (wc := (aVf cI cC cZ cB cJ a_m nY sJ eG iY lY jR jW jZ jO oQ bR aY jQ gY iJ mQ lJ jA bG mK jB mW mJ eJ dG bT aG jC bL bY jD mLn oF rP dQ aJ aB bW bZ aR aE bI aW bU fJ dO bM bQ bO jY oX)) hP mk_198 3 rfl rfl rfl
  refine yW hP hD hS hA (yS mk_198) (aAi mk_198) hm.1 hm.2 (aAk _) (zW _) (zF (As := []) (rest := []) C0 hP hD hS (yS mk_198) hm.1 (aAl _) 0 10 rfl rfl (c_X10_fine l dC dI cI cC cZ cB cJ a_m nY sJ eG iY lY jR jW jZ jO oQ bR aY jQ gY iJ mQ lJ jA bG mK jB mW mJ eJ dG H.size bT aG jC bL bY jD mLn oF rP dQ aJ aB bW bZ aR aE bI aW bU fJ dO bM bQ bO jY oX _ hp) q_650 q_653 q_651 q_652 aBL h_X10_fine rfl rfl ⟨lbz rfl, lbz rfl⟩ rfl rfl hl.1 rfl (lv_room (lbz rfl)) aTA.2.1 ⟨Nat.zero_le _, Nat.zero_le _⟩) (fun r_1 u H locs hp hP hD hS => ?_)
  have hPD := PDm (ws' := (aG9 cI cC cZ cB cJ a_m nY sJ eG iY lY jR jW jZ jO oQ bR aY jQ gY iJ mQ lJ jA bG mK jB mW mJ eJ dG bT aG jC bL bY jD mLn oF rP dQ aJ aB bW bZ aR aE bI aW bU fJ dO bM bQ bO jY oX qO qQ)) hP hD 3 rfl rfl rfl
  have hP := hPD.1
  have hD := hPD.2
  refine lv_if_ne (tgt := 9) hx hb aTA.2.2.1 (by decide) (fun hc => ?_) (fun hc => ?_)
  · have hp := hp.1 hc
    refine lv_aload_n hx hb aTA.2.2.2.2.2.1 rfl (lv_at hl 0 rfl) ?_
    refine va_get (D := (dC, dI)) (ci := 10) (v := .int rP) (C := zX) (T := aBe) (N := 51) hx hb hts aAt hown hK hP 0 rfl rfl 18 (lbz rfl) (hts _ q_648) (fun _ h9 => h9) rfl aTA.2.2.2.2.2.2.1 ?_
    refine lv_istore_n (lv' := [(2, .int rP), (0, .ref a_m), (1, .int p0)]) hx hb aTA.2.2.2.2.2.2.2.1 rfl hl (by decide) rfl (fun ls hl => ?_)
    refine lv_iconst (v := 0) hx hb aTA.2.2.2.2.2.2.2.2.1 aCi ?_
    refine lv_istore_n (lv' := [(3, .int 0), (2, .int rP), (0, .ref a_m), (1, .int p0)]) hx hb aTA.2.2.2.2.2.2.2.2.2.1 rfl hl (by decide) rfl (fun ls hl => ?_)
    obtain ⟨n9, hp⟩ := hp
    exact kb_X10_number_16 C0 n9 p0 rP 0 rP dQ H locs ls hp hP hD hS (lv_sub hl [2, 3, 1, 0] rfl)
  · have hp := hp.2 hc
    refine lv_iconst (v := 0) hx hb aTA.2.2.2.1 aCi ?_
    exact W.iret (v := 0) hx hb hr (fun t ht hW => ⟨⟨0, (rP, dQ), rfl, hp, by rw [ht]; exact hP, va_K.moved hW.alike hK, hD⟩, hS.F ht⟩) hS.2.2 aTA.2.2.2.2.1
abbrev aOh (cI cC cZ cB cJ : ClassId) (a_m nY sJ eG iY lY jR jW jZ jO oQ bR aY jQ gY iJ mQ lJ jA bG mK jB mW mJ eJ dG : Nat) (bT aG jC bL bY : Int32) (jD : Nat) (mLn oF rP dQ aJ aB bW bZ aR aE bI aW bU fJ dO bM bQ bO jY oX : Int32) (qO qQ : Nat -> Int32) : va_W := [(a_m, .inr (10, [.ref nY, .int bT, .ref sJ, .ref eG, .ref iY, .ref lY, .int aG, .ref jR, .ref jW, .ref jZ, .ref jO, .int jC, .ref oQ, .int bL, .int bY, rdv jO jQ jD, .int mLn, .int oF, .int rP, .int dQ, .ref bR, .ref aY, .int aJ, .int aB, .ref jQ, .int bW, .int bZ, .int aR, .int aE, .int bI, .int aW, .ref gY, .int bU, .ref iJ, .ref mQ, .int fJ, .ref lJ, .int dO, .ref jA, .ref bG, .int bM, .int bQ, .int bO, .ref mK, .ref jB, .ref mW, .int jY, .int oX, .ref mJ, .ref eJ, .ref dG])), (jO, .inl (cB, 80, .inl qO)), (jQ, .inl (cB, 40, .inl qQ))]
abbrev q_X10_passes (dC : Nat -> ClassId) (dI : Nat -> Nat -> Nat) (cI cC cZ cB cJ : ClassId) (A : Nat -> Prop) (a_m nY sJ eG iY lY jR jW jZ jO oQ bR aY jQ gY iJ mQ lJ jA bG mK jB mW mJ eJ dG : Nat) (bT aG jC bL bY : Int32) (jD : Nat) (mLn oF dQ aJ aB bW bZ aR aE bI aW bU fJ dO bM bQ bO jY oX : Int32) (qO qQ : Nat -> Int32) (post : Int32 -> Int32 -> Prop) : Array Value -> State -> Outcome -> State -> Prop := va_Qi (fun (r u : Int32) => post r u) (fun u t => gB (dC, dI) (tyl cI cC cZ cB cJ) A (aOh cI cC cZ cB cJ a_m nY sJ eG iY lY jR jW jZ jO oQ bR aY jQ gY iJ mQ lJ jA bG mK jB mW mJ eJ dG bT aG jC bL bY jD mLn oF u dQ aJ aB bW bZ aR aE bI aW bU fJ dO bM bQ bO jY oX qO qQ) t) A
abbrev rm_X10_passes : Room := { frames := 1, cells := 0, slots := 0, locals := 20 }
def aPM (post : Int32 -> Int32 -> Prop) (p0 : Int32) (jD : Nat) (mLn oF rP dQ : Int32) (qO qQ : Nat -> Int32) : Prop := aRX (fun r_1 => (r_1 = 0 -> post 0 rP) /\ (¬ r_1 = 0 -> aPe (fun r_2 => (r_2 = p0 -> ∀ v_3 : Int32, v_3 = rP + 1 -> post 1 v_3) /\ (¬ r_2 = p0 -> post 0 rP)) jD mLn oF rP qO qQ)) dQ
set_option maxHeartbeats 4000000 in
set_option maxRecDepth 100000 in
theorem c_X10_passes (l : Launch) (dC : Nat -> ClassId) (dI : Nat -> Nat -> Nat) (cI cC cZ cB cJ : ClassId) (a_m nY sJ eG iY lY jR jW jZ jO oQ bR aY jQ gY iJ mQ lJ jA bG mK jB mW mJ eJ dG sz : Nat) (p0 bT aG jC bL bY : Int32) (jD : Nat) (mLn oF rP dQ aJ aB bW bZ aR aE bI aW bU fJ dO bM bQ bO jY oX : Int32) (qO qQ : Nat -> Int32) (post : Int32 -> Int32 -> Prop) (hw : aPM post p0 jD mLn oF rP dQ qO qQ) : Met l yX10_passes (gw yX10_passes aUj 2 (some .boolean)) rm_X10_passes (va_Pc [.ref a_m, .int p0] (gPre (dC, dI) (tyl cI cC cZ cB cJ) (aOh cI cC cZ cB cJ a_m nY sJ eG iY lY jR jW jZ jO oQ bR aY jQ gY iJ mQ lJ jA bG mK jB mW mJ eJ dG bT aG jC bL bY jD mLn oF rP dQ aJ aB bW bZ aR aE bI aW bU fJ dO bM bQ bO jY oX qO qQ) sz)) (q_X10_passes dC dI cI cC cZ cB cJ (va_A (aOh cI cC cZ cB cJ a_m nY sJ eG iY lY jR jW jZ jO oQ bR aY jQ gY iJ mQ lJ jA bG mK jB mW mJ eJ dG bT aG jC bL bY jD mLn oF rP dQ aJ aB bW bZ aR aE bI aW bU fJ dO bM bQ bO jY oX qO qQ) sz) a_m nY sJ eG iY lY jR jW jZ jO oQ bR aY jQ gY iJ mQ lJ jA bG mK jB mW mJ eJ dG bT aG jC bL bY jD mLn oF dQ aJ aB bW bZ aR aE bI aW bU fJ dO bM bQ bO jY oX qO qQ post) 0 0 (va_A (aOh cI cC cZ cB cJ a_m nY sJ eG iY lY jR jW jZ jO oQ bR aY jQ gY iJ mQ lJ jA bG mK jB mW mJ eJ dG bT aG jC bL bY jD mLn oF rP dQ aJ aB bW bZ aR aE bI aW bU fJ dO bM bQ bO jY oX qO qQ) sz) := by
  refine aBJ (own := zX) (dC, dI) (tyl cI cC cZ cB cJ) (aOh cI cC cZ cB cJ a_m nY sJ eG iY lY jR jW jZ jO oQ bR aY jQ gY iJ mQ lJ jA bG mK jB mW mJ eJ dG bT aG jC bL bY jD mLn oF rP dQ aJ aB bW bZ aR aE bI aW bU fJ dO bM bQ bO jY oX qO qQ) sz [.ref a_m, .int p0] (fun A => q_X10_passes dC dI cI cC cZ cB cJ A a_m nY sJ eG iY lY jR jW jZ jO oQ bR aY jQ gY iJ mQ lJ jA bG mK jB mW mJ eJ dG bT aG jC bL bY jD mLn oF dQ aJ aB bW bZ aR aE bI aW bU fJ dO bM bQ bO jY oX qO qQ post) aFY rfl (lbz rfl) ?_
  intro p e s m args below meth c A H locs ls C0 hP hD hS hl
  have hl : lv_has ls 2 [(0, .ref a_m), (1, .int p0)] := hl
  obtain ⟨hx, hb, hr, hml, hown, hts, hlocks, hA, hK, hN, tL, tM, hZL, hTL, hZM, hTM, hZX⟩ := id C0
  have hp := hw
  unfold aPM at hp
  refine lv_aload_n hx hb aPJ.1 rfl (lv_at hl 0 rfl) ?_
  have hm := mgk (wc := (aVf cI cC cZ cB cJ a_m nY sJ eG iY lY jR jW jZ jO oQ bR aY jQ gY iJ mQ lJ jA bG mK jB mW mJ eJ dG bT aG jC bL bY jD mLn oF rP dQ aJ aB bW bZ aR aE bI aW bU fJ dO bM bQ bO jY oX)) hP mk_198 3 rfl rfl rfl
  refine yW hP hD hS hA (yS mk_198) (aAi mk_198) hm.1 hm.2 (aAk _) (zW _) (zF (As := []) (rest := []) C0 hP hD hS (yS mk_198) hm.1 (aAl _) 0 10 rfl rfl (c_X10_fine l dC dI cI cC cZ cB cJ a_m nY sJ eG iY lY jR jW jZ jO oQ bR aY jQ gY iJ mQ lJ jA bG mK jB mW mJ eJ dG H.size bT aG jC bL bY jD mLn oF rP dQ aJ aB bW bZ aR aE bI aW bU fJ dO bM bQ bO jY oX _ hp) q_650 q_653 q_651 q_652 aBL h_X10_fine rfl rfl ⟨lbz rfl, lbz rfl⟩ rfl rfl hl.1 rfl (lv_room (lbz rfl)) aPJ.2.1 ⟨Nat.zero_le _, Nat.zero_le _⟩) (fun r_1 u H locs hp hP hD hS => ?_)
  have hPD := PDm (ws' := (aOh cI cC cZ cB cJ a_m nY sJ eG iY lY jR jW jZ jO oQ bR aY jQ gY iJ mQ lJ jA bG mK jB mW mJ eJ dG bT aG jC bL bY jD mLn oF rP dQ aJ aB bW bZ aR aE bI aW bU fJ dO bM bQ bO jY oX qO qQ)) hP hD 3 rfl rfl rfl
  have hP := hPD.1
  have hD := hPD.2
  refine lv_if_eq (tgt := 15) hx hb aPJ.2.2.1 (by decide) (fun hc => ?_) (fun hc => ?_)
  · have hp := hp.1 hc
    refine lv_iconst (v := 0) hx hb aPJ.2.2.2.2.2.2.2.1 aCi ?_
    exact W.zret (v := 0) hx hb hr rfl (fun t ht hW => ⟨⟨0, rP, rfl, hp, by rw [ht]; exact hP, va_K.moved hW.alike hK, hD⟩, hS.F ht⟩) hS.2.2 aPJ.2.2.2.2.2.2.2.2.1
  · have hp := hp.2 hc
    refine lv_aload_n hx hb aPJ.2.2.2.1 rfl (lv_at hl 0 rfl) ?_
    have hm := mgk (wc := (aVg cI cC cZ cB cJ a_m nY sJ eG iY lY jR jW jZ jO oQ bR aY jQ gY iJ mQ lJ jA bG mK jB mW mJ eJ dG bT aG jC bL bY jD mLn oF rP dQ aJ aB bW bZ aR aE bI aW bU fJ dO bM bQ bO jY oX qO qQ)) hP mk_85 3 rfl rfl rfl
    refine yW hP hD hS hA (yS mk_85) (aAi mk_85) hm.1 hm.2 (aAk _) (zW _) (zF (As := []) (rest := []) C0 hP hD hS (yS mk_85) hm.1 (aAl _) 0 10 rfl rfl (c_X10_here l dC dI cI cC cZ cB cJ a_m nY sJ eG iY lY jR jW jZ jO oQ bR aY jQ gY iJ mQ lJ jA bG mK jB mW mJ eJ dG H.size bT aG jC bL bY jD mLn oF rP dQ aJ aB bW bZ aR aE bI aW bU fJ dO bM bQ bO jY oX qO qQ _ hp) q_658 q_661 q_659 q_660 aBL h_X10_here rfl rfl ⟨lbz rfl, lbz rfl⟩ rfl rfl hl.1 rfl (lv_room (lbz rfl)) aPJ.2.2.2.2.1 ⟨Nat.zero_le _, Nat.zero_le _⟩) (fun r_2 u H locs hp hP hD hS => ?_)
    have hPD := PDm (ws' := (aOh cI cC cZ cB cJ a_m nY sJ eG iY lY jR jW jZ jO oQ bR aY jQ gY iJ mQ lJ jA bG mK jB mW mJ eJ dG bT aG jC bL bY jD mLn oF rP dQ aJ aB bW bZ aR aE bI aW bU fJ dO bM bQ bO jY oX qO qQ)) hP hD 3 rfl rfl rfl
    have hP := hPD.1
    have hD := hPD.2
    refine lv_iload_n hx hb aPJ.2.2.2.2.2.1 rfl (lv_at hl 1 rfl) ?_
    refine lv_icmp_eq (tgt := 17) hx hb aPJ.2.2.2.2.2.2.1 (by decide) (fun hc => ?_) (fun hc => ?_)
    · have hp := hp.1 hc
      refine lv_aload_n hx hb aPJ.2.2.2.2.2.2.2.2.2.1 rfl (lv_at hl 0 rfl) ?_
      refine lv_dup hx hb aPJ.2.2.2.2.2.2.2.2.2.2.1 rfl ?_
      refine va_get (D := (dC, dI)) (ci := 10) (v := .int rP) (C := zX) (T := aBe) (N := 51) hx hb hts aAt hown hK hP 0 rfl rfl 18 (lbz rfl) (hts _ q_648) (fun _ h9 => h9) rfl aPJ.2.2.2.2.2.2.2.2.2.2.2.1 ?_
      refine lv_iconst (v := 1) hx hb aPJ.2.2.2.2.2.2.2.2.2.2.2.2.1 aDx ?_
      refine lv_iadd hx hb aPJ.2.2.2.2.2.2.2.2.2.2.2.2.2.1 ?_
      refine lv_topi (fun v_3 aGW => ?_)
      have hp := hp v_3 aGW
      refine va_put (D := (dC, dI)) (ci := 10) (v := .int v_3) (ty := .int) (C := zX) (T := aBe) (N := 51) hx hb hts aAt aD2 aAa aEC hown hK hP hD hS 0 rfl rfl 18 (lbz rfl) (hts _ q_648) (fun _ h9 => h9) rfl (aAa 18 (lbz rfl)) rfl rfl (lbz rfl) aPJ.2.2.2.2.2.2.2.2.2.2.2.2.2.2.1 (fun H locs hP hD hS => ?_)
      have hPD := PDw (ws' := (aOh cI cC cZ cB cJ a_m nY sJ eG iY lY jR jW jZ jO oQ bR aY jQ gY iJ mQ lJ jA bG mK jB mW mJ eJ dG bT aG jC bL bY jD mLn oF v_3 dQ aJ aB bW bZ aR aE bI aW bU fJ dO bM bQ bO jY oX qO qQ)) hP hD rfl
      have hP := hPD.1
      have hD := hPD.2
      refine lv_iconst (v := 1) hx hb aPJ.2.2.2.2.2.2.2.2.2.2.2.2.2.2.2 aDx ?_
      exact W.zret (v := 1) hx hb hr rfl (fun t ht hW => ⟨⟨1, v_3, rfl, hp, by rw [ht]; exact hP, va_K.moved hW.alike hK, hD⟩, hS.F ht⟩) hS.2.2 dX10_passes_28
    · have hp := hp.2 hc
      refine lv_iconst (v := 0) hx hb aPJ.2.2.2.2.2.2.2.1 aCi ?_
      exact W.zret (v := 0) hx hb hr rfl (fun t ht hW => ⟨⟨0, rP, rfl, hp, by rw [ht]; exact hP, va_K.moved hW.alike hK, hD⟩, hS.F ht⟩) hS.2.2 aPJ.2.2.2.2.2.2.2.2.1
