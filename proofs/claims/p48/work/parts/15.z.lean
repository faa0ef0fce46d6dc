/-! questions of the moment: hands, worth -/
theorem itr_inv {α : Type} (R : Nat -> α -> Prop) {f : Int32 -> α -> α} {a : α} {i : Nat} (h0 : R 0 a) (n : Nat) (hs : ∀ (k : Nat) (s : α), k < n -> R k s -> R (k + 1) (f (nI (i + k)) s)) : R n (itr f a i n) :=
  itr_rel (i := i) (f := f) (g := f) (a := a) (b := a) (fun k s _ => R k s) h0 n (fun k s _ hk h => hs k s hk h)
theorem has0 (x : Int32) {f : Int32} (hf : 0 <= f.toInt /\ f.toInt < 32) : F_X10_has x f = 0 ↔ ((x >>> (f &&& 31)) &&& 1) = 0 := by
  rw [hs_10 x hf, hs_i x hf]
  cases bt x f.toInt.toNat
  · exact ⟨fun _ => rfl, fun _ => if_neg (by decide)⟩
  · rw [if_pos rfl]
    exact ⟨fun h => absurd h n10, fun h => absurd h (by decide)⟩
theorem rb_eq {sd : Int32} {near hand : Nat -> Int32} (bd : 0 <= sd.toInt /\ sd.toInt <= 8) (hn : ∀ k : Nat, (k : Int) < sd.toInt -> near k = hand k) (S : Int32) : F_X5_reachedBy S near sd = F_X10_handOf S sd hand := by
  rw [F_X5_reachedBy, F_X10_handOf, ex_X5_reachedBy_4, ex_X10_handOf_4]
  refine itr_cg _ (fun k s hk => ?_)
  have i := nI_0c (k := k) (by omega)
  have h := has0 S (f := nI (0 + k)) (by omega)
  rw [bd_X5_reachedBy_4, bd_X10_handOf_4]
  by_cases c : ((S >>> (nI (0 + k) &&& 31)) &&& 1) = 0
  · rw [if_pos c, if_pos (h.mpr c), j_X5_reachedBy_32, j_X10_handOf_31, or0]
  · rw [if_neg c, if_neg (fun e => c (h.mp e)), j_X5_reachedBy_32, j_X10_handOf_31, hn _ (by rw [i.1]; omega)]
theorem wo_eq {fr : Int32} {w mw : Nat -> Int32} (bf : 0 <= fr.toInt /\ fr.toInt <= 16) (hw : ∀ k : Nat, (k : Int) < fr.toInt -> w k = mw k) (S B : Int32) : F_X3_worthOf S B fr w = F_X10_worthOfAll S B fr mw := by
  rw [F_X3_worthOf, F_X10_worthOfAll, ex_X3_worthOf_5, ex_X10_worthOfAll_5]
  refine itr_cg _ (fun k s hk => ?_)
  have i := nI_0c (k := k) (by omega)
  have h := has0 S (f := nI (0 + k)) (by omega)
  have h2 := has0 B (f := nI (0 + k)) (by omega)
  have e := hw _ (show ((nI (0 + k)).toNatClampNeg : Int) < fr.toInt by rw [i.1]; omega)
  rw [bd_X3_worthOf_5, bd_X10_worthOfAll_5]
  by_cases c : ((S >>> (nI (0 + k) &&& 31)) &&& 1) = 0
  · rw [if_pos c, if_pos (h.mpr c), j_X3_worthOf_54, j_X10_worthOfAll_35]
    exact (Int32.add_zero _).symm
  · rw [if_neg c, if_neg (fun e => c (h.mp e)), F_X10_worthOf]
    by_cases c2 : ((B >>> (nI (0 + k) &&& 31)) &&& 1) = 0
    · rw [if_pos c2, if_pos (h2.mpr c2), j_X3_worthOf_52, j_X3_worthOf_54, j_X10_worthOfAll_35, e]
    · rw [if_neg c2, if_neg (fun e => c2 (h2.mp e)), j_X3_worthOf_52, j_X3_worthOf_54, j_X10_worthOfAll_35, e]
theorem up_itr {f : Int32 -> (Nat -> Int32) -> (Nat -> Int32)} {v a : Nat -> Int32} (n : Nat) (hn : n <= 2000) (hf : ∀ (k : Nat) (s : Nat -> Int32), k < n -> f (nI (0 + k)) s = upd s k (v k)) : ∀ j : Nat, j < n -> itr f a 0 n j = v j := by
  have key : ∀ k : Nat, k <= n -> ∀ j : Nat, j < k -> itr f a 0 k j = v j := by
    intro k
    induction k with
    | zero => intro _ j hj; exact absurd hj (by omega)
    | succ k ih =>
      intro hk j hj
      rw [itr_s, hf k _ (by omega)]
      by_cases e : j = k
      · rw [e, upd_i]
      · rw [aGi _ _ e]; exact ih (by omega) j (by omega)
  exact key n (Nat.le_refl n)
section QB
variable {fr sd ap ba gr br la he td cl : Int32} {x h w r ft fk mx mh mw mr mf mk st told now : Nat -> Int32}
/-- what both hold of the hands -/
theorem look_eq (T : TR fr sd x h w r ft fk mx mh mw mr mf mk) (hst2 : ∀ k : Nat, k < 5 -> st k = told k) (hm : MR fr sd ap ba gr br la he td now) (a : Int32) {pw mwd : Int32} {pn hand : Nat -> Int32} : (F_X5_lookAs a td pw pn fr sd x h r ft fk st ap ba gr).1 = (F_X10_layHands_ a fr sd mwd now mx mh mr mf mk told hand).1 /\ ∀ k : Nat, (k : Int) < sd.toInt -> (F_X5_lookAs a td pw pn fr sd x h r ft fk st ap ba gr).2 k = (F_X10_layHands_ a fr sd mwd now mx mh mr mf mk told hand).2 k := by
  have bf := T.2.2.1
  have bd := T.2.2.2.1
  have z : (Int32.toInt sd - ((0 : Nat) : Int)).toNat = sd.toInt.toNat := by omega
  have h1 := up_itr (f := bd_X5_lookAs_13 fr sd x h r ft fk st ap ba gr td (F_X3_reach a 0 st) pw) (v := fun k => F_X3_within (nI (0 + k)) (F_X3_reach a 0 st) fr x h ft fk) (a := pn) (Int32.toInt sd - ((0 : Nat) : Int)).toNat (by omega) (fun k s hk => by
    have i := nI_0c (k := k) (by omega)
    rw [bd_X5_lookAs_13, i.1])
  have h2 := up_itr (f := bd_X10_layHands__2 fr sd now mx mh mr mf mk told a mwd) (v := fun k => aLM (nI (0 + k)) a 0 fr mx mh mf mk told) (a := hand) (Int32.toInt sd - ((0 : Nat) : Int)).toNat (by omega) (fun k s hk => by
    have i := nI_0c (k := k) (by omega)
    rw [bd_X10_layHands__2, i.1])
  have key : ∀ k : Nat, (k : Int) < sd.toInt -> itr (bd_X5_lookAs_13 fr sd x h r ft fk st ap ba gr td (F_X3_reach a 0 st) pw) pn 0 (Int32.toInt sd - ((0 : Nat) : Int)).toNat k = itr (bd_X10_layHands__2 fr sd now mx mh mr mf mk told a mwd) hand 0 (Int32.toInt sd - ((0 : Nat) : Int)).toNat k := by
    intro k hk
    have i := nI_0c (k := k) (by omega)
    rw [h1 k (by omega), h2 k (by omega)]
    exact wi_eq T hst2 a 0 (by omega)
  rw [F_X5_lookAs, F_X10_layHands_, ex_X5_lookAs_13, ex_X10_layHands__2]
  refine ⟨?_, key⟩
  show aVS fr ap ba gr &&& F_X3_ripeBy td fr r &&& F_X5_reachedBy (F_X3_allStandings sd) _ sd = aUf 0 fr now &&& F_X10_ripeOnes (now (19 : Int32).toNatClampNeg) fr mr &&& F_X10_handOf (F_X10_allStandings sd) sd _
  rw [rb_eq bd key, rp_eq T, mo_hg hm.1.1 bf, c19, <- hm.1.2.2.2.2]
  rfl
theorem look_e (T : TR fr sd x h w r ft fk mx mh mw mr mf mk) (hst2 : ∀ k : Nat, k < 5 -> st k = told k) (hm : MR fr sd ap ba gr br la he td now) {pw mwd : Int32} {pn hand : Nat -> Int32} : (F_X5_look pw pn fr sd x h r ft fk st ap ba gr he td).1 = (bBY fr sd mwd now mx mh mr mf mk told hand).1 /\ ∀ k : Nat, (k : Int) < sd.toInt -> (F_X5_look pw pn fr sd x h r ft fk st ap ba gr he td).2 k = (bBY fr sd mwd now mx mh mr mf mk told hand).2 k := by
  rw [F_X5_look, bBY, c18, <- hm.1.2.2.2.1]
  exact look_eq T hst2 hm he
theorem from_eq (T : TR fr sd x h w r ft fk mx mh mw mr mf mk) (hst2 : ∀ k : Nat, k < 5 -> st k = told k) (hm : MR fr sd ap ba gr br la he td now) {p k p' k' fr9 sd9 th : Int32} (hp : p' = p) (hk : k' = k) (e1 : fr9 = fr) (e2 : sd9 = sd) : F_X9_from p k fr9 sd9 x h ft fk st he = (F_X10_from p' k' fr sd th now mx mh mf mk told).1 := by
  subst hp hk e1 e2
  have bf := T.2.2.1
  have bd := T.2.2.2.1
  rw [F_X9_from, F_X10_from, yn_eq]
  rcases hfr (p := p') (fr := fr9) (by omega) with ⟨a, b, _⟩ | ⟨a, b, g⟩
  · rw [if_pos a, if_pos b]
  · rw [if_neg (neg1 a), if_neg (neg1 b)]
    rcases in01 k' 0 1 with ⟨q, _⟩ | ⟨q, _⟩
    · rw [if_pos q, if_pos q]
    · rw [if_neg (neg1 q), if_neg (neg1 q), ex_X9_from_42, ex_X10_from_29]
      refine itr_cg _ (fun k s hk => ?_)
      have i := nI_0c (k := k) (by omega)
      rw [bd_X9_from_42, bd_X10_from_29, iw_eq T _ g (by omega), rch_eq hst2, c18, <- hm.1.2.2.2.1, j_X9_from_77, j_X9_from_77, j_X10_from_69, j_X10_from_69, or0]
theorem never_eq (T : TR fr sd x h w r ft fk mx mh mw mr mf mk) (hst2 : ∀ k : Nat, k < 5 -> st k = told k) (hm : MR fr sd ap ba gr br la he td now) {fr9 sd9 th rs rm : Int32} {rn row : Nat -> Int32} (e1 : fr9 = fr) (e2 : sd9 = sd) : (F_X9_never fr9 sd9 x h w ft fk st ap ba gr br rs rn).1 = (F_X10_never fr sd rm th now mx mh mw mf mk told row).1 := by
  subst e1 e2
  have bf := T.2.2.1
  have bd := T.2.2.2.1
  rw [F_X9_never, F_X10_never, ex_X9_never_10, ex_X10_never_17, mo_hg hm.1.1 bf]
  refine itr_cg _ (fun k s hk => ?_)
  have i := nI_0c (k := k) (by omega)
  rw [bd_X9_never_10, bd_X10_never_17, wi_eq T hst2 1 1 (by omega)]
theorem and3 (a b c : Int32) : (a &&& b) &&& (a &&& c) = (a &&& b) &&& c := bt_ext (fun k _ => by
  rw [bt_and, bt_and, bt_and, bt_and, bt_and]
  cases bt a k <;> cases bt b k <;> cases bt c k <;> rfl)
theorem both_eq (T : TR fr sd x h w r ft fk mx mh mw mr mf mk) (hst2 : ∀ k : Nat, k < 5 -> st k = told k) (hm : MR fr sd ap ba gr br la he td now) {p k p' k' fr9 sd9 th rs rm pw mwd : Int32} {rn row pn hand : Nat -> Int32} (hp : p' = p) (hk : k' = k) (e1 : fr9 = fr) (e2 : sd9 = sd) : (F_X9_both p k pw pn fr9 sd9 x h r ft fk st ap ba gr he td rs rn).1 = (F_X10_both p' k' fr sd rm th mwd now mx mh mr mf mk told row hand).1 := by
  subst hp hk e1 e2
  have bd := T.2.2.2.1
  rw [F_X9_both, F_X10_both]
  rcases hst (p := p') (sd := sd9) (by omega) with ⟨a, b, _⟩ | ⟨a, b, g⟩
  · rw [if_pos a, if_pos b]
  · rw [if_neg (neg1 a), if_neg (neg1 b)]
    rcases hst (p := k') (sd := sd9) (by omega) with ⟨a2, b2, _⟩ | ⟨a2, b2, g2⟩
    · rw [if_pos a2, if_pos b2]
    · rw [if_neg (neg1 a2), if_neg (neg1 b2)]
      by_cases c : p' = k'
      · rw [if_pos c, if_pos c]
      · rw [if_neg c, if_neg c]
        obtain ⟨q1, q2⟩ := look_e T hst2 hm (pw := pw) (pn := pn) (mwd := mwd) (hand := hand)
        have c1 := cl_n p'
        have c2 := cl_n k'
        show F_X5_wantedFrom p' (F_X5_look pw pn fr9 sd9 x h r ft fk st ap ba gr he td).1 (F_X5_look pw pn fr9 sd9 x h r ft fk st ap ba gr he td).2 &&& F_X5_wantedFrom k' (F_X5_look pw pn fr9 sd9 x h r ft fk st ap ba gr he td).1 (F_X5_look pw pn fr9 sd9 x h r ft fk st ap ba gr he td).2 = (bBY fr9 sd9 mwd now mx mh mr mf mk told hand).1 &&& (bBY fr9 sd9 mwd now mx mh mr mf mk told hand).2 p'.toNatClampNeg &&& (bBY fr9 sd9 mwd now mx mh mr mf mk told hand).2 k'.toNatClampNeg
        rw [F_X5_wantedFrom, F_X5_wantedFrom, q1, q2 p'.toNatClampNeg (by omega), q2 k'.toNatClampNeg (by omega)]
        exact and3 _ _ _
end QB
/-! autumn -/
theorem n0_and (a : Int32) : a &&& ((0 : Int32) ^^^ (-1)) = a := bt_ext (fun k hk => by
  rw [bt_and, bt_not _ _ hk, bt_zero]; simp)
theorem an_or (a b c : Int32) : (a &&& (b ^^^ (-1))) &&& (c ^^^ (-1)) = a &&& ((b ||| c) ^^^ (-1)) := bt_ext (fun k hk => by
  rw [bt_and, bt_and, bt_not _ _ hk, bt_not _ _ hk, bt_and, bt_not _ _ hk, bt_or]
  cases bt a k <;> cases bt b k <;> cases bt c k <;> rfl)
theorem or_as (a b c : Int32) : (a ||| b) ||| c = a ||| (b ||| c) := bt_ext (fun k hk => by
  rw [bt_or, bt_or, bt_or, bt_or]
  cases bt a k <;> cases bt b k <;> cases bt c k <;> rfl)
section QJ
variable {fr sd ap ba gr br la he td cl : Int32} {x h w r ft fk mx mh mw mr mf mk st told now : Nat -> Int32}
theorem autumn_eq (T : TR fr sd x h w r ft fk mx mh mw mr mf mk) (hm : MR fr sd ap ba gr br la he td now) {p0 p1 p2 p0' p1' p2' fr9 th rs rm dr : Int32} {rn row : Nat -> Int32} (h0 : p0' = p0) (h1 : p1' = p1) (h2 : p2' = p2) (e1 : fr9 = fr) : (F_X9_autumn p0 p1 p2 fr9 w r ap ba gr br td rs rn).1 = (F_X10_autumn p0' p1' p2' fr rm th dr now mw mr row).1 := by
  subst h0 h1 h2 e1
  have bf := T.2.2.1
  have l0 : Int32.toInt (0 : Int32) = 0 := by decide
  have l1 : Int32.toInt (1 : Int32) = 1 := by decide
  have l10 : Int32.toInt (10 : Int32) = 10 := by decide
  have l30 : Int32.toInt (30 : Int32) = 30 := by decide
  rw [F_X9_autumn, F_X10_autumn]
  rcases in01 p1' 1 30 with ⟨q, g⟩ | ⟨q, g1, g2⟩
  · rw [if_pos q]
    by_cases c : p1' < 1
    · rw [if_pos c]
    · have d := mt (aAd _ _).mpr c
      have k : (30 : Int32) < p1' := (aAd _ _).mpr (by omega)
      rw [if_neg c, if_pos k]
  · have k1 : ¬ p1' < 1 := fun e => by have := (aAd _ _).mp e; omega
    have k2 : ¬ (30 : Int32) < p1' := fun e => by have := (aAd _ _).mp e; omega
    rw [if_neg (neg1 q), if_neg k1, if_neg k2]
    rcases in01 p2' 0 10 with ⟨q, g⟩ | ⟨q, g3, g4⟩
    · rw [if_pos q]
      by_cases c : p2' < 0
      · rw [if_pos c]
      · have d := mt (aAd _ _).mpr c
        have k : ¬ p2' <= 10 := fun e => by have := (aAO _ _).mp e; omega
        rw [if_neg c, if_neg k]
    · have k3 : ¬ p2' < 0 := fun e => by have := (aAd _ _).mp e; omega
      have k4 : p2' <= 10 := (aAO _ _).mpr (by omega)
      rw [if_neg (neg1 q), if_neg k3, if_pos k4, mo_hg hm.1.1 bf, ex_X9_autumn_47, ex_X10_autumn_55]
      obtain ⟨H, hH⟩ : ∃ H, H = aVS fr9 ap ba gr := ⟨_, rfl⟩
      rw [<- hH]
      have key := itr_rel (i := 1) (f := bd_X9_autumn_47 fr9 w r ap ba gr br td p1' p2' H rs rn) (g := bd_X10_autumn_55 fr9 now mw mr p1' p2' rm 0 row) (a := (p0', (0 : Int32), (0 : Int32), (-1 : Int32))) (b := (H, (0 : Int32), (0 : Int32), (-1 : Int32), p0')) (fun (_ : Nat) (s : Int32 × Int32 × Int32 × Int32) (t : Int32 × Int32 × Int32 × Int32 × Int32) => s.1 = t.2.2.2.2 /\ s.2.1 = t.2.1 /\ t.1 = H &&& (t.2.1 ^^^ (-1))) ⟨rfl, rfl, (n0_and H).symm⟩ (Int32.toInt p1' + 1 - ((1 : Nat) : Int)).toNat (fun k s t hk hR => by
        have hR : s.1 = t.2.2.2.2 /\ s.2.1 = t.2.1 /\ t.1 = H &&& (t.2.1 ^^^ (-1)) := hR
        obtain ⟨r1, r2, r3⟩ := hR
        have eR : F_X10_ripeOnes (if now (19 : Int32).toNatClampNeg + nI (1 + k) < 9 then now (19 : Int32).toNatClampNeg + nI (1 + k) else 9) fr9 mr = F_X3_ripeBy (if td + nI (1 + k) < 9 then td + nI (1 + k) else 9) fr9 r := by rw [rp_eq T, c19, <- hm.1.2.2.2.2]
        have key2 := itr_rel (i := 0) (f := bd_X9_autumn_91 fr9 w r ap ba gr br td p1' p2' H s.2.2.1 s.2.2.2 (nI (1 + k)) ((H &&& (s.2.1 ^^^ (-1))) &&& F_X3_ripeBy (if td + nI (1 + k) < 9 then td + nI (1 + k) else 9) fr9 r) rs rn) (g := bd_X10_autumn_91 fr9 now mw mr p1' p2' t.1 t.2.1 t.2.2.1 t.2.2.2.1 (nI (1 + k)) (t.1 &&& F_X10_ripeOnes (if now (19 : Int32).toNatClampNeg + nI (1 + k) < 9 then now (19 : Int32).toNatClampNeg + nI (1 + k) else 9) fr9 mr) rm 0 row) (a := (s.1, s.2.1, (0 : Int32))) (b := ((0 : Int32), t.2.2.2.2)) (fun (_ : Nat) (u : Int32 × Int32 × Int32) (v : Int32 × Int32) => u.1 = v.2 /\ u.2.1 = t.2.1 ||| v.1) ⟨r1, by show s.2.1 = t.2.1 ||| 0; rw [or0]; exact r2⟩ (Int32.toInt fr9 - ((0 : Nat) : Int)).toNat (fun j u v hj hQ => by
          have hQ : u.1 = v.2 /\ u.2.1 = t.2.1 ||| v.1 := hQ
          obtain ⟨u1, u2⟩ := hQ
          have i := nI_0c (k := j) (by omega)
          have hh := has0 ((H &&& (s.2.1 ^^^ (-1))) &&& F_X3_ripeBy (if td + nI (1 + k) < 9 then td + nI (1 + k) else 9) fr9 r) (f := nI (0 + j)) (by omega)
          show (bd_X9_autumn_91 fr9 w r ap ba gr br td p1' p2' H s.2.2.1 s.2.2.2 (nI (1 + k)) ((H &&& (s.2.1 ^^^ (-1))) &&& F_X3_ripeBy (if td + nI (1 + k) < 9 then td + nI (1 + k) else 9) fr9 r) rs rn (nI (0 + j)) u).1 = (bd_X10_autumn_91 fr9 now mw mr p1' p2' t.1 t.2.1 t.2.2.1 t.2.2.2.1 (nI (1 + k)) (t.1 &&& F_X10_ripeOnes (if now (19 : Int32).toNatClampNeg + nI (1 + k) < 9 then now (19 : Int32).toNatClampNeg + nI (1 + k) else 9) fr9 mr) rm 0 row (nI (0 + j)) v).2 /\ (bd_X9_autumn_91 fr9 w r ap ba gr br td p1' p2' H s.2.2.1 s.2.2.2 (nI (1 + k)) ((H &&& (s.2.1 ^^^ (-1))) &&& F_X3_ripeBy (if td + nI (1 + k) < 9 then td + nI (1 + k) else 9) fr9 r) rs rn (nI (0 + j)) u).2.1 = t.2.1 ||| (bd_X10_autumn_91 fr9 now mw mr p1' p2' t.1 t.2.1 t.2.2.1 t.2.2.2.1 (nI (1 + k)) (t.1 &&& F_X10_ripeOnes (if now (19 : Int32).toNatClampNeg + nI (1 + k) < 9 then now (19 : Int32).toNatClampNeg + nI (1 + k) else 9) fr9 mr) rm 0 row (nI (0 + j)) v).1
          rw [bd_X9_autumn_91, bd_X10_autumn_91, eR, r3, <- r2]
          obtain ⟨X, hX⟩ : ∃ X, X = (H &&& (s.2.1 ^^^ (-1))) &&& F_X3_ripeBy (if td + nI (1 + k) < 9 then td + nI (1 + k) else 9) fr9 r := ⟨_, rfl⟩
          rw [<- hX] at hh ⊢
          rw [<- r2] at u2
          by_cases c : ((X >>> (nI (0 + j) &&& 31)) &&& 1) = 0
          · rw [if_pos c, if_pos (hh.mpr c), j_X9_autumn_149, j_X10_autumn_129]
            exact ⟨u1, u2⟩
          · rw [if_neg c, if_neg (fun e => c (hh.mp e)), F_X10_draw, u1]
            by_cases c2 : p2' <= (((v.2 * 1103515245 + 12345).toUInt32 >>> ((16 : Int32).toUInt32 &&& Int32.toUInt32 31)).toInt32) - (((v.2 * 1103515245 + 12345).toUInt32 >>> ((16 : Int32).toUInt32 &&& Int32.toUInt32 31)).toInt32) / 10 * 10
            · rw [if_pos c2, if_pos c2, j_X9_autumn_149, j_X10_autumn_129]
              exact ⟨rfl, u2⟩
            · rw [if_neg c2, if_neg c2, j_X9_autumn_149, j_X10_autumn_129]
              refine ⟨rfl, ?_⟩
              show u.2.1 ||| (1 <<< (nI (0 + j) &&& 31)) = s.2.1 ||| (v.1 ||| (1 <<< (nI (0 + j) &&& 31)))
              rw [u2]
              exact or_as _ _ _)
        obtain ⟨m1, m2⟩ := key2
        show (bd_X9_autumn_47 fr9 w r ap ba gr br td p1' p2' H rs rn (nI (1 + k)) s).1 = (bd_X10_autumn_55 fr9 now mw mr p1' p2' rm 0 row (nI (1 + k)) t).2.2.2.2 /\ (bd_X9_autumn_47 fr9 w r ap ba gr br td p1' p2' H rs rn (nI (1 + k)) s).2.1 = (bd_X10_autumn_55 fr9 now mw mr p1' p2' rm 0 row (nI (1 + k)) t).2.1 /\ (bd_X10_autumn_55 fr9 now mw mr p1' p2' rm 0 row (nI (1 + k)) t).1 = H &&& ((bd_X10_autumn_55 fr9 now mw mr p1' p2' rm 0 row (nI (1 + k)) t).2.1 ^^^ (-1))
        rw [bd_X9_autumn_47, bd_X10_autumn_55, ex_X9_autumn_91, ex_X10_autumn_91]
        obtain ⟨U, hU⟩ : ∃ U, U = itr (bd_X9_autumn_91 fr9 w r ap ba gr br td p1' p2' H s.2.2.1 s.2.2.2 (nI (1 + k)) ((H &&& (s.2.1 ^^^ (-1))) &&& F_X3_ripeBy (if td + nI (1 + k) < 9 then td + nI (1 + k) else 9) fr9 r) rs rn) (s.1, s.2.1, (0 : Int32)) 0 (Int32.toInt fr9 - ((0 : Nat) : Int)).toNat := ⟨_, rfl⟩
        obtain ⟨V, hV⟩ : ∃ V, V = itr (bd_X10_autumn_91 fr9 now mw mr p1' p2' t.1 t.2.1 t.2.2.1 t.2.2.2.1 (nI (1 + k)) (t.1 &&& F_X10_ripeOnes (if now (19 : Int32).toNatClampNeg + nI (1 + k) < 9 then now (19 : Int32).toNatClampNeg + nI (1 + k) else 9) fr9 mr) rm 0 row) ((0 : Int32), t.2.2.2.2) 0 (Int32.toInt fr9 - ((0 : Nat) : Int)).toNat := ⟨_, rfl⟩
        rw [<- hU, <- hV] at m1 m2
        rw [<- hU, <- hV, j_X9_autumn_170, j_X9_autumn_170, j_X10_autumn_175, j_X10_autumn_175]
        have e3 : t.1 &&& (V.1 ^^^ (-1)) = H &&& ((t.2.1 ||| V.1) ^^^ (-1)) := by rw [r3]; exact an_or _ _ _
        by_cases c : U.2.2 <= s.2.2.1
        · rw [if_pos c]
          by_cases c2 : t.2.2.1 < aLS V.1
          · rw [if_pos c2]; exact ⟨m1, m2, e3⟩
          · rw [if_neg c2]; exact ⟨m1, m2, e3⟩
        · rw [if_neg c]
          by_cases c2 : t.2.2.1 < aLS V.1
          · rw [if_pos c2]; exact ⟨m1, m2, e3⟩
          · rw [if_neg c2]; exact ⟨m1, m2, e3⟩)
      obtain ⟨_, m2, _⟩ := key
      show aLS _ = aLS _
      rw [m2]
end QJ
