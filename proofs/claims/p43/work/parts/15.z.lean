/-! questions of the moment: hands, worth -/
theorem itr_inv {α : Type} (R : Nat -> α -> Prop) {f : Int32 -> α -> α} {a : α} {i : Nat} (h0 : R 0 a) (n : Nat) (hs : ∀ (k : Nat) (s : α), k < n -> R k s -> R (k + 1) (f (nI (i + k)) s)) : R n (itr f a i n) :=
  itr_rel (i := i) (f := f) (g := f) (a := a) (b := a) (fun k s _ => R k s) h0 n (fun k s _ hk h => hs k s hk h)
theorem has0 (x : Int32) {f : Int32} (hf : 0 <= f.toInt /\ f.toInt < 32) : F_X10_has x f = 0 ↔ ((x >>> (f &&& 31)) &&& 1) = 0 := by
  rw [hs_10 x hf, hs_i x hf]
  cases bt x f.toInt.toNat
  · exact ⟨fun _ => rfl, fun _ => if_neg (by decide)⟩
  · rw [if_pos rfl]
    exact ⟨fun h => absurd h n10, fun h => absurd h (by decide)⟩
theorem rb_eq {sd : Int32} {near hand : Nat -> Int32} (bd : 0 <= sd.toInt /\ sd.toInt <= 8) (hn : ∀ k : Nat, (k : Int) < sd.toInt -> near k = hand k) (S : Int32) : F_X5_reachedBy S near sd = F_X10_handOf S sd hand := by
  rw [F_X5_reachedBy, F_X10_handOf, ex_X5_reachedBy_4, ex_X10_handOf_4]
  refine itr_cg _ (fun k s hk => ?_)
  have i := nI_0c (k := k) (by omega)
  have h := has0 S (f := nI (0 + k)) (by omega)
  rw [bd_X5_reachedBy_4, bd_X10_handOf_4]
  by_cases c : ((S >>> (nI (0 + k) &&& 31)) &&& 1) = 0
  · rw [if_pos c, if_pos (h.mpr c), j_X5_reachedBy_32, j_X10_handOf_31, or0]
  · rw [if_neg c, if_neg (fun e => c (h.mp e)), j_X5_reachedBy_32, j_X10_handOf_31, hn _ (by rw [i.1]; omega)]
theorem wo_eq {fr : Int32} {w mw : Nat -> Int32} (bf : 0 <= fr.toInt /\ fr.toInt <= 16) (hw : ∀ k : Nat, (k : Int) < fr.toInt -> w k = mw k) (S B : Int32) : F_X3_worthOf S B fr w = F_X10_worthOfAll S B fr mw := by
  rw [F_X3_worthOf, F_X10_worthOfAll, ex_X3_worthOf_5, ex_X10_worthOfAll_5]
  refine itr_cg _ (fun k s hk => ?_)
  have i := nI_0c (k := k) (by omega)
  have h := has0 S (f := nI (0 + k)) (by omega)
  have h2 := has0 B (f := nI (0 + k)) (by omega)
  have e := hw _ (show ((nI (0 + k)).toNatClampNeg : Int) < fr.toInt by rw [i.1]; omega)
  rw [bd_X3_worthOf_5, bd_X10_worthOfAll_5]
  by_cases c : ((S >>> (nI (0 + k) &&& 31)) &&& 1) = 0
  · rw [if_pos c, if_pos (h.mpr c), j_X3_worthOf_54, j_X10_worthOfAll_35]
    exact (Int32.add_zero _).symm
  · rw [if_neg c, if_neg (fun e => c (h.mp e)), F_X10_worthOf]
    by_cases c2 : ((B >>> (nI (0 + k) &&& 31)) &&& 1) = 0
    · rw [if_pos c2, if_pos (h2.mpr c2), j_X3_worthOf_52, j_X3_worthOf_54, j_X10_worthOfAll_35, e]
    · rw [if_neg c2, if_neg (fun e => c2 (h2.mp e)), j_X3_worthOf_52, j_X3_worthOf_54, j_X10_worthOfAll_35, e]
theorem up_itr {f : Int32 -> (Nat -> Int32) -> (Nat -> Int32)} {v a : Nat -> Int32} (n : Nat) (hn : n <= 2000) (hf : ∀ (k : Nat) (s : Nat -> Int32), k < n -> f (nI (0 + k)) s = upd s k (v k)) : ∀ j : Nat, j < n -> itr f a 0 n j = v j := by
  have key : ∀ k : Nat, k <= n -> ∀ j : Nat, j < k -> itr f a 0 k j = v j := by
    intro k
    induction k with
    | zero => intro _ j hj; exact absurd hj (by omega)
    | succ k ih =>
      intro hk j hj
      rw [itr_s, hf k _ (by omega)]
      by_cases e : j = k
      · rw [e, upd_i]
      · rw [aGi _ _ e]; exact ih (by omega) j (by omega)
  exact key n (Nat.le_refl n)
section QB
variable {fr sd ap ba gr br la he td cl : Int32} {x h w r ft fk mx mh mw mr mf mk st told now : Nat -> Int32}
/-- what both hold of the hands -/
theorem look_eq (T : TR fr sd x h w r ft fk mx mh mw mr mf mk) (hst2 : ∀ k : Nat, k < 5 -> st k = told k) (hm : MR fr sd ap ba gr br la he td now) (a : Int32) {pw mwd : Int32} {pn hand : Nat -> Int32} : (F_X5_lookAs a td pw pn fr sd x h r ft fk st ap ba gr).1 = (F_X10_layHands_ a fr sd mwd now mx mh mr mf mk told hand).1 /\ ∀ k : Nat, (k : Int) < sd.toInt -> (F_X5_lookAs a td pw pn fr sd x h r ft fk st ap ba gr).2 k = (F_X10_layHands_ a fr sd mwd now mx mh mr mf mk told hand).2 k := by
  have bf := T.2.2.1
  have bd := T.2.2.2.1
  have z : (Int32.toInt sd - ((0 : Nat) : Int)).toNat = sd.toInt.toNat := by omega
  have h1 := up_itr (f := bd_X5_lookAs_13 fr sd x h r ft fk st ap ba gr td (F_X3_reach a 0 st) pw) (v := fun k => F_X3_within (nI (0 + k)) (F_X3_reach a 0 st) fr x h ft fk) (a := pn) (Int32.toInt sd - ((0 : Nat) : Int)).toNat (by omega) (fun k s hk => by
    have i := nI_0c (k := k) (by omega)
    rw [bd_X5_lookAs_13, i.1])
  have h2 := up_itr (f := bd_X10_layHands__2 fr sd now mx mh mr mf mk told a mwd) (v := fun k => aLM (nI (0 + k)) a 0 fr mx mh mf mk told) (a := hand) (Int32.toInt sd - ((0 : Nat) : Int)).toNat (by omega) (fun k s hk => by
    have i := nI_0c (k := k) (by omega)
    rw [bd_X10_layHands__2, i.1])
  have key : ∀ k : Nat, (k : Int) < sd.toInt -> itr (bd_X5_lookAs_13 fr sd x h r ft fk st ap ba gr td (F_X3_reach a 0 st) pw) pn 0 (Int32.toInt sd - ((0 : Nat) : Int)).toNat k = itr (bd_X10_layHands__2 fr sd now mx mh mr mf mk told a mwd) hand 0 (Int32.toInt sd - ((0 : Nat) : Int)).toNat k := by
    intro k hk
    have i := nI_0c (k := k) (by omega)
    rw [h1 k (by omega), h2 k (by omega)]
    exact wi_eq T hst2 a 0 (by omega)
  rw [F_X5_lookAs, F_X10_layHands_, ex_X5_lookAs_13, ex_X10_layHands__2]
  refine ⟨?_, key⟩
  show aVS fr ap ba gr &&& F_X3_ripeBy td fr r &&& F_X5_reachedBy (F_X3_allStandings sd) _ sd = aUf 0 fr now &&& F_X10_ripeOnes (now (19 : Int32).toNatClampNeg) fr mr &&& F_X10_handOf (F_X10_allStandings sd) sd _
  rw [rb_eq bd key, rp_eq T, mo_hg hm.1.1 bf, c19, <- hm.1.2.2.2.2]
  rfl
theorem look_e (T : TR fr sd x h w r ft fk mx mh mw mr mf mk) (hst2 : ∀ k : Nat, k < 5 -> st k = told k) (hm : MR fr sd ap ba gr br la he td now) {pw mwd : Int32} {pn hand : Nat -> Int32} : (F_X5_look pw pn fr sd x h r ft fk st ap ba gr he td).1 = (bBY fr sd mwd now mx mh mr mf mk told hand).1 /\ ∀ k : Nat, (k : Int) < sd.toInt -> (F_X5_look pw pn fr sd x h r ft fk st ap ba gr he td).2 k = (bBY fr sd mwd now mx mh mr mf mk told hand).2 k := by
  rw [F_X5_look, bBY, c18, <- hm.1.2.2.2.1]
  exact look_eq T hst2 hm he
theorem from_eq (T : TR fr sd x h w r ft fk mx mh mw mr mf mk) (hst2 : ∀ k : Nat, k < 5 -> st k = told k) (hm : MR fr sd ap ba gr br la he td now) {p k p' k' fr9 sd9 th : Int32} (hp : p' = p) (hk : k' = k) (e1 : fr9 = fr) (e2 : sd9 = sd) : F_X9_from p k fr9 sd9 x h ft fk st he = (F_X10_from p' k' fr sd th now mx mh mf mk told).1 := by
  subst hp hk e1 e2
  have bf := T.2.2.1
  have bd := T.2.2.2.1
  rw [F_X9_from, F_X10_from, yn_eq]
  rcases hfr (p := p') (fr := fr9) (by omega) with ⟨a, b, _⟩ | ⟨a, b, g⟩
  · rw [if_pos a, if_pos b]
  · rw [if_neg (neg1 a), if_neg (neg1 b)]
    rcases in01 k' 0 1 with ⟨q, _⟩ | ⟨q, _⟩
    · rw [if_pos q, if_pos q]
    · rw [if_neg (neg1 q), if_neg (neg1 q), ex_X9_from_42, ex_X10_from_29]
      refine itr_cg _ (fun k s hk => ?_)
      have i := nI_0c (k := k) (by omega)
      rw [bd_X9_from_42, bd_X10_from_29, iw_eq T _ g (by omega), rch_eq hst2, c18, <- hm.1.2.2.2.1, j_X9_from_77, j_X9_from_77, j_X10_from_69, j_X10_from_69, or0]
theorem never_eq (T : TR fr sd x h w r ft fk mx mh mw mr mf mk) (hst2 : ∀ k : Nat, k < 5 -> st k = told k) (hm : MR fr sd ap ba gr br la he td now) {fr9 sd9 th rs rm : Int32} {rn row : Nat -> Int32} (e1 : fr9 = fr) (e2 : sd9 = sd) : (F_X9_never fr9 sd9 x h w ft fk st ap ba gr br rs rn).1 = (F_X10_never fr sd rm th now mx mh mw mf mk told row).1 := by
  subst e1 e2
  have bf := T.2.2.1
  have bd := T.2.2.2.1
  rw [F_X9_never, F_X10_never, ex_X9_never_10, ex_X10_never_17, mo_hg hm.1.1 bf]
  refine itr_cg _ (fun k s hk => ?_)
  have i := nI_0c (k := k) (by omega)
  rw [bd_X9_never_10, bd_X10_never_17, wi_eq T hst2 1 1 (by omega)]
theorem and3 (a b c : Int32) : (a &&& b) &&& (a &&& c) = (a &&& b) &&& c := bt_ext (fun k _ => by
  rw [bt_and, bt_and, bt_and, bt_and, bt_and]
  cases bt a k <;> cases bt b k <;> cases bt c k <;> rfl)
theorem both_eq (T : TR fr sd x h w r ft fk mx mh mw mr mf mk) (hst2 : ∀ k : Nat, k < 5 -> st k = told k) (hm : MR fr sd ap ba gr br la he td now) {p k p' k' fr9 sd9 th rs rm pw mwd : Int32} {rn row pn hand : Nat -> Int32} (hp : p' = p) (hk : k' = k) (e1 : fr9 = fr) (e2 : sd9 = sd) : (F_X9_both p k pw pn fr9 sd9 x h r ft fk st ap ba gr he td rs rn).1 = (F_X10_both p' k' fr sd rm th mwd now mx mh mr mf mk told row hand).1 := by
  subst hp hk e1 e2
  have bd := T.2.2.2.1
  rw [F_X9_both, F_X10_both]
  rcases hst (p := p') (sd := sd9) (by omega) with ⟨a, b, _⟩ | ⟨a, b, g⟩
  · rw [if_pos a, if_pos b]
  · rw [if_neg (neg1 a), if_neg (neg1 b)]
    rcases hst (p := k') (sd := sd9) (by omega) with ⟨a2, b2, _⟩ | ⟨a2, b2, g2⟩
    · rw [if_pos a2, if_pos b2]
    · rw [if_neg (neg1 a2), if_neg (neg1 b2)]
      by_cases c : p' = k'
      · rw [if_pos c, if_pos c]
      · rw [if_neg c, if_neg c]
        obtain ⟨q1, q2⟩ := look_e T hst2 hm (pw := pw) (pn := pn) (mwd := mwd) (hand := hand)
        have c1 := cl_n p'
        have c2 := cl_n k'
        show F_X5_wantedFrom p' (F_X5_look pw pn fr9 sd9 x h r ft fk st ap ba gr he td).1 (F_X5_look pw pn fr9 sd9 x h r ft fk st ap ba gr he td).2 &&& F_X5_wantedFrom k' (F_X5_look pw pn fr9 sd9 x h r ft fk st ap ba gr he td).1 (F_X5_look pw pn fr9 sd9 x h r ft fk st ap ba gr he td).2 = (bBY fr9 sd9 mwd now mx mh mr mf mk told hand).1 &&& (bBY fr9 sd9 mwd now mx mh mr mf mk told hand).2 p'.toNatClampNeg &&& (bBY fr9 sd9 mwd now mx mh mr mf mk told hand).2 k'.toNatClampNeg
        rw [F_X5_wantedFrom, F_X5_wantedFrom, q1, q2 p'.toNatClampNeg (by omega), q2 k'.toNatClampNeg (by omega)]
        exact and3 _ _ _
end QB
/-! sets of standings; next -/
theorem as_b : ∀ n, n < 9 -> ∀ j, j < 32 -> bt (((1 : Int32) <<< (nI n &&& 31)) - 1) j = decide (j < n) := by decide +kernel
theorem as_t : ∀ n, n < 9 -> Int32.toInt (((1 : Int32) <<< (nI n &&& 31)) - 1) = ((2 ^ n : Nat) : Int) - 1 := by decide +kernel
theorem as_bt {sd : Int32} (bd : 0 <= sd.toInt /\ sd.toInt <= 8) (j : Nat) : bt (F_X10_allStandings sd) j = decide (j < sd.toInt.toNat) := by
  by_cases hj : j < 32
  · have e := tp_nI bd.1
    rw [F_X10_allStandings]
    have q := as_b sd.toInt.toNat (by omega) j hj
    rw [<- e] at q
    exact q
  · rw [bt_ge _ _ (by omega), decide_eq_false (by omega)]
theorem as_ti {sd : Int32} (bd : 0 <= sd.toInt /\ sd.toInt <= 8) : Int32.toInt (F_X10_allStandings sd) = ((2 ^ sd.toInt.toNat : Nat) : Int) - 1 := by
  have e := tp_nI bd.1
  rw [F_X10_allStandings]
  have q := as_t sd.toInt.toNat (by omega)
  rw [<- e] at q
  exact q
theorem as_lt {sd : Int32} (bd : 0 <= sd.toInt /\ sd.toInt <= 8) : Int32.toInt (F_X10_allStandings sd) < 2147483647 := by
  have t := as_ti bd
  have p : (2 ^ sd.toInt.toNat : Nat) <= 2 ^ 8 := Nat.pow_le_pow_right (by omega) (by omega)
  omega
theorem sub_bt {p a : Int32} : p &&& (a ^^^ (-1)) = 0 ↔ ∀ j : Nat, j < 32 -> bt p j = true -> bt a j = true := by
  refine ⟨fun e j hj hp => ?_, fun h => bt_ext (fun j hj => ?_)⟩
  · have q := congrArg (fun y => bt y j) e
    have q : bt (p &&& (a ^^^ (-1))) j = bt 0 j := q
    rw [bt_and, bt_not _ _ hj, bt_zero, hp, Bool.true_and] at q
    cases hx : bt a j
    · rw [hx] at q; exact absurd q (by decide)
    · rfl
  · rw [bt_and, bt_not _ _ hj, bt_zero]
    cases hp : bt p j
    · rfl
    · rw [h j hj hp]; rfl
theorem as_in {p sd : Int32} (bd : 0 <= sd.toInt /\ sd.toInt <= 8) : (F_X3_areStandings p sd = 0 /\ aUe p 0 (F_X10_allStandings sd) = 0) \/ (F_X3_areStandings p sd = 1 /\ aUe p 0 (F_X10_allStandings sd) = 1 /\ (0 <= p.toInt /\ p.toInt < ((2 ^ sd.toInt.toNat : Nat) : Int)) /\ ∀ j : Nat, sd.toInt.toNat <= j -> bt p j = false) := by
  have l0 : Int32.toInt (0 : Int32) = 0 := by decide
  have e9 : F_X3_allStandings sd = F_X10_allStandings sd := rfl
  have t := as_ti bd
  rw [F_X3_areStandings, e9]
  by_cases c : p &&& (F_X10_allStandings sd ^^^ (-1)) = 0
  · have hb : ∀ j : Nat, sd.toInt.toNat <= j -> bt p j = false := by
      intro j hj
      by_cases h32 : j < 32
      · cases hp : bt p j
        · rfl
        · have q := sub_bt.mp c j h32 hp
          rw [as_bt bd, decide_eq_false (by omega)] at q
          exact absurd q (by decide)
      · exact bt_ge _ _ (by omega)
    have r := bt_bound p sd.toInt.toNat (by omega) hb
    rw [if_pos c]
    refine Or.inr ⟨rfl, ?_, r, hb⟩
    rcases in01 p 0 (F_X10_allStandings sd) with ⟨_, q⟩ | ⟨q, _⟩
    · exfalso; omega
    · exact q
  · rw [if_neg c]
    refine Or.inl ⟨rfl, ?_⟩
    rcases in01 p 0 (F_X10_allStandings sd) with ⟨q, _⟩ | ⟨_, q1, q2⟩
    · exact q
    · exfalso
      have hb := bt_lt p sd.toInt.toNat (by omega)
      refine c (sub_bt.mpr (fun j _ hp => ?_))
      rw [as_bt bd]
      refine decide_eq_true ?_
      rcases Nat.lt_or_ge j sd.toInt.toNat with h | h
      · exact h
      · rw [hb j h] at hp; exact absurd hp (by decide)
section QC
variable {fr sd ap ba gr br la he td cl : Int32} {x h w r ft fk mx mh mw mr mf mk st told now : Nat -> Int32}
theorem wl_eq (T : TR fr sd x h w r ft fk mx mh mw mr mf mk) (hm : MR fr sd ap ba gr br la he td now) {wd mwd : Int32} {near hand : Nat -> Int32} (hwd : wd = mwd) (hn : ∀ k : Nat, (k : Int) < sd.toInt -> near k = hand k) (S : Int32) : F_X5_worthLeft S wd near fr sd w br = F_X10_leftBy S fr sd mwd now mw hand := by
  rw [F_X5_worthLeft, F_X10_leftBy, F_X0_worthOf, rb_eq T.2.2.2.1 hn, hwd, c16, <- hm.1.2.1, wo_eq T.2.2.1 (fun k hk => (T.1 k hk).2.2.1)]
theorem next_eq (T : TR fr sd x h w r ft fk mx mh mw mr mf mk) (hst2 : ∀ k : Nat, k < 5 -> st k = told k) (hm : MR fr sd ap ba gr br la he td now) {p p' fr9 sd9 th rs rm pw mwd : Int32} {rn row pn hand : Nat -> Int32} (hp : p' = p) (e1 : fr9 = fr) (e2 : sd9 = sd) : (F_X9_next p pw pn fr9 sd9 x h w r ft fk st ap ba gr br he td rs rn).1 = (F_X10_next p' fr sd rm th mwd now mx mh mw mr mf mk told row hand).1 := by
  subst hp e1 e2
  have bd := T.2.2.2.1
  have l0 : Int32.toInt (0 : Int32) = 0 := by decide
  have lm : Int32.toInt (-2 : Int32) = -2 := by decide
  rw [F_X9_next, F_X10_next]
  rcases as_in (p := p') bd with ⟨a, b⟩ | ⟨a, b, g, gb⟩
  · rw [if_pos a, if_pos b]
  · rw [if_neg (neg1 a), if_neg (neg1 b)]
    obtain ⟨q1, q2⟩ := look_e T hst2 hm (pw := pw) (pn := pn) (mwd := mwd) (hand := hand)
    obtain ⟨A, hA⟩ : ∃ l, l = F_X5_look pw pn fr9 sd9 x h r ft fk st ap ba gr he td := ⟨_, rfl⟩
    obtain ⟨B, hB⟩ : ∃ l, l = bBY fr9 sd9 mwd now mx mh mr mf mk told hand := ⟨_, rfl⟩
    rw [<- hA, <- hB] at q1 q2
    rw [<- hA, <- hB]
    have wl := wl_eq T hm q1 q2
    have key := itr_rel (i := 0) (f := bd_X9_next_28 fr9 sd9 x h w r ft fk st ap ba gr br he td p' A.1 A.2 rs rn) (g := bd_X10_next_28 fr9 sd9 now mx mh mw mr mf mk told p' rm 0 B.1 row B.2) (a := ((-2 : Int32), (0 : Int32))) (b := (-2 : Int32)) (fun (k : Nat) (s : Int32 × Int32) (t : Int32) => s.1 = t /\ (t = -2 \/ ((0 <= t.toInt /\ t.toInt < (k : Int)) /\ s.2 = F_X10_leftBy (p' ||| (1 <<< (t &&& 31))) fr9 sd9 B.1 now mw B.2))) ⟨rfl, Or.inl rfl⟩ (Int32.toInt sd9 - ((0 : Nat) : Int)).toNat (fun k s t hk hR => by
      have i := nI_0c (k := k) (by omega)
      have hh := has0 p' (f := nI (0 + k)) (by omega)
      obtain ⟨r1, r2⟩ := hR
      rw [bd_X9_next_28, bd_X10_next_28, r1, wl]
      have new : (j_X9_next_74 (fun q0 q1 q2 q3 q4 q5 q6 q7 => (q1, q2)) fr9 sd9 x h w r ft fk st ap ba gr br he td p' (nI (0 + k)) (F_X10_leftBy (p' ||| (1 <<< (nI (0 + k) &&& 31))) fr9 sd9 B.1 now mw B.2) A.1 A.2 rs rn).1 = j_X10_next_69 (fun q0 q1 q2 q3 q4 q5 q6 q7 => q1) fr9 sd9 now mx mh mw mr mf mk told p' (nI (0 + k)) rm 0 B.1 row B.2 /\ (j_X10_next_69 (fun q0 q1 q2 q3 q4 q5 q6 q7 => q1) fr9 sd9 now mx mh mw mr mf mk told p' (nI (0 + k)) rm 0 B.1 row B.2 = -2 \/ ((0 <= Int32.toInt (j_X10_next_69 (fun q0 q1 q2 q3 q4 q5 q6 q7 => q1) fr9 sd9 now mx mh mw mr mf mk told p' (nI (0 + k)) rm 0 B.1 row B.2) /\ Int32.toInt (j_X10_next_69 (fun q0 q1 q2 q3 q4 q5 q6 q7 => q1) fr9 sd9 now mx mh mw mr mf mk told p' (nI (0 + k)) rm 0 B.1 row B.2) < ((k + 1 : Nat) : Int)) /\ (j_X9_next_74 (fun q0 q1 q2 q3 q4 q5 q6 q7 => (q1, q2)) fr9 sd9 x h w r ft fk st ap ba gr br he td p' (nI (0 + k)) (F_X10_leftBy (p' ||| (1 <<< (nI (0 + k) &&& 31))) fr9 sd9 B.1 now mw B.2) A.1 A.2 rs rn).2 = F_X10_leftBy (p' ||| (1 <<< (j_X10_next_69 (fun q0 q1 q2 q3 q4 q5 q6 q7 => q1) fr9 sd9 now mx mh mw mr mf mk told p' (nI (0 + k)) rm 0 B.1 row B.2 &&& 31))) fr9 sd9 B.1 now mw B.2)) := by
        rw [j_X9_next_74, j_X9_next_80, j_X10_next_69, j_X10_next_71]
        exact ⟨rfl, Or.inr ⟨⟨by omega, by omega⟩, rfl⟩⟩
      have old : t = -2 \/ ((0 <= t.toInt /\ t.toInt < ((k + 1 : Nat) : Int)) /\ s.2 = F_X10_leftBy (p' ||| (1 <<< (t &&& 31))) fr9 sd9 B.1 now mw B.2) := by
        rcases r2 with r2 | ⟨r2, r3⟩
        · exact Or.inl r2
        · exact Or.inr ⟨by omega, r3⟩
      by_cases c : ((p' >>> (nI (0 + k) &&& 31)) &&& 1) = 0
      · rw [if_pos c, if_pos (hh.mpr c)]
        rcases r2 with r2 | ⟨r2, r3⟩
        · have k5 : t < 0 := by rw [r2]; decide
          rw [if_pos k5, if_pos k5]
          exact new
        · have k5 : ¬ t < 0 := fun c => by have := (aAd _ _).mp c; omega
          rw [if_neg k5, if_neg k5, r3]
          by_cases c2 : F_X10_leftBy (p' ||| (1 <<< (t &&& 31))) fr9 sd9 B.1 now mw B.2 <= F_X10_leftBy (p' ||| (1 <<< (nI (0 + k) &&& 31))) fr9 sd9 B.1 now mw B.2
          · rw [if_pos c2, if_pos c2, j_X9_next_80, j_X10_next_71]
            rw [r3] at old
            exact ⟨rfl, old⟩
          · rw [if_neg c2, if_neg c2]
            exact new
      · rw [if_neg c, if_neg (fun e => c (hh.mp e)), j_X9_next_80, j_X10_next_71]
        exact ⟨rfl, old⟩)
    rw [ex_X9_next_28, ex_X10_next_28]
    obtain ⟨r1, r2⟩ := key
    rcases r2 with r2 | ⟨r2, r3⟩
    · rw [r1, r2, if_pos (by decide), if_neg (by decide)]
    · rw [r1, if_neg (fun c => by have := (aAd _ _).mp c; omega), if_pos ((aAO _ _).mpr (by omega))]
end QC
/-! allripe -/
section QL
variable {fr sd ap ba gr br la he td cl : Int32} {x h w r ft fk mx mh mw mr mf mk st told now : Nat -> Int32}
theorem ripe9 (bf : 0 <= fr.toInt /\ fr.toInt <= 16) (hr : ∀ k : Nat, 0 <= Int32.toInt (mr k) /\ Int32.toInt (mr k) <= 9) {d : Int32} (hd : 9 <= d.toInt) (j : Nat) (hj : j < fr.toInt.toNat) : bt (F_X10_ripeOnes d fr mr) j = true := by
  rw [F_X10_ripeOnes, ex_X10_ripeOnes_4, show (Int32.toInt fr - ((0 : Nat) : Int)).toNat = fr.toInt.toNat by omega]
  have q := itr_bt (f := bd_X10_ripeOnes_4 fr mr d) (c := fun _ => true) fr.toInt.toNat (by omega) (fun k s hk => by
    have b := hr (nI (0 + k)).toNatClampNeg
    have k1 : mr (nI (0 + k)).toNatClampNeg <= d := (aAO _ _).mpr (by omega)
    have k2 : ¬ d < mr (nI (0 + k)).toNatClampNeg := fun e => by have := (aAd _ _).mp e; omega
    rw [bd_X10_ripeOnes_4, j_X10_ripeOnes_30, j_X10_ripeOnes_30]
    first
    | rw [if_pos k1, if_pos rfl]
    | rw [if_neg k2, if_pos rfl]
    | rw [if_pos k2, if_pos rfl]) j
  rw [q, decide_eq_true hj]; rfl
theorem allripe_w {Q : Int32 -> Int32 -> Int32 -> (Nat -> Int32) -> Prop} {fr9 rs rm th : Int32} {rn row : Nat -> Int32} (T : TR fr sd x h w r ft fk mx mh mw mr mf mk) (hm : MR fr sd ap ba gr br la he td now) (hr : ∀ k : Nat, 0 <= Int32.toInt (mr k) /\ Int32.toInt (mr k) <= 9) (e1 : fr9 = fr) (h9 : wp_X10_allripe (fun o0 o1 o2 o3 => (F_X9_allripe fr9 w r ap ba gr br td rs rn).1 = o0 -> Q o0 o1 o2 o3) fr rm th now mw mr row) : wp_X10_allripe Q fr rm th now mw mr row := by
  subst e1
  have bf := T.2.2.1
  have lq := hm.2.2.1
  have l9 : Int32.toInt (9 : Int32) = 9 := by decide
  have l1 : Int32.toInt (1 : Int32) = 1 := by decide
  obtain ⟨R, hR⟩ : ∃ R, R = F_X9_allripe fr9 w r ap ba gr br td rs rn := ⟨_, rfl⟩
  rw [<- hR] at h9
  rw [F_X9_allripe] at hR
  have loop : ∀ (n f : Nat) (x2 x3 x2' : Int32), 0 <= x3.toInt -> x3.toInt <= 9 -> 10 <= (f : Int) + x3.toInt -> R = flp (fs_X9_allripe_35 (fun o0 o1 o2 => (o0, o1, o2)) fr9 w r ap ba gr br td) (fun _ _ _ _ _ => (0, 0, (fun _ => 0))) f (aVS fr9 ap ba gr) x2 x3 rs rn -> wb_X10_allripe_39 (fun o0 o1 o2 o3 => R.1 = o0 -> Q o0 o1 o2 o3) fr9 now mw mr n (aVS fr9 ap ba gr) x2' x3 rm 0 row -> wb_X10_allripe_39 Q fr9 now mw mr n (aVS fr9 ap ba gr) x2' x3 rm 0 row := by
    intro n
    induction n with
    | zero => intro f x2 x3 x2' _ _ _ _ h; exact False.elim h
    | succ n ih =>
      intro f x2 x3 x2' h0 h1 h2 eR h
      have h : ws_X10_allripe_39 (fun o0 o1 o2 o3 => R.1 = o0 -> Q o0 o1 o2 o3) (wb_X10_allripe_39 (fun o0 o1 o2 o3 => R.1 = o0 -> Q o0 o1 o2 o3) fr9 now mw mr n) fr9 now mw mr (aVS fr9 ap ba gr) x2' x3 rm 0 row := h
      show ws_X10_allripe_39 Q (wb_X10_allripe_39 Q fr9 now mw mr n) fr9 now mw mr (aVS fr9 ap ba gr) x2' x3 rm 0 row
      obtain ⟨g, rfl⟩ : ∃ g, f = g + 1 := ⟨f - 1, by omega⟩
      have ax := aAD x3 1 (by omega)
      rw [flp_s, fs_X9_allripe_35, rp_eq T] at eR
      unfold ws_X10_allripe_39 at h ⊢
      refine du_X10_ripeOnes h ?_
      intro h
      have full : (9 : Int32) <= x3 -> aVS fr9 ap ba gr &&& (F_X10_ripeOnes x3 fr9 mr ^^^ (-1)) = 0 := by
        intro c
        have d := (aAO _ _).mp c
        refine sub_bt.mpr (fun j _ hj => ?_)
        exact ripe9 bf hr (by omega) j (hg_in bf hj).1
      refine And.intro (fun c => ?_) (fun c => ?_)
      · have h := And.left h c
        have e : R.1 = x3 := by
          by_cases c9 : (9 : Int32) <= x3
          · rw [if_pos c9, j_X9_allripe_62] at eR; rw [eR]
          · rw [if_neg c9, if_pos c, j_X9_allripe_62] at eR; rw [eR]
        refine du_J6_bitCount_0f7a4 h ?_
        intro h
        refine du_X10_tell h ?_
        intro h
        refine ae ?_
        have h := h _ rfl
        refine du_X10_worthOfAll h ?_
        intro h
        refine du_X10_tell h ?_
        intro h
        exact h e
      · have c9 : ¬ (9 : Int32) <= x3 := fun e => c (full e)
        have d9 := mt (aAO _ _).mpr c9
        have h := And.right h c
        rw [if_neg c9, if_neg c] at eR
        refine ae ?_
        have h := h _ rfl
        exact ih g _ _ _ (by omega) (by omega) (by omega) eR h
  unfold wp_X10_allripe at h9 ⊢
  refine du_X10_which h9 ?_
  intro h9
  refine ae ?_
  have h9 := h9 _ rfl
  refine du_X10_ripeOnes h9 ?_
  intro h9
  refine ae ?_
  have h9 := h9 _ rfl
  refine ae ?_
  have h9 := h9 _ rfl
  rw [mo_hg hm.1.1 bf] at h9 ⊢
  obtain ⟨n, h9⟩ := h9
  refine ⟨n, ?_⟩
  rw [c19, <- hm.1.2.2.2.2] at h9 ⊢
  exact loop n 10 _ td _ lq.1 lq.2 (by omega) hR h9
end QL
