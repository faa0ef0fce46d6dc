/-! questions of the moment: hands, worth -/
theorem itr_inv {α : Type} (R : Nat -> α -> Prop) {f : Int32 -> α -> α} {a : α} {i : Nat} (h0 : R 0 a) (n : Nat) (hs : ∀ (k : Nat) (s : α), k < n -> R k s -> R (k + 1) (f (nI (i + k)) s)) : R n (itr f a i n) :=
  itr_rel (i := i) (f := f) (g := f) (a := a) (b := a) (fun k s _ => R k s) h0 n (fun k s _ hk h => hs k s hk h)
theorem has0 (x : Int32) {f : Int32} (hf : 0 <= f.toInt /\ f.toInt < 32) : F_X10_has x f = 0 ↔ ((x >>> (f &&& 31)) &&& 1) = 0 := by
  rw [hs_10 x hf, hs_i x hf]
  cases bt x f.toInt.toNat
  · exact ⟨fun _ => rfl, fun _ => if_neg (by decide)⟩
  · rw [if_pos rfl]
    exact ⟨fun h => absurd h n10, fun h => absurd h (by decide)⟩
theorem rb_eq {sd : Int32} {near hand : Nat -> Int32} (bd : 0 <= sd.toInt /\ sd.toInt <= 8) (hn : ∀ k : Nat, (k : Int) < sd.toInt -> near k = hand k) (S : Int32) : F_X5_reachedBy S near sd = F_X10_handOf S sd hand := by
  rw [F_X5_reachedBy, F_X10_handOf, ex_X5_reachedBy_4, ex_X10_handOf_4]
  refine itr_cg _ (fun k s hk => ?_)
  have i := nI_0c (k := k) (by omega)
  have h := has0 S (f := nI (0 + k)) (by omega)
  rw [bd_X5_reachedBy_4, bd_X10_handOf_4]
  by_cases c : ((S >>> (nI (0 + k) &&& 31)) &&& 1) = 0
  · rw [if_pos c, if_pos (h.mpr c), j_X5_reachedBy_32, j_X10_handOf_31, or0]
  · rw [if_neg c, if_neg (fun e => c (h.mp e)), j_X5_reachedBy_32, j_X10_handOf_31, hn _ (by rw [i.1]; omega)]
theorem wo_eq {fr : Int32} {w mw : Nat -> Int32} (bf : 0 <= fr.toInt /\ fr.toInt <= 16) (hw : ∀ k : Nat, (k : Int) < fr.toInt -> w k = mw k) (S B : Int32) : F_X3_worthOf S B fr w = F_X10_worthOfAll S B fr mw := by
  rw [F_X3_worthOf, F_X10_worthOfAll, ex_X3_worthOf_5, ex_X10_worthOfAll_5]
  refine itr_cg _ (fun k s hk => ?_)
  have i := nI_0c (k := k) (by omega)
  have h := has0 S (f := nI (0 + k)) (by omega)
  have h2 := has0 B (f := nI (0 + k)) (by omega)
  have e := hw _ (show ((nI (0 + k)).toNatClampNeg : Int) < fr.toInt by rw [i.1]; omega)
  rw [bd_X3_worthOf_5, bd_X10_worthOfAll_5]
  by_cases c : ((S >>> (nI (0 + k) &&& 31)) &&& 1) = 0
  · rw [if_pos c, if_pos (h.mpr c), j_X3_worthOf_54, j_X10_worthOfAll_35]
    exact (Int32.add_zero _).symm
  · rw [if_neg c, if_neg (fun e => c (h.mp e)), F_X10_worthOf]
    by_cases c2 : ((B >>> (nI (0 + k) &&& 31)) &&& 1) = 0
    · rw [if_pos c2, if_pos (h2.mpr c2), j_X3_worthOf_52, j_X3_worthOf_54, j_X10_worthOfAll_35, e]
    · rw [if_neg c2, if_neg (fun e => c2 (h2.mp e)), j_X3_worthOf_52, j_X3_worthOf_54, j_X10_worthOfAll_35, e]
theorem up_itr {f : Int32 -> (Nat -> Int32) -> (Nat -> Int32)} {v a : Nat -> Int32} (n : Nat) (hn : n <= 2000) (hf : ∀ (k : Nat) (s : Nat -> Int32), k < n -> f (nI (0 + k)) s = upd s k (v k)) : ∀ j : Nat, j < n -> itr f a 0 n j = v j := by
  have key : ∀ k : Nat, k <= n -> ∀ j : Nat, j < k -> itr f a 0 k j = v j := by
    intro k
    induction k with
    | zero => intro _ j hj; exact absurd hj (by omega)
    | succ k ih =>
      intro hk j hj
      rw [itr_s, hf k _ (by omega)]
      by_cases e : j = k
      · rw [e, upd_i]
      · rw [aGi _ _ e]; exact ih (by omega) j (by omega)
  exact key n (Nat.le_refl n)
section QB
variable {fr sd ap ba gr br la he td cl : Int32} {x h w r ft fk mx mh mw mr mf mk st told now : Nat -> Int32}
/-- what both hold of the hands -/
theorem look_eq (T : TR fr sd x h w r ft fk mx mh mw mr mf mk) (hst2 : ∀ k : Nat, k < 5 -> st k = told k) (hm : MR fr sd ap ba gr br la he td now) (a : Int32) {pw mwd : Int32} {pn hand : Nat -> Int32} : (F_X5_lookAs a td pw pn fr sd x h r ft fk st ap ba gr).1 = (F_X10_layHands_ a fr sd mwd now mx mh mr mf mk told hand).1 /\ ∀ k : Nat, (k : Int) < sd.toInt -> (F_X5_lookAs a td pw pn fr sd x h r ft fk st ap ba gr).2 k = (F_X10_layHands_ a fr sd mwd now mx mh mr mf mk told hand).2 k := by
  have bf := T.2.2.1
  have bd := T.2.2.2.1
  have z : (Int32.toInt sd - ((0 : Nat) : Int)).toNat = sd.toInt.toNat := by omega
  have h1 := up_itr (f := bd_X5_lookAs_13 fr sd x h r ft fk st ap ba gr td (F_X3_reach a 0 st) pw) (v := fun k => F_X3_within (nI (0 + k)) (F_X3_reach a 0 st) fr x h ft fk) (a := pn) (Int32.toInt sd - ((0 : Nat) : Int)).toNat (by omega) (fun k s hk => by
    have i := nI_0c (k := k) (by omega)
    rw [bd_X5_lookAs_13, i.1])
  have h2 := up_itr (f := bd_X10_layHands__2 fr sd now mx mh mr mf mk told a mwd) (v := fun k => aLM (nI (0 + k)) a 0 fr mx mh mf mk told) (a := hand) (Int32.toInt sd - ((0 : Nat) : Int)).toNat (by omega) (fun k s hk => by
    have i := nI_0c (k := k) (by omega)
    rw [bd_X10_layHands__2, i.1])
  have key : ∀ k : Nat, (k : Int) < sd.toInt -> itr (bd_X5_lookAs_13 fr sd x h r ft fk st ap ba gr td (F_X3_reach a 0 st) pw) pn 0 (Int32.toInt sd - ((0 : Nat) : Int)).toNat k = itr (bd_X10_layHands__2 fr sd now mx mh mr mf mk told a mwd) hand 0 (Int32.toInt sd - ((0 : Nat) : Int)).toNat k := by
    intro k hk
    have i := nI_0c (k := k) (by omega)
    rw [h1 k (by omega), h2 k (by omega)]
    exact wi_eq T hst2 a 0 (by omega)
  rw [F_X5_lookAs, F_X10_layHands_, ex_X5_lookAs_13, ex_X10_layHands__2]
  refine ⟨?_, key⟩
  show aVS fr ap ba gr &&& F_X3_ripeBy td fr r &&& F_X5_reachedBy (F_X3_allStandings sd) _ sd = aUf 0 fr now &&& F_X10_ripeOnes (now (19 : Int32).toNatClampNeg) fr mr &&& F_X10_handOf (F_X10_allStandings sd) sd _
  rw [rb_eq bd key, rp_eq T, mo_hg hm.1.1 bf, c19, <- hm.1.2.2.2.2]
  rfl
theorem look_e (T : TR fr sd x h w r ft fk mx mh mw mr mf mk) (hst2 : ∀ k : Nat, k < 5 -> st k = told k) (hm : MR fr sd ap ba gr br la he td now) {pw mwd : Int32} {pn hand : Nat -> Int32} : (F_X5_look pw pn fr sd x h r ft fk st ap ba gr he td).1 = (bBY fr sd mwd now mx mh mr mf mk told hand).1 /\ ∀ k : Nat, (k : Int) < sd.toInt -> (F_X5_look pw pn fr sd x h r ft fk st ap ba gr he td).2 k = (bBY fr sd mwd now mx mh mr mf mk told hand).2 k := by
  rw [F_X5_look, bBY, c18, <- hm.1.2.2.2.1]
  exact look_eq T hst2 hm he
theorem from_eq (T : TR fr sd x h w r ft fk mx mh mw mr mf mk) (hst2 : ∀ k : Nat, k < 5 -> st k = told k) (hm : MR fr sd ap ba gr br la he td now) {p k p' k' fr9 sd9 th : Int32} (hp : p' = p) (hk : k' = k) (e1 : fr9 = fr) (e2 : sd9 = sd) : F_X9_from p k fr9 sd9 x h ft fk st he = (F_X10_from p' k' fr sd th now mx mh mf mk told).1 := by
  subst hp hk e1 e2
  have bf := T.2.2.1
  have bd := T.2.2.2.1
  rw [F_X9_from, F_X10_from, yn_eq]
  rcases hfr (p := p') (fr := fr9) (by omega) with ⟨a, b, _⟩ | ⟨a, b, g⟩
  · rw [if_pos a, if_pos b]
  · rw [if_neg (neg1 a), if_neg (neg1 b)]
    rcases in01 k' 0 1 with ⟨q, _⟩ | ⟨q, _⟩
    · rw [if_pos q, if_pos q]
    · rw [if_neg (neg1 q), if_neg (neg1 q), ex_X9_from_42, ex_X10_from_29]
      refine itr_cg _ (fun k s hk => ?_)
      have i := nI_0c (k := k) (by omega)
      rw [bd_X9_from_42, bd_X10_from_29, iw_eq T _ g (by omega), rch_eq hst2, c18, <- hm.1.2.2.2.1, j_X9_from_77, j_X9_from_77, j_X10_from_69, j_X10_from_69, or0]
theorem never_eq (T : TR fr sd x h w r ft fk mx mh mw mr mf mk) (hst2 : ∀ k : Nat, k < 5 -> st k = told k) (hm : MR fr sd ap ba gr br la he td now) {fr9 sd9 th rs rm : Int32} {rn row : Nat -> Int32} (e1 : fr9 = fr) (e2 : sd9 = sd) : (F_X9_never fr9 sd9 x h w ft fk st ap ba gr br rs rn).1 = (F_X10_never fr sd rm th now mx mh mw mf mk told row).1 := by
  subst e1 e2
  have bf := T.2.2.1
  have bd := T.2.2.2.1
  rw [F_X9_never, F_X10_never, ex_X9_never_10, ex_X10_never_17, mo_hg hm.1.1 bf]
  refine itr_cg _ (fun k s hk => ?_)
  have i := nI_0c (k := k) (by omega)
  rw [bd_X9_never_10, bd_X10_never_17, wi_eq T hst2 1 1 (by omega)]
theorem and3 (a b c : Int32) : (a &&& b) &&& (a &&& c) = (a &&& b) &&& c := bt_ext (fun k _ => by
  rw [bt_and, bt_and, bt_and, bt_and, bt_and]
  cases bt a k <;> cases bt b k <;> cases bt c k <;> rfl)
theorem both_eq (T : TR fr sd x h w r ft fk mx mh mw mr mf mk) (hst2 : ∀ k : Nat, k < 5 -> st k = told k) (hm : MR fr sd ap ba gr br la he td now) {p k p' k' fr9 sd9 th rs rm pw mwd : Int32} {rn row pn hand : Nat -> Int32} (hp : p' = p) (hk : k' = k) (e1 : fr9 = fr) (e2 : sd9 = sd) : (F_X9_both p k pw pn fr9 sd9 x h r ft fk st ap ba gr he td rs rn).1 = (F_X10_both p' k' fr sd rm th mwd now mx mh mr mf mk told row hand).1 := by
  subst hp hk e1 e2
  have bd := T.2.2.2.1
  rw [F_X9_both, F_X10_both]
  rcases hst (p := p') (sd := sd9) (by omega) with ⟨a, b, _⟩ | ⟨a, b, g⟩
  · rw [if_pos a, if_pos b]
  · rw [if_neg (neg1 a), if_neg (neg1 b)]
    rcases hst (p := k') (sd := sd9) (by omega) with ⟨a2, b2, _⟩ | ⟨a2, b2, g2⟩
    · rw [if_pos a2, if_pos b2]
    · rw [if_neg (neg1 a2), if_neg (neg1 b2)]
      by_cases c : p' = k'
      · rw [if_pos c, if_pos c]
      · rw [if_neg c, if_neg c]
        obtain ⟨q1, q2⟩ := look_e T hst2 hm (pw := pw) (pn := pn) (mwd := mwd) (hand := hand)
        have c1 := cl_n p'
        have c2 := cl_n k'
        show F_X5_wantedFrom p' (F_X5_look pw pn fr9 sd9 x h r ft fk st ap ba gr he td).1 (F_X5_look pw pn fr9 sd9 x h r ft fk st ap ba gr he td).2 &&& F_X5_wantedFrom k' (F_X5_look pw pn fr9 sd9 x h r ft fk st ap ba gr he td).1 (F_X5_look pw pn fr9 sd9 x h r ft fk st ap ba gr he td).2 = (bBY fr9 sd9 mwd now mx mh mr mf mk told hand).1 &&& (bBY fr9 sd9 mwd now mx mh mr mf mk told hand).2 p'.toNatClampNeg &&& (bBY fr9 sd9 mwd now mx mh mr mf mk told hand).2 k'.toNatClampNeg
        rw [F_X5_wantedFrom, F_X5_wantedFrom, q1, q2 p'.toNatClampNeg (by omega), q2 k'.toNatClampNeg (by omega)]
        exact and3 _ _ _
end QB
/-! bits that are cleared and counted -/
theorem hand_bt {sd S : Int32} {hand : Nat -> Int32} (bd : 0 <= sd.toInt /\ sd.toInt <= 8) (j : Nat) : bt (F_X10_handOf S sd hand) j = true ↔ ∃ k : Nat, k < sd.toInt.toNat /\ bt S k = true /\ bt (hand k) j = true := by
  rw [F_X10_handOf, ex_X10_handOf_4, show (Int32.toInt sd - ((0 : Nat) : Int)).toNat = sd.toInt.toNat by omega]
  have q := itr_or (f := bd_X10_handOf_4 sd hand S) (c := fun k => bt S k = true) (v := hand) (a := 0) sd.toInt.toNat (fun k s hk hc => by
    have i := nI_0c (k := k) (by omega)
    have i2 : (Int32.toInt (nI (0 + k))).toNat = k := by omega
    have h := hs_10 S (f := nI (0 + k)) (by omega)
    rw [i2, if_pos hc] at h
    rw [bd_X10_handOf_4, h, if_neg n10, j_X10_handOf_31, i.1]) (fun k s hk hc => by
    have i := nI_0c (k := k) (by omega)
    have i2 : (Int32.toInt (nI (0 + k))).toNat = k := by omega
    have h := hs_10 S (f := nI (0 + k)) (by omega)
    rw [i2, if_neg hc] at h
    rw [bd_X10_handOf_4, h, if_pos rfl, j_X10_handOf_31, or0]) j
  rw [bt_zero] at q
  refine q.trans ⟨fun h9 => ?_, fun h9 => Or.inr h9⟩
  rcases h9 with h9 | h9
  · exact absurd h9 (by decide)
  · exact h9
theorem pcn_zero : ∀ n : Nat, pcn n 0 = 0 := by
  intro n
  induction n with
  | zero => rfl
  | succ n ih =>
    show pcn n 0 + (if bt 0 n = true then 1 else 0) = 0
    rw [ih, bt_zero]; rfl
theorem clrn (x : Int32) {j : Nat} (hj : j < 16) (k : Nat) : bt (x &&& ((1 <<< (nI j &&& 31)) ^^^ (-1))) k = (bt x k && !decide (k = j)) := by
  by_cases h : k < 32
  · rw [bt_and, bt_not _ _ h, bt_shlN j (by omega)]
  · rw [bt_and, bt_ge _ _ (by omega), bt_ge _ _ (by omega), Bool.false_and, Bool.false_and]
theorem pcn_clr1 (x : Int32) {j : Nat} (hj : j < 16) (h : bt x j = true) : pcn 16 (x &&& ((1 <<< (nI j &&& 31)) ^^^ (-1))) + 1 = pcn 16 x := by
  refine pcn_one x _ j h ?_ (fun k hk => ?_) 16 hj
  · rw [clrn x hj, decide_eq_true rfl, h]; rfl
  · rw [clrn x hj, decide_eq_false hk]; simp
theorem pcn_1 {x : Int32} (hx : ∀ k : Nat, 16 <= k -> bt x k = false) {j : Nat} (hj : bt x j = true) : pcn 16 x = 1 ↔ ∀ k : Nat, bt x k = true -> k = j := by
  have j16 : j < 16 := by
    rcases Nat.lt_or_ge j 16 with h | h
    · exact h
    · rw [hx j h] at hj; exact absurd hj (by decide)
  have q := pcn_clr1 x j16 hj
  refine ⟨fun h1 k hk => ?_, fun h1 => ?_⟩
  · rcases Nat.decEq k j with hn | he
    · exfalso
      have k16 : k < 16 := by
        rcases Nat.lt_or_ge k 16 with h | h
        · exact h
        · rw [hx k h] at hk; exact absurd hk (by decide)
      have hk2 : bt (x &&& ((1 <<< (nI j &&& 31)) ^^^ (-1))) k = true := by rw [clrn x j16, hk, decide_eq_false hn]; rfl
      have q2 := pcn_clr1 _ k16 hk2
      omega
    · exact he
  · have e : x &&& ((1 <<< (nI j &&& 31)) ^^^ (-1)) = 0 := bt_ext (fun k _ => by
      rw [clrn x j16, bt_zero]
      cases hk : bt x k
      · rfl
      · rw [h1 k hk, decide_eq_true rfl]; rfl)
    rw [e, pcn_zero] at q
    omega
theorem i_sc (a b c : Int32) : a + b - c = a - c + b := by
  refine Int32.toBitVec_inj.mp ?_
  rw [Int32.toBitVec_sub, Int32.toBitVec_add, Int32.toBitVec_add, Int32.toBitVec_sub]
  exact BitVec.add_sub_comm
theorem i_ss (a b : Int32) : a + b - b = a := by
  refine Int32.toBitVec_inj.mp ?_
  rw [Int32.toBitVec_sub, Int32.toBitVec_add]
  exact BitVec.add_sub_cancel _ _
/-! gentle -/
theorem and_as (a b c : Int32) : (a &&& b) &&& c = a &&& (b &&& c) := bt_ext (fun k _ => by
  rw [bt_and, bt_and, bt_and, bt_and]
  cases bt a k <;> cases bt b k <;> cases bt c k <;> rfl)
section QN
variable {Q : Int32 -> Int32 -> Int32 -> (Nat -> Int32) -> Prop} {fr sd ap ba gr br la he td cl : Int32} {x h w r ft fk mx mh mw mr mf mk st told now : Nat -> Int32}
theorem g50_1 {P : Int32 -> Int32 -> Int32 -> (Nat -> Int32) -> Prop} {KP KQ : Int32 -> Int32 -> Int32 -> Int32 -> Int32 -> (Nat -> Int32) -> Prop} {c g rm x4 : Int32} {row : Nat -> Int32} (hK : KP c g 1 rm 0 row -> KQ c g 1 rm 0 row) (n : Nat) (h9 : wb_X10_gentle_50 P KP fr now mx mh mr mf mk told n c g 1 x4 rm 0 row) : wb_X10_gentle_50 Q KQ fr now mx mh mr mf mk told n c g 1 x4 rm 0 row := by
  cases n with
  | zero => exact False.elim h9
  | succ n =>
    have h9 : ws_X10_gentle_50 P KP (wb_X10_gentle_50 P KP fr now mx mh mr mf mk told n) fr now mx mh mr mf mk told c g 1 x4 rm 0 row := h9
    show ws_X10_gentle_50 Q KQ (wb_X10_gentle_50 Q KQ fr now mx mh mr mf mk told n) fr now mx mh mr mf mk told c g 1 x4 rm 0 row
    unfold ws_X10_gentle_50 at h9 ⊢
    unfold ws_X10_gentle_117 at h9 ⊢
    refine And.intro (fun e => hK (And.left h9 e)) (fun e => And.intro (fun e2 => hK (And.left (And.right h9 e) e2)) (fun e2 => absurd e2 n10))
theorem g50 (T : TR fr sd x h w r ft fk mx mh mw mr mf mk) {P : Int32 -> Int32 -> Int32 -> (Nat -> Int32) -> Prop} {KP KQ : Int32 -> Int32 -> Int32 -> Int32 -> Int32 -> (Nat -> Int32) -> Prop} {c g rm U : Int32} {row : Nat -> Int32} (hs : ∀ j : Nat, bt c j = true -> bt g j = true) (hK0 : U = -1 -> KP c g 0 rm 0 row -> KQ c g 0 rm 0 row) (hK1 : 0 <= U.toInt -> U.toInt < fr.toInt -> bt c U.toInt.toNat = true -> ∀ row' : Nat -> Int32, KP (c &&& ((1 <<< (U &&& 31)) ^^^ (-1))) (g &&& ((1 <<< (U &&& 31)) ^^^ (-1))) 1 (rm + 1) 0 row' -> KQ (c &&& ((1 <<< (U &&& 31)) ^^^ (-1))) (g &&& ((1 <<< (U &&& 31)) ^^^ (-1))) 1 (rm + 1) 0 row') :
    ∀ (n f : Nat) (x4 : Int32), 0 <= x4.toInt -> x4.toInt <= fr.toInt -> f + x4.toInt.toNat = 17 -> U = flp (fs_X3_firstUncovering_2 (fun o0 => o0) fr x h) (fun _ _ _ => 0) f c g x4 -> wb_X10_gentle_50 P KP fr now mx mh mr mf mk told n c g 0 x4 rm 0 row -> wb_X10_gentle_50 Q KQ fr now mx mh mr mf mk told n c g 0 x4 rm 0 row := by
  have bf := T.2.2.1
  have l1 : Int32.toInt (1 : Int32) = 1 := by decide
  intro n
  induction n with
  | zero => intro f x4 _ _ _ _ h9; exact False.elim h9
  | succ n ih =>
    intro f x4 h0 h1 h2 eU h9
    have h9 : ws_X10_gentle_50 P KP (wb_X10_gentle_50 P KP fr now mx mh mr mf mk told n) fr now mx mh mr mf mk told c g 0 x4 rm 0 row := h9
    show ws_X10_gentle_50 Q KQ (wb_X10_gentle_50 Q KQ fr now mx mh mr mf mk told n) fr now mx mh mr mf mk told c g 0 x4 rm 0 row
    obtain ⟨f', rfl⟩ : ∃ f', f = f' + 1 := ⟨f - 1, by omega⟩
    have ax := aAD x4 1 (by omega)
    rw [flp_s, fs_X3_firstUncovering_2] at eU
    unfold ws_X10_gentle_50 at h9 ⊢
    unfold ws_X10_gentle_117 ws_X10_gentle_111 at h9 ⊢
    refine And.intro (fun e => ?_) (fun e => And.intro (fun e2 => absurd rfl e2) (fun e2 => ?_))
    · rw [if_pos e] at eU
      exact hK0 eU (And.left h9 e)
    · have d := mt (aAO _ _).mpr e
      have h9 := And.right (And.right h9 e) e2
      rw [if_neg e] at eU
      have hh := has0 c (f := x4) (by omega)
      have hb := hs_i c (f := x4) (by omega)
      refine du_X10_has h9 ?_
      intro h9
      refine And.intro (fun c1 => ?_) (fun c1 => ?_)
      · have h9 := And.left h9 c1
        rw [if_pos (hh.mp c1), j_X3_firstUncovering_29] at eU
        refine ae ?_
        have h9 := h9 _ rfl
        exact ih f' _ (by omega) (by omega) (by omega) eU h9
      · have h9 := And.right h9 c1
        have c2 : ¬ ((c >>> (x4 &&& 31)) &&& 1) = 0 := fun e => c1 (hh.mpr e)
        have b : bt c x4.toInt.toNat = true := by
          cases hx : bt c x4.toInt.toNat
          · exact absurd (hb.mpr hx) c2
          · rfl
        rw [if_neg c2, lw_eq T (by omega) (hs _ b)] at eU
        refine du_X10_below h9 ?_
        intro h9
        refine And.intro (fun c3 => ?_) (fun c3 => ?_)
        · have h9 := And.left h9 c3
          rw [if_pos c3] at eU
          refine du_X10_tell h9 ?_
          intro h9
          refine ae ?_
          have h9 := h9 _ rfl
          refine ae ?_
          have h9 := h9 _ rfl
          refine ae ?_
          have h9 := h9 _ rfl
          refine ae ?_
          have h9 := h9 _ rfl
          refine ae ?_
          have h9 := h9 _ rfl
          rw [eU] at hK1
          exact g50_1 (hK1 h0 (by omega) b _) n h9
        · have h9 := And.right h9 c3
          rw [if_neg c3, j_X3_firstUncovering_29] at eU
          refine ae ?_
          have h9 := h9 _ rfl
          exact ih f' _ (by omega) (by omega) (by omega) eU h9
theorem gentle_w {fr9 rs rm th : Int32} {rn row : Nat -> Int32} (T : TR fr sd x h w r ft fk mx mh mw mr mf mk) (hst2 : ∀ k : Nat, k < 5 -> st k = told k) (hm : MR fr sd ap ba gr br la he td now) (e1 : fr9 = fr) (h9 : wp_X10_gentle (fun o0 o1 o2 o3 => (F_X9_gentle fr9 x h r ft fk st ap ba gr la he td rs rn).1 = o0 -> Q o0 o1 o2 o3) fr rm th now mx mh mr mf mk told row) : wp_X10_gentle Q fr rm th now mx mh mr mf mk told row := by
  subst e1
  have bf := T.2.2.1
  have l1 : Int32.toInt (1 : Int32) = 1 := by decide
  have l0 : Int32.toInt (0 : Int32) = 0 := by decide
  have l16 : Int32.toInt (16 : Int32) = 16 := by decide
  obtain ⟨R, hR⟩ : ∃ R, R = F_X9_gentle fr9 x h r ft fk st ap ba gr la he td rs rn := ⟨_, rfl⟩
  rw [<- hR] at h9
  rw [F_X9_gentle] at hR
  have loop : ∀ (n f : Nat) (hg fr2 more tn sz : Int32) (nums row : Nat -> Int32), ((¬ more = 0 /\ R = flp (fs_X9_gentle_39 (fun o0 o1 o2 => (o0, o1, o2)) fr9 x h r ft fk st ap ba gr la he td) (fun _ _ _ _ _ => (0, 0, (fun _ => 0))) f hg fr2 tn sz nums /\ f + tn.toInt.toNat = 17 /\ (0 <= tn.toInt /\ tn.toInt <= 16) /\ tn.toInt = sz.toInt /\ pcn 16 hg + tn.toInt.toNat <= 16 /\ ∀ k : Nat, 16 <= k -> bt hg k = false) \/ (more = 0 /\ R.1 = sz)) -> wb_X10_gentle_41 (fun o0 o1 o2 o3 => R.1 = o0 -> Q o0 o1 o2 o3) fr9 now mx mh mr mf mk told n (fr2 &&& hg) hg more sz 0 row -> wb_X10_gentle_41 Q fr9 now mx mh mr mf mk told n (fr2 &&& hg) hg more sz 0 row := by
    intro n
    induction n with
    | zero => intro f hg fr2 more tn sz nums row _ h9; exact False.elim h9
    | succ n ih =>
      intro f hg fr2 more tn sz nums row hI h9
      have h9 : ws_X10_gentle_41 (fun o0 o1 o2 o3 => R.1 = o0 -> Q o0 o1 o2 o3) (wb_X10_gentle_41 (fun o0 o1 o2 o3 => R.1 = o0 -> Q o0 o1 o2 o3) fr9 now mx mh mr mf mk told n) fr9 now mx mh mr mf mk told (fr2 &&& hg) hg more sz 0 row := h9
      show ws_X10_gentle_41 Q (wb_X10_gentle_41 Q fr9 now mx mh mr mf mk told n) fr9 now mx mh mr mf mk told (fr2 &&& hg) hg more sz 0 row
      unfold ws_X10_gentle_41 at h9 ⊢
      rcases hI with ⟨m0, eR, i1, i2, i3, i4, i5⟩ | ⟨m0, eR⟩
      · refine And.intro (fun e => absurd e m0) (fun e => ?_)
        obtain ⟨n2, h9⟩ := And.right h9 e
        refine ⟨n2, ?_⟩
        obtain ⟨f', rfl⟩ : ∃ f', f = f' + 1 := ⟨f - 1, by omega⟩
        rw [flp_s, fs_X9_gentle_39] at eR
        have ax := aAD tn 1 (by omega)
        have az := aAD sz 1 (by omega)
        refine g50 T (U := F_X3_firstUncovering (fr2 &&& hg) hg fr9 x h) (fun j hj => by rw [bt_and, Bool.and_eq_true] at hj; exact hj.2) (fun eU hK => ?_) (fun u0 u1 ub row' hK => ?_) n2 17 0 (by decide) (by omega) (by decide) rfl h9
        · have e : R.1 = sz := by
            by_cases c : (16 : Int32) <= tn
            · rw [if_pos c, j_X9_gentle_91] at eR; rw [eR]
            · rw [if_neg c, if_pos eU, j_X9_gentle_91] at eR; rw [eR]
          exact ih 0 hg fr2 0 0 sz nums row (Or.inr ⟨rfl, e⟩) hK
        · obtain ⟨U, hU⟩ : ∃ U, U = F_X3_firstUncovering (fr2 &&& hg) hg fr9 x h := ⟨_, rfl⟩
          rw [<- hU] at eR u0 u1 ub hK ⊢
          rw [bt_and, Bool.and_eq_true] at ub
          have pc := pcn_clr1 hg (j := U.toInt.toNat) (by omega) ub.2
          have en := tp_nI u0
          rw [<- en] at pc
          have c : ¬ (16 : Int32) <= tn := fun e => by have := (aAO _ _).mp e; omega
          have c2 : ¬ U = -1 := ne_m1 u0
          have c3 : ¬ (16 : Int32) <= sz := fun e => by have := (aAO _ _).mp e; have := mt (aAO _ _).mpr c; omega
          rw [if_neg c, if_neg c2, F_X6_add, if_neg c3] at eR
          have d := mt (aAO _ _).mpr c
          rw [and_as] at hK ⊢
          refine ih f' _ fr2 1 (tn + 1) (sz + 1) _ row' (Or.inl ⟨n10, eR, by omega, by omega, by omega, by omega, fun k hk => ?_⟩) hK
          rw [bt_and, i5 k hk, Bool.false_and]
      · refine And.intro (fun e => ?_) (fun e => absurd m0 e)
        exact And.left h9 e eR
  unfold wp_X10_gentle at h9 ⊢
  refine ae ?_
  have h9 := h9 _ rfl
  rw [c17, <- hm.1.2.2.1] at h9 ⊢
  refine And.intro (fun c => ?_) (fun c => ?_)
  · have h9 := And.left h9 c
    rw [if_neg c] at hR
    refine du_X10_hereWanted h9 ?_
    intro h9
    refine du_X10_which h9 ?_
    intro h9
    obtain ⟨n, h9⟩ := h9
    refine ⟨n, ?_⟩
    rw [mo_hg hm.1.1 bf, <- rd_eq T hst2 hm c] at h9 ⊢
    have es : F_X0_readyHere fr9 x h r ft fk st ap ba gr la he td &&& aVS fr9 ap ba gr = F_X0_readyHere fr9 x h r ft fk st ap ba gr la he td := bt_ext (fun k _ => by
      rw [bt_and]
      cases hx : bt (F_X0_readyHere fr9 x h r ft fk st ap ba gr la he td) k
      · rfl
      · rw [rd_sub T hx]; rfl)
    rw [<- es] at h9 ⊢
    refine loop n 17 _ _ 1 0 0 rn row (Or.inl ⟨n10, hR, by decide, by decide, rfl, ?_, fun k hk => ?_⟩) h9
    · have := pcn_le 16 (aVS fr9 ap ba gr)
      have z : (Int32.toInt (0 : Int32)).toNat = 0 := by decide
      omega
    · cases hx : bt (aVS fr9 ap ba gr) k
      · rfl
      · have := (hg_in bf hx).1
        exfalso; omega
  · have h9 := And.right h9 c
    rw [if_pos c] at hR
    exact h9 (by rw [hR])
end QN
