/-! questions of the moment: hands, worth -/
theorem itr_inv {α : Type} (R : Nat -> α -> Prop) {f : Int32 -> α -> α} {a : α} {i : Nat} (h0 : R 0 a) (n : Nat) (hs : ∀ (k : Nat) (s : α), k < n -> R k s -> R (k + 1) (f (nI (i + k)) s)) : R n (itr f a i n) :=
  itr_rel (i := i) (f := f) (g := f) (a := a) (b := a) (fun k s _ => R k s) h0 n (fun k s _ hk h => hs k s hk h)
theorem has0 (x : Int32) {f : Int32} (hf : 0 <= f.toInt /\ f.toInt < 32) : F_X10_has x f = 0 ↔ ((x >>> (f &&& 31)) &&& 1) = 0 := by
  rw [hs_10 x hf, hs_i x hf]
  cases bt x f.toInt.toNat
  · exact ⟨fun _ => rfl, fun _ => if_neg (by decide)⟩
  · rw [if_pos rfl]
    exact ⟨fun h => absurd h n10, fun h => absurd h (by decide)⟩
theorem rb_eq {sd : Int32} {near hand : Nat -> Int32} (bd : 0 <= sd.toInt /\ sd.toInt <= 8) (hn : ∀ k : Nat, (k : Int) < sd.toInt -> near k = hand k) (S : Int32) : F_X5_reachedBy S near sd = F_X10_handOf S sd hand := by
  rw [F_X5_reachedBy, F_X10_handOf, ex_X5_reachedBy_4, ex_X10_handOf_4]
  refine itr_cg _ (fun k s hk => ?_)
  have i := nI_0c (k := k) (by omega)
  have h := has0 S (f := nI (0 + k)) (by omega)
  rw [bd_X5_reachedBy_4, bd_X10_handOf_4]
  by_cases c : ((S >>> (nI (0 + k) &&& 31)) &&& 1) = 0
  · rw [if_pos c, if_pos (h.mpr c), j_X5_reachedBy_32, j_X10_handOf_31, or0]
  · rw [if_neg c, if_neg (fun e => c (h.mp e)), j_X5_reachedBy_32, j_X10_handOf_31, hn _ (by rw [i.1]; omega)]
theorem wo_eq {fr : Int32} {w mw : Nat -> Int32} (bf : 0 <= fr.toInt /\ fr.toInt <= 16) (hw : ∀ k : Nat, (k : Int) < fr.toInt -> w k = mw k) (S B : Int32) : F_X3_worthOf S B fr w = F_X10_worthOfAll S B fr mw := by
  rw [F_X3_worthOf, F_X10_worthOfAll, ex_X3_worthOf_5, ex_X10_worthOfAll_5]
  refine itr_cg _ (fun k s hk => ?_)
  have i := nI_0c (k := k) (by omega)
  have h := has0 S (f := nI (0 + k)) (by omega)
  have h2 := has0 B (f := nI (0 + k)) (by omega)
  have e := hw _ (show ((nI (0 + k)).toNatClampNeg : Int) < fr.toInt by rw [i.1]; omega)
  rw [bd_X3_worthOf_5, bd_X10_worthOfAll_5]
  by_cases c : ((S >>> (nI (0 + k) &&& 31)) &&& 1) = 0
  · rw [if_pos c, if_pos (h.mpr c), j_X3_worthOf_54, j_X10_worthOfAll_35]
    exact (Int32.add_zero _).symm
  · rw [if_neg c, if_neg (fun e => c (h.mp e)), F_X10_worthOf]
    by_cases c2 : ((B >>> (nI (0 + k) &&& 31)) &&& 1) = 0
    · rw [if_pos c2, if_pos (h2.mpr c2), j_X3_worthOf_52, j_X3_worthOf_54, j_X10_worthOfAll_35, e]
    · rw [if_neg c2, if_neg (fun e => c2 (h2.mp e)), j_X3_worthOf_52, j_X3_worthOf_54, j_X10_worthOfAll_35, e]
theorem up_itr {f : Int32 -> (Nat -> Int32) -> (Nat -> Int32)} {v a : Nat -> Int32} (n : Nat) (hn : n <= 2000) (hf : ∀ (k : Nat) (s : Nat -> Int32), k < n -> f (nI (0 + k)) s = upd s k (v k)) : ∀ j : Nat, j < n -> itr f a 0 n j = v j := by
  have key : ∀ k : Nat, k <= n -> ∀ j : Nat, j < k -> itr f a 0 k j = v j := by
    intro k
    induction k with
    | zero => intro _ j hj; exact absurd hj (by omega)
    | succ k ih =>
      intro hk j hj
      rw [itr_s, hf k _ (by omega)]
      by_cases e : j = k
      · rw [e, upd_i]
      · rw [aGi _ _ e]; exact ih (by omega) j (by omega)
  exact key n (Nat.le_refl n)
section QB
variable {fr sd ap ba gr br la he td cl : Int32} {x h w r ft fk mx mh mw mr mf mk st told now : Nat -> Int32}
/-- what both hold of the hands -/
theorem look_eq (T : TR fr sd x h w r ft fk mx mh mw mr mf mk) (hst2 : ∀ k : Nat, k < 5 -> st k = told k) (hm : MR fr sd ap ba gr br la he td now) (a : Int32) {pw mwd : Int32} {pn hand : Nat -> Int32} : (F_X5_lookAs a td pw pn fr sd x h r ft fk st ap ba gr).1 = (F_X10_layHands_ a fr sd mwd now mx mh mr mf mk told hand).1 /\ ∀ k : Nat, (k : Int) < sd.toInt -> (F_X5_lookAs a td pw pn fr sd x h r ft fk st ap ba gr).2 k = (F_X10_layHands_ a fr sd mwd now mx mh mr mf mk told hand).2 k := by
  have bf := T.2.2.1
  have bd := T.2.2.2.1
  have z : (Int32.toInt sd - ((0 : Nat) : Int)).toNat = sd.toInt.toNat := by omega
  have h1 := up_itr (f := bd_X5_lookAs_13 fr sd x h r ft fk st ap ba gr td (F_X3_reach a 0 st) pw) (v := fun k => F_X3_within (nI (0 + k)) (F_X3_reach a 0 st) fr x h ft fk) (a := pn) (Int32.toInt sd - ((0 : Nat) : Int)).toNat (by omega) (fun k s hk => by
    have i := nI_0c (k := k) (by omega)
    rw [bd_X5_lookAs_13, i.1])
  have h2 := up_itr (f := bd_X10_layHands__2 fr sd now mx mh mr mf mk told a mwd) (v := fun k => aLM (nI (0 + k)) a 0 fr mx mh mf mk told) (a := hand) (Int32.toInt sd - ((0 : Nat) : Int)).toNat (by omega) (fun k s hk => by
    have i := nI_0c (k := k) (by omega)
    rw [bd_X10_layHands__2, i.1])
  have key : ∀ k : Nat, (k : Int) < sd.toInt -> itr (bd_X5_lookAs_13 fr sd x h r ft fk st ap ba gr td (F_X3_reach a 0 st) pw) pn 0 (Int32.toInt sd - ((0 : Nat) : Int)).toNat k = itr (bd_X10_layHands__2 fr sd now mx mh mr mf mk told a mwd) hand 0 (Int32.toInt sd - ((0 : Nat) : Int)).toNat k := by
    intro k hk
    have i := nI_0c (k := k) (by omega)
    rw [h1 k (by omega), h2 k (by omega)]
    exact wi_eq T hst2 a 0 (by omega)
  rw [F_X5_lookAs, F_X10_layHands_, ex_X5_lookAs_13, ex_X10_layHands__2]
  refine ⟨?_, key⟩
  show aVS fr ap ba gr &&& F_X3_ripeBy td fr r &&& F_X5_reachedBy (F_X3_allStandings sd) _ sd = aUf 0 fr now &&& F_X10_ripeOnes (now (19 : Int32).toNatClampNeg) fr mr &&& F_X10_handOf (F_X10_allStandings sd) sd _
  rw [rb_eq bd key, rp_eq T, mo_hg hm.1.1 bf, c19, <- hm.1.2.2.2.2]
  rfl
theorem look_e (T : TR fr sd x h w r ft fk mx mh mw mr mf mk) (hst2 : ∀ k : Nat, k < 5 -> st k = told k) (hm : MR fr sd ap ba gr br la he td now) {pw mwd : Int32} {pn hand : Nat -> Int32} : (F_X5_look pw pn fr sd x h r ft fk st ap ba gr he td).1 = (bBY fr sd mwd now mx mh mr mf mk told hand).1 /\ ∀ k : Nat, (k : Int) < sd.toInt -> (F_X5_look pw pn fr sd x h r ft fk st ap ba gr he td).2 k = (bBY fr sd mwd now mx mh mr mf mk told hand).2 k := by
  rw [F_X5_look, bBY, c18, <- hm.1.2.2.2.1]
  exact look_eq T hst2 hm he
theorem from_eq (T : TR fr sd x h w r ft fk mx mh mw mr mf mk) (hst2 : ∀ k : Nat, k < 5 -> st k = told k) (hm : MR fr sd ap ba gr br la he td now) {p k p' k' fr9 sd9 th : Int32} (hp : p' = p) (hk : k' = k) (e1 : fr9 = fr) (e2 : sd9 = sd) : F_X9_from p k fr9 sd9 x h ft fk st he = (F_X10_from p' k' fr sd th now mx mh mf mk told).1 := by
  subst hp hk e1 e2
  have bf := T.2.2.1
  have bd := T.2.2.2.1
  rw [F_X9_from, F_X10_from, yn_eq]
  rcases hfr (p := p') (fr := fr9) (by omega) with ⟨a, b, _⟩ | ⟨a, b, g⟩
  · rw [if_pos a, if_pos b]
  · rw [if_neg (neg1 a), if_neg (neg1 b)]
    rcases in01 k' 0 1 with ⟨q, _⟩ | ⟨q, _⟩
    · rw [if_pos q, if_pos q]
    · rw [if_neg (neg1 q), if_neg (neg1 q), ex_X9_from_42, ex_X10_from_29]
      refine itr_cg _ (fun k s hk => ?_)
      have i := nI_0c (k := k) (by omega)
      rw [bd_X9_from_42, bd_X10_from_29, iw_eq T _ g (by omega), rch_eq hst2, c18, <- hm.1.2.2.2.1, j_X9_from_77, j_X9_from_77, j_X10_from_69, j_X10_from_69, or0]
theorem never_eq (T : TR fr sd x h w r ft fk mx mh mw mr mf mk) (hst2 : ∀ k : Nat, k < 5 -> st k = told k) (hm : MR fr sd ap ba gr br la he td now) {fr9 sd9 th rs rm : Int32} {rn row : Nat -> Int32} (e1 : fr9 = fr) (e2 : sd9 = sd) : (F_X9_never fr9 sd9 x h w ft fk st ap ba gr br rs rn).1 = (F_X10_never fr sd rm th now mx mh mw mf mk told row).1 := by
  subst e1 e2
  have bf := T.2.2.1
  have bd := T.2.2.2.1
  rw [F_X9_never, F_X10_never, ex_X9_never_10, ex_X10_never_17, mo_hg hm.1.1 bf]
  refine itr_cg _ (fun k s hk => ?_)
  have i := nI_0c (k := k) (by omega)
  rw [bd_X9_never_10, bd_X10_never_17, wi_eq T hst2 1 1 (by omega)]
theorem and3 (a b c : Int32) : (a &&& b) &&& (a &&& c) = (a &&& b) &&& c := bt_ext (fun k _ => by
  rw [bt_and, bt_and, bt_and, bt_and, bt_and]
  cases bt a k <;> cases bt b k <;> cases bt c k <;> rfl)
theorem both_eq (T : TR fr sd x h w r ft fk mx mh mw mr mf mk) (hst2 : ∀ k : Nat, k < 5 -> st k = told k) (hm : MR fr sd ap ba gr br la he td now) {p k p' k' fr9 sd9 th rs rm pw mwd : Int32} {rn row pn hand : Nat -> Int32} (hp : p' = p) (hk : k' = k) (e1 : fr9 = fr) (e2 : sd9 = sd) : (F_X9_both p k pw pn fr9 sd9 x h r ft fk st ap ba gr he td rs rn).1 = (F_X10_both p' k' fr sd rm th mwd now mx mh mr mf mk told row hand).1 := by
  subst hp hk e1 e2
  have bd := T.2.2.2.1
  rw [F_X9_both, F_X10_both]
  rcases hst (p := p') (sd := sd9) (by omega) with ⟨a, b, _⟩ | ⟨a, b, g⟩
  · rw [if_pos a, if_pos b]
  · rw [if_neg (neg1 a), if_neg (neg1 b)]
    rcases hst (p := k') (sd := sd9) (by omega) with ⟨a2, b2, _⟩ | ⟨a2, b2, g2⟩
    · rw [if_pos a2, if_pos b2]
    · rw [if_neg (neg1 a2), if_neg (neg1 b2)]
      by_cases c : p' = k'
      · rw [if_pos c, if_pos c]
      · rw [if_neg c, if_neg c]
        obtain ⟨q1, q2⟩ := look_e T hst2 hm (pw := pw) (pn := pn) (mwd := mwd) (hand := hand)
        have c1 := cl_n p'
        have c2 := cl_n k'
        show F_X5_wantedFrom p' (F_X5_look pw pn fr9 sd9 x h r ft fk st ap ba gr he td).1 (F_X5_look pw pn fr9 sd9 x h r ft fk st ap ba gr he td).2 &&& F_X5_wantedFrom k' (F_X5_look pw pn fr9 sd9 x h r ft fk st ap ba gr he td).1 (F_X5_look pw pn fr9 sd9 x h r ft fk st ap ba gr he td).2 = (bBY fr9 sd9 mwd now mx mh mr mf mk told hand).1 &&& (bBY fr9 sd9 mwd now mx mh mr mf mk told hand).2 p'.toNatClampNeg &&& (bBY fr9 sd9 mwd now mx mh mr mf mk told hand).2 k'.toNatClampNeg
        rw [F_X5_wantedFrom, F_X5_wantedFrom, q1, q2 p'.toNatClampNeg (by omega), q2 k'.toNatClampNeg (by omega)]
        exact and3 _ _ _
end QB
/-! bits that are cleared and counted -/
theorem hand_bt {sd S : Int32} {hand : Nat -> Int32} (bd : 0 <= sd.toInt /\ sd.toInt <= 8) (j : Nat) : bt (F_X10_handOf S sd hand) j = true ↔ ∃ k : Nat, k < sd.toInt.toNat /\ bt S k = true /\ bt (hand k) j = true := by
  rw [F_X10_handOf, ex_X10_handOf_4, show (Int32.toInt sd - ((0 : Nat) : Int)).toNat = sd.toInt.toNat by omega]
  have q := itr_or (f := bd_X10_handOf_4 sd hand S) (c := fun k => bt S k = true) (v := hand) (a := 0) sd.toInt.toNat (fun k s hk hc => by
    have i := nI_0c (k := k) (by omega)
    have i2 : (Int32.toInt (nI (0 + k))).toNat = k := by omega
    have h := hs_10 S (f := nI (0 + k)) (by omega)
    rw [i2, if_pos hc] at h
    rw [bd_X10_handOf_4, h, if_neg n10, j_X10_handOf_31, i.1]) (fun k s hk hc => by
    have i := nI_0c (k := k) (by omega)
    have i2 : (Int32.toInt (nI (0 + k))).toNat = k := by omega
    have h := hs_10 S (f := nI (0 + k)) (by omega)
    rw [i2, if_neg hc] at h
    rw [bd_X10_handOf_4, h, if_pos rfl, j_X10_handOf_31, or0]) j
  rw [bt_zero] at q
  refine q.trans ⟨fun h9 => ?_, fun h9 => Or.inr h9⟩
  rcases h9 with h9 | h9
  · exact absurd h9 (by decide)
  · exact h9
theorem pcn_zero : ∀ n : Nat, pcn n 0 = 0 := by
  intro n
  induction n with
  | zero => rfl
  | succ n ih =>
    show pcn n 0 + (if bt 0 n = true then 1 else 0) = 0
    rw [ih, bt_zero]; rfl
theorem clrn (x : Int32) {j : Nat} (hj : j < 16) (k : Nat) : bt (x &&& ((1 <<< (nI j &&& 31)) ^^^ (-1))) k = (bt x k && !decide (k = j)) := by
  by_cases h : k < 32
  · rw [bt_and, bt_not _ _ h, bt_shlN j (by omega)]
  · rw [bt_and, bt_ge _ _ (by omega), bt_ge _ _ (by omega), Bool.false_and, Bool.false_and]
theorem pcn_clr1 (x : Int32) {j : Nat} (hj : j < 16) (h : bt x j = true) : pcn 16 (x &&& ((1 <<< (nI j &&& 31)) ^^^ (-1))) + 1 = pcn 16 x := by
  refine pcn_one x _ j h ?_ (fun k hk => ?_) 16 hj
  · rw [clrn x hj, decide_eq_true rfl, h]; rfl
  · rw [clrn x hj, decide_eq_false hk]; simp
theorem pcn_1 {x : Int32} (hx : ∀ k : Nat, 16 <= k -> bt x k = false) {j : Nat} (hj : bt x j = true) : pcn 16 x = 1 ↔ ∀ k : Nat, bt x k = true -> k = j := by
  have j16 : j < 16 := by
    rcases Nat.lt_or_ge j 16 with h | h
    · exact h
    · rw [hx j h] at hj; exact absurd hj (by decide)
  have q := pcn_clr1 x j16 hj
  refine ⟨fun h1 k hk => ?_, fun h1 => ?_⟩
  · rcases Nat.decEq k j with hn | he
    · exfalso
      have k16 : k < 16 := by
        rcases Nat.lt_or_ge k 16 with h | h
        · exact h
        · rw [hx k h] at hk; exact absurd hk (by decide)
      have hk2 : bt (x &&& ((1 <<< (nI j &&& 31)) ^^^ (-1))) k = true := by rw [clrn x j16, hk, decide_eq_false hn]; rfl
      have q2 := pcn_clr1 _ k16 hk2
      omega
    · exact he
  · have e : x &&& ((1 <<< (nI j &&& 31)) ^^^ (-1)) = 0 := bt_ext (fun k _ => by
      rw [clrn x j16, bt_zero]
      cases hk : bt x k
      · rfl
      · rw [h1 k hk, decide_eq_true rfl]; rfl)
    rw [e, pcn_zero] at q
    omega
theorem i_sc (a b c : Int32) : a + b - c = a - c + b := by
  refine Int32.toBitVec_inj.mp ?_
  rw [Int32.toBitVec_sub, Int32.toBitVec_add, Int32.toBitVec_add, Int32.toBitVec_sub]
  exact BitVec.add_sub_comm
theorem i_ss (a b : Int32) : a + b - b = a := by
  refine Int32.toBitVec_inj.mp ?_
  rw [Int32.toBitVec_sub, Int32.toBitVec_add]
  exact BitVec.add_sub_cancel _ _
/-! grass (printed by qr.py) -/
def FG (R : Int32 × Int32 × Int32 × (Nat -> Int32)) (l n at1 wr : Int32) (g : Nat -> Int32) : Prop := (wr = -1 /\ R.2.1 = at1 /\ R.2.2.1 = n /\ (1 <= n.toInt /\ n.toInt <= 6) /\ (0 <= at1.toInt /\ at1.toInt <= (stp l 80).toInt) /\ (∀ k : Nat, (k : Int) < n.toInt -> R.2.2.2 k = g k) /\ R.1 = F_X8_isThrough l at1) \/ (R.1 = 0 /\ wr = R.2.1 /\ 0 <= wr.toInt)
def GI (R : Int32 × Int32 × Int32 × (Nat -> Int32)) (l n more at1 wr : Int32) (sg g : Nat -> Int32) : Prop := (¬ more = 0 /\ wr = -1 /\ ∃ (f : Nat) (xa : Nat -> Int32), R = flp (fs_X1_readAll_5 (fun o0 o1 o2 o3 => (o0, o1, o2, o3)) l (stp l 80) sg) (fun _ _ _ => (0, 0, 0, (fun _ => 0))) f at1 n xa /\ f + n.toInt.toNat = 7 /\ 0 <= n.toInt /\ n.toInt <= 6 /\ 0 <= at1.toInt /\ at1.toInt <= (stp l 80).toInt /\ ∀ k : Nat, (k : Int) < n.toInt -> xa k = g k) \/ (more = 0 /\ FG R l n at1 wr g)
section QR
variable {P Q : Int32 -> Int32 -> Int32 -> Int32 -> Nat -> Int32 -> Int32 -> Int32 -> Int32 -> (Nat -> Int32) -> (Nat -> Int32) -> (Nat -> Int32) -> Prop} {sd l e rm : Int32} {mf tx ru row rows sg : Nat -> Int32} {R : Int32 × Int32 × Int32 × (Nat -> Int32)}
theorem grA (hs : ∀ k : Nat, sg k = tx k &&& 255) (hl : l.toInt <= 80) (hq : ∀ (n at1 wr : Int32) (g : Nat -> Int32), FG R l n at1 wr g -> ws_X10_grass_93 P sd mf tx ru e n 0 rm 0 1 l 80 at1 wr row g rows -> ws_X10_grass_93 Q sd mf tx ru e n 0 rm 0 1 l 80 at1 wr row g rows) :
    ∀ (m : Nat) (n more at1 wr : Int32) (g : Nat -> Int32), GI R l n more at1 wr sg g -> wb_X10_grass_41 P sd mf tx ru m e n more 0 rm 0 1 l 80 at1 wr row g rows -> wb_X10_grass_41 Q sd mf tx ru m e n more 0 rm 0 1 l 80 at1 wr row g rows := by
  have l1 : Int32.toInt (1 : Int32) = 1 := by decide
  have l6 : Int32.toInt (6 : Int32) = 6 := by decide
  have hst := stp_r l 80
  intro m
  induction m with
  | zero => intro n more at1 wr g _ h; exact False.elim h
  | succ m ih =>
    intro n more at1 wr g hI h
    have h : ws_X10_grass_41 P (wb_X10_grass_41 P sd mf tx ru m) sd mf tx ru e n more 0 rm 0 1 l 80 at1 wr row g rows := h
    show ws_X10_grass_41 Q (wb_X10_grass_41 Q sd mf tx ru m) sd mf tx ru e n more 0 rm 0 1 l 80 at1 wr row g rows
    unfold ws_X10_grass_41 at h ⊢
    unfold ws_X10_grass_80 at h ⊢
    rcases hI with ⟨k2, kw, f, xa, eR, g1, g2, g3, g4, g5, g6⟩ | ⟨k2, hF⟩
    · subst kw
      refine And.intro (fun c => absurd c k2) (fun _ => ?_)
      have h := And.right h k2
      refine du_X10_fine h ?_
      intro h
      refine And.intro (fun c => absurd c fine_m) (fun c => ?_)
      have h := And.right h c
      have ax := aAD n 1 (by omega)
      have en := cl_n n
      obtain ⟨f', rfl⟩ : ∃ f', f = f' + 1 := ⟨f - 1, by omega⟩
      rw [flp_s, fs_X1_readAll_5] at eR
      refine And.intro (fun c6 => ?_) (fun c6 => ?_)
      · have h := And.left h c6
        have d6 := mt (zJ _ _).mpr c6
        have k6 : ¬ (6 : Int32) <= n := fun e => by have := (aAO _ _).mp e; omega
        rw [if_neg k6] at eR
        refine aEu (by decide) h ?_
        intro h
        refine And.intro (And.left h) ?_
        have h := And.right h
        refine ae ?_
        have h := h _ rfl
        refine du_X10_passes h ?_
        intro h
        refine ih _ _ _ _ _ ?_ h
        by_cases c1 : aC7 at1 (stp l 80) sg = -1
        · rw [c_no c1, if_pos (rfl : ((-1 : Int32), at1).1 = -1)] at eR
          rw [m_no (d := 2) hs (show 0 <= at1.toInt /\ at1.toInt <= 100 by omega) (by decide) c1]
          have wn := ne_m1 g4
          rw [pas_w (show ¬ ((0 : Int32), at1, at1).2.2 = -1 from wn)]
          refine Or.inr ⟨rfl, Or.inr ⟨?_, ?_, g4⟩⟩
          · rw [eR]
          · rw [eR]
        · have v1 := nv2_r c1
          have b4 := np2_r (p := at1) g4 (by omega) c1
          rw [c2_ok c1, if_neg (ne_m1 v1.1 : ¬ (nv2 (stp l 80) sg at1, np2 (stp l 80) sg at1).1 = -1)] at eR
          rw [m2_ok hs (show 0 <= at1.toInt /\ at1.toInt <= 100 by omega) c1]
          dsimp only at eR ⊢
          rw [pas_eq hs]
          have hg : ∀ k : Nat, (k : Int) < (n + 1).toInt -> upd xa n.toNatClampNeg (nv2 (stp l 80) sg at1) k = upd g n.toNatClampNeg (nv2 (stp l 80) sg at1) k := by
            intro k hk
            by_cases ek : k = n.toNatClampNeg
            · rw [ek, upd_i, upd_i]
            · rw [aGi _ _ ek, aGi _ _ ek]; exact g6 k (by omega)
          by_cases c44 : aE7 (np2 (stp l 80) sg at1) (stp l 80) sg = 44
          · have b2 := hr_c c44 (by decide)
            have b3 := p1_r (p := np2 (stp l 80) sg at1) (st := (stp l 80)) (by omega) (by omega) b2
            rw [tk_y c44]
            rw [tk_y c44, if_neg (n10 : ¬ ((1 : Int32), np2 (stp l 80) sg at1 + 1).1 = 0)] at eR
            exact Or.inl ⟨n10, rfl, f', _, eR, by omega, by omega, by omega, by show 0 <= (np2 (stp l 80) sg at1 + 1).toInt; omega, by show (np2 (stp l 80) sg at1 + 1).toInt <= _; omega, hg⟩
          · rw [tk_n c44]
            rw [tk_n c44, if_pos (rfl : ((0 : Int32), np2 (stp l 80) sg at1).1 = 0)] at eR
            refine Or.inr ⟨rfl, Or.inl ⟨rfl, by rw [eR], by rw [eR], by omega, by show 0 <= (np2 (stp l 80) sg at1).toInt /\ (np2 (stp l 80) sg at1).toInt <= _; omega, ?_, by rw [eR]⟩⟩
            rw [eR]; exact hg
      · have h := And.right h c6
        have k6 : (6 : Int32) <= n := by rw [c6]; decide
        rw [if_pos k6] at eR
        refine du_X10_fault h ?_
        intro h
        refine ae ?_
        have h := h _ rfl
        refine du_X10_passes h ?_
        intro h
        refine ih _ _ _ _ _ ?_ h
        have wn := ne_m1 g4
        rw [fault_m, pas_w wn]
        exact Or.inr ⟨rfl, Or.inr ⟨by rw [eR], by rw [eR], g4⟩⟩
    · refine And.intro (fun _ => hq _ _ _ _ hF (And.left h k2)) (fun c => absurd k2 c)
end QR
/-- the sum of n cells from b -/
def smr (rows : Nat -> Int32) (b : Nat) : Nat -> Int32
  | 0 => 0
  | n + 1 => smr rows b n + rows (b + n)
/-- .. without the one at s -/
def sme (rows : Nat -> Int32) (b s : Nat) : Nat -> Int32
  | 0 => 0
  | n + 1 => if n = s then sme rows b s n else sme rows b s n + rows (b + n)
theorem smr_c {f g : Nat -> Int32} {b : Nat} : ∀ n : Nat, (∀ k : Nat, k < n -> f (b + k) = g (b + k)) -> smr f b n = smr g b n := by
  intro n
  induction n with
  | zero => intro _; rfl
  | succ n ih =>
    intro h
    show smr f b n + f (b + n) = smr g b n + g (b + n)
    rw [ih (fun k hk => h k (by omega)), h n (by omega)]
theorem sme_lt {f : Nat -> Int32} {b s : Nat} : ∀ n : Nat, n <= s -> sme f b s n = smr f b n := by
  intro n
  induction n with
  | zero => intro _; rfl
  | succ n ih =>
    intro h
    show (if n = s then sme f b s n else sme f b s n + f (b + n)) = smr f b n + f (b + n)
    rw [if_neg (by omega), ih (by omega)]
theorem sme_v {f : Nat -> Int32} {b s : Nat} : ∀ n : Nat, s < n -> sme f b s n = smr f b n - f (b + s) := by
  intro n
  induction n with
  | zero => intro h; exact absurd h (by omega)
  | succ n ih =>
    intro h
    show (if n = s then sme f b s n else sme f b s n + f (b + n)) = smr f b n + f (b + n) - f (b + s)
    by_cases c : n = s
    · rw [if_pos c, c, sme_lt s (Nat.le_refl s), i_ss]
    · rw [if_neg c, ih (by omega), i_sc]
theorem smr_0 {f : Nat -> Int32} {b n : Nat} (h : ∀ k : Nat, n <= k -> k < 8 -> f (b + k) = 0) : ∀ m : Nat, n + m <= 8 -> smr f b (n + m) = smr f b n := by
  intro m
  induction m with
  | zero => intro _; rfl
  | succ m ih =>
    intro hm
    show smr f b (n + m) + f (b + (n + m)) = smr f b n
    rw [ih (by omega), h (n + m) (by omega) (by omega)]
    exact Int32.add_zero _
theorem sme_c {f h : Nat -> Int32} {b s : Nat} : ∀ n : Nat, (∀ k : Nat, k < n -> f (b + k) = h (b + k)) -> sme f b s n = sme h b s n := by
  intro n
  induction n with
  | zero => intro _; rfl
  | succ n ih =>
    intro q
    show (if n = s then sme f b s n else sme f b s n + f (b + n)) = (if n = s then sme h b s n else sme h b s n + h (b + n))
    rw [ih (fun k hk => q k (by omega)), q n (by omega)]
section QR2
variable {P Q : Int32 -> Int32 -> Int32 -> Int32 -> Nat -> Int32 -> Int32 -> Int32 -> Int32 -> (Nat -> Int32) -> (Nat -> Int32) -> (Nat -> Int32) -> Prop} {KP KQ : Int32 -> Int32 -> Int32 -> Int32 -> Int32 -> Int32 -> Int32 -> Nat -> Int32 -> Int32 -> Int32 -> Int32 -> (Nat -> Int32) -> (Nat -> Int32) -> (Nat -> Int32) -> Prop} {JP JQ : Int32 -> Int32 -> Int32 -> Int32 -> Int32 -> Int32 -> Int32 -> Int32 -> Nat -> Int32 -> Int32 -> Int32 -> Int32 -> (Nat -> Int32) -> (Nat -> Int32) -> (Nat -> Int32) -> Prop} {sd e n2 rm le to at1 wr : Int32} {rd : Nat} {mf tx ru row g : Nat -> Int32}
theorem g169 {x4 x5 x6 X7 : Int32} {rows : Nat -> Int32} (bd : 0 <= sd.toInt /\ sd.toInt <= 8) (h5 : 0 <= x5.toInt /\ x5.toInt <= 5) (h6 : 0 <= x6.toInt /\ x6.toInt < sd.toInt) (h219 : ws_X10_grass_219 P KP JP sd mf tx ru e n2 x4 x5 x6 X7 0 rm 0 rd le to at1 wr row g rows -> ws_X10_grass_219 Q KQ JQ sd mf tx ru e n2 x4 x5 x6 X7 0 rm 0 rd le to at1 wr row g rows) :
    ∀ (m : Nat) (x8 x7 : Int32), 0 <= x8.toInt -> x8.toInt <= sd.toInt -> ((n2 - 1 <= x5 /\ x7 = X7) \/ (¬ n2 - 1 <= x5 /\ x7 = sme rows (8 * (x5.toInt.toNat + 1)) x6.toInt.toNat x8.toInt.toNat /\ X7 = sme rows (8 * (x5.toInt.toNat + 1)) x6.toInt.toNat sd.toInt.toNat)) -> wb_X10_grass_169 P KP JP sd mf tx ru m e n2 x4 x5 x6 x7 x8 0 rm 0 rd le to at1 wr row g rows -> wb_X10_grass_169 Q KQ JQ sd mf tx ru m e n2 x4 x5 x6 x7 x8 0 rm 0 rd le to at1 wr row g rows := by
  have l1 : Int32.toInt (1 : Int32) = 1 := by decide
  have l8 : Int32.toInt (8 : Int32) = 8 := by decide
  intro m
  induction m with
  | zero => intro x8 x7 _ _ _ h; exact False.elim h
  | succ m ih =>
    intro x8 x7 h0 h1 hI h
    have h : ws_X10_grass_169 P KP JP (wb_X10_grass_169 P KP JP sd mf tx ru m) sd mf tx ru e n2 x4 x5 x6 x7 x8 0 rm 0 rd le to at1 wr row g rows := h
    show ws_X10_grass_169 Q KQ JQ (wb_X10_grass_169 Q KQ JQ sd mf tx ru m) sd mf tx ru e n2 x4 x5 x6 x7 x8 0 rm 0 rd le to at1 wr row g rows
    unfold ws_X10_grass_169 at h ⊢
    unfold ws_X10_grass_213 at h ⊢
    refine And.intro (fun c => ?_) (fun c => ?_)
    · have d := (aAO _ _).mp c
      have ex : x7 = X7 := by
        rcases hI with ⟨_, q⟩ | ⟨_, q1, q2⟩
        · exact q
        · rw [q1, q2, show x8.toInt.toNat = sd.toInt.toNat by omega]
      have h := And.left h c
      rw [ex] at h ⊢
      exact h219 h
    · have d := mt (aAO _ _).mpr c
      have h := And.right h c
      have ax := aAD x8 1 (by omega)
      have en : (x8 + 1).toInt.toNat = x8.toInt.toNat + 1 := by omega
      rcases hI with ⟨q0, q⟩ | ⟨q0, q1, q2⟩
      · refine And.intro (fun c2 => ?_) (fun c2 => absurd q0 c2)
        have h := And.left h c2
        rw [q] at h ⊢
        exact h219 h
      · refine And.intro (fun c2 => absurd c2 q0) (fun c2 => ?_)
        have h := And.right h c2
        refine And.intro (fun c3 => ?_) (fun c3 => ?_)
        · have h := And.left h c3
          refine ae ?_
          have h := h _ rfl
          refine ih _ _ (by omega) (by omega) (Or.inr ⟨q0, ?_, q2⟩) h
          rw [en, q1]
          show _ = (if x8.toInt.toNat = x6.toInt.toNat then sme rows (8 * (x5.toInt.toNat + 1)) x6.toInt.toNat x8.toInt.toNat else _)
          rw [if_pos (by rw [c3])]
        · have h := And.right h c3
          have d3 := mt (zJ _ _).mpr c3
          have a5 := aAD x5 1 (by omega)
          have m5 := ta_cmul 8 (x5 + 1) l8 (by omega)
          have a8 := aAD (8 * (x5 + 1)) x8 (by omega)
          have ei : (8 * (x5 + 1) + x8).toNatClampNeg = 8 * (x5.toInt.toNat + 1) + x8.toInt.toNat := by rw [cl_n]; omega
          refine ae ?_
          have h := h _ rfl
          refine ae ?_
          have h := h _ rfl
          refine And.intro (And.left h) ?_
          have h := And.right h
          refine ae ?_
          have h := h _ rfl
          refine ae ?_
          have h := h _ rfl
          refine ih _ _ (by omega) (by omega) (Or.inr ⟨q0, ?_, q2⟩) h
          rw [en, q1, ei]
          show _ = (if x8.toInt.toNat = x6.toInt.toNat then _ else sme rows (8 * (x5.toInt.toNat + 1)) x6.toInt.toNat x8.toInt.toNat + rows (8 * (x5.toInt.toNat + 1) + x8.toInt.toNat))
          rw [if_neg (by omega)]
/-- what stands in a cell of the row of mark x5 -/
noncomputable def cellv (sd e n2 x5 : Int32) (mf g rows : Nat -> Int32) (j : Nat) : Int32 := if e < (if 0 <= mf j - g x5.toInt.toNat then mf j - g x5.toInt.toNat else 0 - (mf j - g x5.toInt.toNat)) then 0 else (if n2 - 1 <= x5 then 1 else sme rows (8 * (x5.toInt.toNat + 1)) j sd.toInt.toNat)
theorem g142 {x5 : Int32} {rows0 : Nat -> Int32} (bd : 0 <= sd.toInt /\ sd.toInt <= 8) (h5 : 0 <= x5.toInt /\ x5.toInt <= 5) (hn : x5.toInt + 1 <= n2.toInt /\ n2.toInt <= 6) (hK : ∀ (x4 : Int32) (rows : Nat -> Int32), (∀ j : Nat, j < sd.toInt.toNat -> rows (8 * x5.toInt.toNat + j) = cellv sd e n2 x5 mf g rows0 j) -> (∀ i : Nat, (i < 8 * x5.toInt.toNat \/ 8 * x5.toInt.toNat + 8 <= i) -> rows i = rows0 i) -> ((¬ x5 = 0 -> x4 = 0) /\ (x5 = 0 -> x4 = smr rows 0 sd.toInt.toNat)) -> KP e n2 x4 (x5 + (-1)) 0 rm 0 rd le to at1 wr row g rows -> KQ e n2 x4 (x5 + (-1)) 0 rm 0 rd le to at1 wr row g rows) :
    ∀ (m : Nat) (x4 x6 : Int32) (rows : Nat -> Int32), 0 <= x6.toInt -> x6.toInt <= sd.toInt -> (∀ j : Nat, j < x6.toInt.toNat -> rows (8 * x5.toInt.toNat + j) = cellv sd e n2 x5 mf g rows0 j) -> (∀ i : Nat, (i < 8 * x5.toInt.toNat \/ 8 * x5.toInt.toNat + 8 <= i) -> rows i = rows0 i) -> ((¬ x5 = 0 -> x4 = 0) /\ (x5 = 0 -> x4 = smr rows 0 x6.toInt.toNat)) -> wb_X10_grass_142 P KP sd mf tx ru m e n2 x4 x5 x6 0 rm 0 rd le to at1 wr row g rows -> wb_X10_grass_142 Q KQ sd mf tx ru m e n2 x4 x5 x6 0 rm 0 rd le to at1 wr row g rows := by
  have l1 : Int32.toInt (1 : Int32) = 1 := by decide
  have l0 : Int32.toInt (0 : Int32) = 0 := by decide
  have l8 : Int32.toInt (8 : Int32) = 8 := by decide
  intro m
  induction m with
  | zero => intro x4 x6 rows _ _ _ _ _ h; exact False.elim h
  | succ m ih =>
    intro x4 x6 rows h0 h1 i1 i2 i3 h
    have h : ws_X10_grass_142 P KP (wb_X10_grass_142 P KP sd mf tx ru m) sd mf tx ru e n2 x4 x5 x6 0 rm 0 rd le to at1 wr row g rows := h
    show ws_X10_grass_142 Q KQ (wb_X10_grass_142 Q KQ sd mf tx ru m) sd mf tx ru e n2 x4 x5 x6 0 rm 0 rd le to at1 wr row g rows
    unfold ws_X10_grass_142 at h ⊢
    have s1 := aCA n2 1 (by omega)
    refine And.intro (fun c => ?_) (fun c => ?_)
    · have d := (aAO _ _).mp c
      have e6 : x6.toInt.toNat = sd.toInt.toNat := by omega
      have h := And.left h c
      refine ae ?_
      have h := h _ rfl
      rw [e6] at i1 i3
      exact hK _ _ i1 i2 i3 h
    · have d := mt (aAO _ _).mpr c
      have h := And.right h c
      have ax := aAD x6 1 (by omega)
      have en : (x6 + 1).toInt.toNat = x6.toInt.toNat + 1 := by omega
      have e6 := cl_n x6
      have e5 := cl_n x5
      have m5 := ta_cmul 8 x5 l8 (by omega)
      have a8 := aAD (8 * x5) x6 (by omega)
      have ei : (8 * x5 + x6).toNatClampNeg = 8 * x5.toInt.toNat + x6.toInt.toNat := by rw [cl_n]; omega
      obtain ⟨X7, hX⟩ : ∃ X, X = (if n2 - 1 <= x5 then (1 : Int32) else sme rows0 (8 * (x5.toInt.toNat + 1)) x6.toInt.toNat sd.toInt.toNat) := ⟨_, rfl⟩
      have cv : cellv sd e n2 x5 mf g rows0 x6.toInt.toNat = if e < (if 0 <= mf x6.toInt.toNat - g x5.toInt.toNat then mf x6.toInt.toNat - g x5.toInt.toNat else 0 - (mf x6.toInt.toNat - g x5.toInt.toNat)) then 0 else X7 := by unfold cellv; rw [hX]
      -- behind the sum
      have h259 : ∀ k2 : Int32, k2 = cellv sd e n2 x5 mf g rows0 x6.toInt.toNat -> ws_X10_grass_259 P KP (wb_X10_grass_142 P KP sd mf tx ru m) sd mf tx ru e n2 x4 x5 x6 (8 * x5 + x6) k2 0 rm 0 rd le to at1 wr row g rows -> ws_X10_grass_259 Q KQ (wb_X10_grass_142 Q KQ sd mf tx ru m) sd mf tx ru e n2 x4 x5 x6 (8 * x5 + x6) k2 0 rm 0 rd le to at1 wr row g rows := by
        intro k2 hk h
        unfold ws_X10_grass_259 at h ⊢
        unfold ws_X10_grass_277 at h ⊢
        refine And.intro (And.left h) ?_
        have h := And.right h
        have j1 : ∀ j : Nat, j < (x6 + 1).toInt.toNat -> upd rows (8 * x5 + x6).toNatClampNeg k2 (8 * x5.toInt.toNat + j) = cellv sd e n2 x5 mf g rows0 j := by
          intro j hj
          rw [ei]
          by_cases ej : j = x6.toInt.toNat
          · rw [ej, upd_i]; exact hk
          · rw [aGi _ _ (by omega)]; exact i1 j (by omega)
        have j2 : ∀ i : Nat, (i < 8 * x5.toInt.toNat \/ 8 * x5.toInt.toNat + 8 <= i) -> upd rows (8 * x5 + x6).toNatClampNeg k2 i = rows0 i := by
          intro i hi
          rw [ei, aGi _ _ (by omega)]; exact i2 i hi
        refine And.intro (fun c0 => ?_) (fun c0 => ?_)
        · have h := And.left h c0
          refine ae ?_
          have h := h _ rfl
          exact ih _ _ _ (by omega) (by omega) j1 j2 ⟨fun _ => i3.1 c0, fun q => absurd q c0⟩ h
        · have h := And.right h c0
          refine And.intro (And.left h) ?_
          have h := And.right h
          refine ae ?_
          have h := h _ rfl
          refine ae ?_
          have h := h _ rfl
          refine ih _ _ _ (by omega) (by omega) j1 j2 ⟨fun q => absurd c0 q, fun _ => ?_⟩ h
          have z5 : x5.toInt.toNat = 0 := by rw [c0]; decide
          rw [en, e6, i3.2 c0]
          show _ = smr (upd rows (8 * x5 + x6).toNatClampNeg k2) 0 x6.toInt.toNat + upd rows (8 * x5 + x6).toNatClampNeg k2 (0 + x6.toInt.toNat)
          rw [Nat.zero_add]
          congr 1
          refine smr_c _ (fun k hk => ?_)
          rw [ei, aGi _ _ (by omega)]
      have h219 : ws_X10_grass_219 P KP (wb_X10_grass_142 P KP sd mf tx ru m) sd mf tx ru e n2 x4 x5 x6 X7 0 rm 0 rd le to at1 wr row g rows -> ws_X10_grass_219 Q KQ (wb_X10_grass_142 Q KQ sd mf tx ru m) sd mf tx ru e n2 x4 x5 x6 X7 0 rm 0 rd le to at1 wr row g rows := by
        intro h
        unfold ws_X10_grass_219 at h ⊢
        refine ae ?_
        have h := h _ rfl
        refine ae ?_
        have h := h _ rfl
        refine And.intro (And.left h) ?_
        have h := And.right h
        refine ae ?_
        have h := h _ rfl
        refine And.intro (And.left h) ?_
        have h := And.right h
        refine ae ?_
        have h := h _ rfl
        refine ae ?_
        have h := h _ rfl
        rw [e6, e5] at h ⊢
        refine And.intro (fun c1 => ?_) (fun c1 => ?_)
        · exact h259 _ (by rw [cv, if_pos c1]) (And.left h c1)
        · exact h259 _ (by rw [cv, if_neg c1]) (And.right h c1)
      have sc : sme rows (8 * (x5.toInt.toNat + 1)) x6.toInt.toNat sd.toInt.toNat = sme rows0 (8 * (x5.toInt.toNat + 1)) x6.toInt.toNat sd.toInt.toNat := sme_c _ (fun k hk => i2 _ (by omega))
      have go : ∀ k0 : Int32, (n2 - 1 <= x5 /\ k0 = X7) \/ (¬ n2 - 1 <= x5 /\ k0 = 0) -> ws_X10_grass_164 P KP (wb_X10_grass_142 P KP sd mf tx ru m) sd mf tx ru e n2 x4 x5 x6 k0 0 rm 0 rd le to at1 wr row g rows -> ws_X10_grass_164 Q KQ (wb_X10_grass_142 Q KQ sd mf tx ru m) sd mf tx ru e n2 x4 x5 x6 k0 0 rm 0 rd le to at1 wr row g rows := by
        intro k0 hk h
        unfold ws_X10_grass_164 at h ⊢
        obtain ⟨m2, h⟩ := h
        refine ⟨m2, g169 (X7 := X7) bd h5 ⟨h0, by omega⟩ h219 m2 0 k0 (by decide) (by omega) ?_ h⟩
        rcases hk with q | ⟨q1, q2⟩
        · exact Or.inl q
        · refine Or.inr ⟨q1, ?_, ?_⟩
          · rw [q2]; rfl
          · rw [hX, if_neg q1, sc]
      refine And.intro (fun c0 => ?_) (fun c0 => ?_)
      · have d0 := mt (zJ _ _).mpr c0
        have k : ¬ n2 - 1 <= x5 := fun q => by have := (aAO _ _).mp q; omega
        exact go 0 (Or.inr ⟨k, rfl⟩) (And.left h c0)
      · have k : n2 - 1 <= x5 := by rw [<- c0]; exact (aAO _ _).mpr (Int.le_refl _)
        exact go 1 (Or.inl ⟨k, by rw [hX, if_pos k]⟩) (And.right h c0)
theorem g314 {x4 : Int32} {rows : Nat -> Int32} {K3P K3Q : Int32 -> Int32 -> Int32 -> Int32 -> Int32 -> Int32 -> Int32 -> Nat -> Int32 -> Int32 -> Int32 -> Int32 -> (Nat -> Int32) -> (Nat -> Int32) -> (Nat -> Int32) -> Prop} (hK : ∀ (x5 x6 rm : Int32) (row : Nat -> Int32), K3P n2 x4 x5 x6 0 rm 0 rd le to at1 wr row g rows -> K3Q n2 x4 x5 x6 0 rm 0 rd le to at1 wr row g rows) : ∀ (m : Nat) (x5 x6 x7 rm : Int32) (row : Nat -> Int32), wb_X10_grass_314 P K3P sd mf tx ru m n2 x4 x5 x6 x7 0 rm 0 rd le to at1 wr row g rows -> wb_X10_grass_314 Q K3Q sd mf tx ru m n2 x4 x5 x6 x7 0 rm 0 rd le to at1 wr row g rows := by
  intro m
  induction m with
  | zero => intro x5 x6 x7 rm row h; exact False.elim h
  | succ m ih =>
    intro x5 x6 x7 rm row h
    have h : ws_X10_grass_314 P K3P (wb_X10_grass_314 P K3P sd mf tx ru m) sd mf tx ru n2 x4 x5 x6 x7 0 rm 0 rd le to at1 wr row g rows := h
    show ws_X10_grass_314 Q K3Q (wb_X10_grass_314 Q K3Q sd mf tx ru m) sd mf tx ru n2 x4 x5 x6 x7 0 rm 0 rd le to at1 wr row g rows
    unfold ws_X10_grass_314 at h ⊢
    unfold ws_X10_grass_337 at h ⊢
    refine And.intro (fun c => ?_) (fun c => ?_)
    · have h := And.left h c
      refine ae ?_
      have h := h _ rfl
      exact ih _ _ _ _ _ h
    · have h := And.right h c
      refine ae ?_
      have h := h _ rfl
      refine ae ?_
      have h := h _ rfl
      refine And.intro (And.left h) ?_
      have h := And.right h
      refine And.intro (fun c2 => ?_) (fun c2 => ?_)
      · have h := And.left h c2
        refine du_X10_tell h ?_
        intro h
        refine ae ?_
        have h := h _ rfl
        exact hK _ _ _ _ h
      · have h := And.right h c2
        refine ae ?_
        have h := h _ rfl
        exact ih _ _ _ _ _ h
theorem g300 {x4 : Int32} {rows : Nat -> Int32} (hq : ∀ (rm : Int32) (row : Nat -> Int32), P x4 0 rm 0 rd le to at1 wr row g rows -> Q x4 0 rm 0 rd le to at1 wr row g rows) : ∀ (m : Nat) (x5 x6 rm : Int32) (row : Nat -> Int32), wb_X10_grass_300 P sd mf tx ru m n2 x4 x5 x6 0 rm 0 rd le to at1 wr row g rows -> wb_X10_grass_300 Q sd mf tx ru m n2 x4 x5 x6 0 rm 0 rd le to at1 wr row g rows := by
  intro m
  induction m with
  | zero => intro x5 x6 rm row h; exact False.elim h
  | succ m ih =>
    intro x5 x6 rm row h
    have h : ws_X10_grass_300 P (wb_X10_grass_300 P sd mf tx ru m) sd mf tx ru n2 x4 x5 x6 0 rm 0 rd le to at1 wr row g rows := h
    show ws_X10_grass_300 Q (wb_X10_grass_300 Q sd mf tx ru m) sd mf tx ru n2 x4 x5 x6 0 rm 0 rd le to at1 wr row g rows
    unfold ws_X10_grass_300 at h ⊢
    refine And.intro (fun c => hq _ _ (And.left h c)) (fun c => ?_)
    have h := And.right h c
    refine And.intro (fun c2 => hq _ _ (And.left h c2)) (fun c2 => ?_)
    obtain ⟨m2, h⟩ := And.right h c2
    exact ⟨m2, g314 ih m2 _ _ _ _ _ h⟩
end QR2
/-! the class's rows -/
section QR3
variable {sd e n9 : Int32} {ft mat : Nat -> Int32}
theorem sa_bt (bd : 0 <= sd.toInt /\ sd.toInt <= 8) (v : Int32) (j : Nat) : bt (F_X3_standingsAt v e sd ft) j = (decide (j < sd.toInt.toNat) && decide (¬ e < (if 0 <= ft j - v then ft j - v else 0 - (ft j - v)))) := by
  rw [F_X3_standingsAt, ex_X3_standingsAt_5, show (Int32.toInt sd - ((0 : Nat) : Int)).toNat = sd.toInt.toNat by omega]
  refine itr_bt (f := bd_X3_standingsAt_5 sd ft v e) (c := fun k => decide (¬ e < (if 0 <= ft k - v then ft k - v else 0 - (ft k - v)))) sd.toInt.toNat (by omega) (fun k s hk => ?_) j
  have i := nI_0c (k := k) (by omega)
  rw [bd_X3_standingsAt_5, i.1, j_X3_standingsAt_37, j_X3_standingsAt_37]
  by_cases c : e < (if 0 <= ft k - v then ft k - v else 0 - (ft k - v))
  · rw [if_pos c, if_neg (by rw [decide_eq_true_eq]; exact fun q => q c)]
  · rw [if_neg c, if_pos (decide_eq_true c)]
noncomputable def VV (n9 x4 T x6 : Int32) (rows9 : Nat -> Int32) (j : Nat) : Int32 := if bt T j = true then (if x4 = n9 - 1 then 1 else x6 - rows9 (8 * (x4.toInt.toNat + 1) + j)) else 0
theorem cr_step {x4 T x6 : Int32} {rows9 : Nat -> Int32} (h4 : 0 <= x4.toInt /\ x4.toInt <= 5) : (∀ j : Nat, j < 8 -> (itr (bd_X1_countRows_37 sd ft n9 mat e x4 T x6) ((0 : Int32), rows9) 0 8).2 (8 * x4.toInt.toNat + j) = VV n9 x4 T x6 rows9 j) /\ (itr (bd_X1_countRows_37 sd ft n9 mat e x4 T x6) ((0 : Int32), rows9) 0 8).1 = smr (itr (bd_X1_countRows_37 sd ft n9 mat e x4 T x6) ((0 : Int32), rows9) 0 8).2 (8 * x4.toInt.toNat) 8 := by
  have l1 : Int32.toInt (1 : Int32) = 1 := by decide
  have l8 : Int32.toInt (8 : Int32) = 8 := by decide
  have key := itr_inv (i := 0) (f := bd_X1_countRows_37 sd ft n9 mat e x4 T x6) (a := ((0 : Int32), rows9)) (fun (k : Nat) (s : Int32 × (Nat -> Int32)) => (∀ j : Nat, j < k -> s.2 (8 * x4.toInt.toNat + j) = VV n9 x4 T x6 rows9 j) /\ (∀ i : Nat, 8 * x4.toInt.toNat + k <= i -> s.2 i = rows9 i) /\ s.1 = smr s.2 (8 * x4.toInt.toNat) k) ⟨fun j hj => absurd hj (by omega), fun i _ => rfl, rfl⟩ 8 (fun k s hk hR => by
    have hR : (∀ j : Nat, j < k -> s.2 (8 * x4.toInt.toNat + j) = VV n9 x4 T x6 rows9 j) /\ (∀ i : Nat, 8 * x4.toInt.toNat + k <= i -> s.2 i = rows9 i) /\ s.1 = smr s.2 (8 * x4.toInt.toNat) k := hR
    obtain ⟨r1, r2, r3⟩ := hR
    have i := nI_0c (k := k) (by omega)
    have nn : nI (0 + k) = nI k := by rw [Nat.zero_add]
    have m4 := ta_mulc x4 8 l8 (by omega)
    have a4 := aAD (x4 * 8) (nI (0 + k)) (by omega)
    have a1 := aAD x4 1 (by omega)
    have m5 := ta_mulc (x4 + 1) 8 l8 (by omega)
    have a5 := aAD ((x4 + 1) * 8) (nI (0 + k)) (by omega)
    have ei : (x4 * 8 + nI (0 + k)).toNatClampNeg = 8 * x4.toInt.toNat + k := by rw [cl_n]; omega
    have ej : ((x4 + 1) * 8 + nI (0 + k)).toNatClampNeg = 8 * (x4.toInt.toNat + 1) + k := by rw [cl_n]; omega
    have hh := hs_0 T (k := k) (by omega)
    have fin : ∀ (v : Int32) (t : Int32 × (Nat -> Int32)), v = VV n9 x4 T x6 rows9 k -> t = (s.1 + v, upd s.2 (8 * x4.toInt.toNat + k) v) -> (∀ j : Nat, j < k + 1 -> t.2 (8 * x4.toInt.toNat + j) = VV n9 x4 T x6 rows9 j) /\ (∀ i : Nat, 8 * x4.toInt.toNat + (k + 1) <= i -> t.2 i = rows9 i) /\ t.1 = smr t.2 (8 * x4.toInt.toNat) (k + 1) := by
      intro v t hv ht
      rw [ht]
      refine ⟨fun j hj => ?_, fun i hi => ?_, ?_⟩
      · by_cases c : j = k
        · rw [c]; show upd s.2 (8 * x4.toInt.toNat + k) v (8 * x4.toInt.toNat + k) = _; rw [upd_i]; exact hv
        · show upd s.2 (8 * x4.toInt.toNat + k) v (8 * x4.toInt.toNat + j) = _; rw [aGi _ _ (by omega)]; exact r1 j (by omega)
      · show upd s.2 (8 * x4.toInt.toNat + k) v i = _; rw [aGi _ _ (by omega)]; exact r2 i (by omega)
      · show s.1 + v = smr (upd s.2 (8 * x4.toInt.toNat + k) v) (8 * x4.toInt.toNat) k + upd s.2 (8 * x4.toInt.toNat + k) v (8 * x4.toInt.toNat + k)
        rw [upd_i, r3]
        congr 1
        exact smr_c _ (fun j hj => (aGi _ _ (by omega)).symm)
    show (∀ j : Nat, j < k + 1 -> (bd_X1_countRows_37 sd ft n9 mat e x4 T x6 (nI (0 + k)) s).2 (8 * x4.toInt.toNat + j) = VV n9 x4 T x6 rows9 j) /\ (∀ i : Nat, 8 * x4.toInt.toNat + (k + 1) <= i -> (bd_X1_countRows_37 sd ft n9 mat e x4 T x6 (nI (0 + k)) s).2 i = rows9 i) /\ (bd_X1_countRows_37 sd ft n9 mat e x4 T x6 (nI (0 + k)) s).1 = smr (bd_X1_countRows_37 sd ft n9 mat e x4 T x6 (nI (0 + k)) s).2 (8 * x4.toInt.toNat) (k + 1)
    by_cases c : ((T >>> (nI k &&& 31)) &&& 1) = 0
    · have b := hh.mp c
      refine fin 0 _ (by unfold VV; rw [if_neg (by rw [b]; decide)]) ?_
      rw [bd_X1_countRows_37, nn, if_pos c, j_X1_countRows_92, <- nn, ei]
    · have b : bt T k = true := by
        cases hx : bt T k
        · exact absurd (hh.mpr hx) c
        · rfl
      by_cases c2 : x4 = n9 - 1
      · refine fin 1 _ (by unfold VV; rw [if_pos b, if_pos c2]) ?_
        rw [bd_X1_countRows_37, nn, if_neg c, if_pos c2, j_X1_countRows_90, j_X1_countRows_92, <- nn, ei]
      · refine fin (x6 - rows9 (8 * (x4.toInt.toNat + 1) + k)) _ (by unfold VV; rw [if_pos b, if_neg c2]) ?_
        rw [bd_X1_countRows_37, nn, if_neg c, if_neg c2, j_X1_countRows_90, j_X1_countRows_92, <- nn, ei, ej, r2 _ (by omega)])
  exact ⟨key.1, key.2.2⟩
end QR3
section QR4
variable {P Q : Int32 -> Int32 -> Int32 -> Int32 -> Nat -> Int32 -> Int32 -> Int32 -> Int32 -> (Nat -> Int32) -> (Nat -> Int32) -> (Nat -> Int32) -> Prop} {sd e n2 rm le to at1 wr : Int32} {rd : Nat} {mf ft mat tx ru row g : Nat -> Int32} {R : Int32 × (Nat -> Int32)}
theorem g134 (bd : 0 <= sd.toInt /\ sd.toInt <= 8) (hn : 1 <= n2.toInt /\ n2.toInt <= 6) (hf : ∀ k : Nat, (k : Int) < sd.toInt -> ft k = mf k) (hg : ∀ k : Nat, (k : Int) < n2.toInt -> mat k = g k) (hq : ∀ (x4 rm : Int32) (row rows : Nat -> Int32), R.1 = x4 -> P x4 0 rm 0 rd le to at1 wr row g rows -> Q x4 0 rm 0 rd le to at1 wr row g rows) :
    ∀ (m f : Nat) (x3 x4 x5 : Int32) (rows rows9 : Nat -> Int32), -1 <= x5.toInt -> x5.toInt <= n2.toInt - 1 -> (f : Int) + n2.toInt = 8 + x5.toInt -> R = flp (fs_X1_countRows_10 (fun o0 o1 => (o0, o1)) sd ft n2 mat) (fun _ _ _ _ => (0, (fun _ => 0))) f e x3 x5 rows9 -> (x5.toInt + 1 < n2.toInt -> (∀ s : Nat, s < sd.toInt.toNat -> rows9 (8 * (x5.toInt + 1).toNat + s) = rows (8 * (x5.toInt + 1).toNat + s)) /\ x3 = smr rows (8 * (x5.toInt + 1).toNat) sd.toInt.toNat) -> ((0 <= x5.toInt -> x4 = 0) /\ (x5.toInt = -1 -> x4 = smr rows 0 sd.toInt.toNat)) -> wb_X10_grass_134 P sd mf tx ru m e n2 x4 x5 0 rm 0 rd le to at1 wr row g rows -> wb_X10_grass_134 Q sd mf tx ru m e n2 x4 x5 0 rm 0 rd le to at1 wr row g rows := by
  have l0 : Int32.toInt (0 : Int32) = 0 := by decide
  have l1 : Int32.toInt (1 : Int32) = 1 := by decide
  have lm : Int32.toInt (-1 : Int32) = -1 := by decide
  intro m
  induction m with
  | zero => intro f x3 x4 x5 rows rows9 _ _ _ _ _ _ h; exact False.elim h
  | succ m ih =>
    intro f x3 x4 x5 rows rows9 h0 h1 hfu eR hL hA h
    have h : ws_X10_grass_134 P (wb_X10_grass_134 P sd mf tx ru m) sd mf tx ru e n2 x4 x5 0 rm 0 rd le to at1 wr row g rows := h
    show ws_X10_grass_134 Q (wb_X10_grass_134 Q sd mf tx ru m) sd mf tx ru e n2 x4 x5 0 rm 0 rd le to at1 wr row g rows
    unfold ws_X10_grass_134 at h ⊢
    obtain ⟨f', rfl⟩ : ∃ f', f = f' + 1 := ⟨f - 1, by omega⟩
    rw [flp_s, fs_X1_countRows_10] at eR
    refine And.intro (fun c => ?_) (fun c => ?_)
    · have d := (aAd _ _).mp c
      obtain ⟨m2, h⟩ := And.left h c
      refine ⟨m2, ?_⟩
      rw [if_pos c] at eR
      have e5 : (x5.toInt + 1).toNat = 0 := by omega
      have q := (hL (by omega)).2
      rw [e5] at q
      have ex : R.1 = x4 := by rw [eR, hA.2 (by omega)]; exact q
      exact g300 (fun rm row hp => hq _ _ _ _ ex hp) m2 _ _ _ _ h
    · have d := mt (aAd _ _).mpr c
      obtain ⟨m2, h⟩ := And.right h c
      refine ⟨m2, ?_⟩
      rw [if_neg c, ex_X1_countRows_37, show (Int32.toInt (8 : Int32) - ((0 : Nat) : Int)).toNat = 8 by decide] at eR
      have e5 := cl_n x5
      have s5 := aAD x5 (-1) (by omega)
      obtain ⟨y5, hy5⟩ : ∃ y, y = x5 + (-1) := ⟨_, rfl⟩
      rw [<- hy5] at s5
      have sn := aCA n2 1 (by omega)
      rw [e5] at eR
      obtain ⟨v1, v2⟩ := cr_step (sd := sd) (e := e) (n9 := n2) (ft := ft) (mat := mat) (x4 := x5) (T := F_X3_standingsAt (mat x5.toInt.toNat) e sd ft) (x6 := x3) (rows9 := rows9) (by omega)
      obtain ⟨W, hW⟩ : ∃ W, W = itr (bd_X1_countRows_37 sd ft n2 mat e x5 (F_X3_standingsAt (mat x5.toInt.toNat) e sd ft) x3) ((0 : Int32), rows9) 0 8 := ⟨_, rfl⟩
      rw [<- hW, <- hy5] at eR
      rw [<- hW] at v1 v2
      have tb := sa_bt (e := e) (ft := ft) bd (mat x5.toInt.toNat)
      have val : ∀ j : Nat, j < sd.toInt.toNat -> W.2 (8 * x5.toInt.toNat + j) = cellv sd e n2 x5 mf g rows j := by
        intro j hj
        rw [v1 j (by omega)]
        unfold VV cellv
        rw [tb j, decide_eq_true hj, Bool.true_and, hf j (by omega), hg x5.toInt.toNat (by omega)]
        by_cases c1 : e < (if 0 <= mf j - g x5.toInt.toNat then mf j - g x5.toInt.toNat else 0 - (mf j - g x5.toInt.toNat))
        · rw [if_pos c1, if_neg (by rw [decide_eq_true_eq]; exact fun q => q c1)]
        · rw [if_neg c1, if_pos (decide_eq_true c1)]
          by_cases c2 : x5 = n2 - 1
          · have k : n2 - 1 <= x5 := by rw [<- c2]; exact (aAO _ _).mpr (Int.le_refl _)
            rw [if_pos c2, if_pos k]
          · have d2 := mt (zJ _ _).mpr c2
            have k : ¬ n2 - 1 <= x5 := fun q => by have := (aAO _ _).mp q; omega
            obtain ⟨q1, q2⟩ := hL (by omega)
            have e1 : (x5.toInt + 1).toNat = x5.toInt.toNat + 1 := by omega
            rw [e1] at q1 q2
            rw [if_neg c2, if_neg k, q2, q1 j hj]
            exact (sme_v _ hj).symm
      have zer : ∀ k : Nat, sd.toInt.toNat <= k -> k < 8 -> W.2 (8 * x5.toInt.toNat + k) = 0 := by
        intro k k1 k2
        rw [v1 k k2]
        unfold VV
        rw [tb k, decide_eq_false (by omega), Bool.false_and, if_neg (by decide)]
      have sm : W.1 = smr W.2 (8 * x5.toInt.toNat) sd.toInt.toNat := by
        rw [v2]
        have q := smr_0 (f := W.2) (b := 8 * x5.toInt.toNat) (n := sd.toInt.toNat) zer (8 - sd.toInt.toNat) (by omega)
        rw [show sd.toInt.toNat + (8 - sd.toInt.toNat) = 8 by omega] at q
        exact q
      have z0 : (Int32.toInt (0 : Int32)).toNat = 0 := by decide
      refine g142 bd ⟨by omega, by omega⟩ ⟨by omega, hn.2⟩ (fun x4' rows' k1 k2 k3 hk => ?_) m2 x4 0 rows (by decide) (by omega) (fun j hj => absurd hj (by rw [z0]; omega)) (fun i _ => rfl) ⟨fun _ => hA.1 (by omega), fun _ => hA.1 (by omega)⟩ h
      rw [<- hy5] at hk ⊢
      refine ih f' W.1 x4' y5 rows' W.2 (by omega) (by omega) (by omega) eR (fun _ => ?_) ⟨fun q => ?_, fun q => ?_⟩ hk
      · have e1 : (y5.toInt + 1).toNat = x5.toInt.toNat := by omega
        rw [e1]
        have same : ∀ s : Nat, s < sd.toInt.toNat -> W.2 (8 * x5.toInt.toNat + s) = rows' (8 * x5.toInt.toNat + s) := fun s hs => by rw [val s hs, k1 s hs]
        exact ⟨same, by rw [sm]; exact smr_c _ same⟩
      · exact k3.1 (fun q2 => by have q3 := congrArg Int32.toInt q2; omega)
      · exact k3.2 (i32 (by omega))
end QR4
theorem grass_w {Q : Int32 -> Int32 -> Int32 -> Int32 -> Nat -> Int32 -> Int32 -> Int32 -> Int32 -> (Nat -> Int32) -> (Nat -> Int32) -> (Nat -> Int32) -> Prop} {p0 p9 l9 l sd sd9 pl sp rs mm rm th le to at1 wr : Int32} {rd : Nat} {sg ft fk rn ma mo mf mk tx row ru g rows : Nat -> Int32} (hp : p0 = p9) (eT : l9.toInt = l.toInt) (eN : sd9 = sd) (hs : ∀ k : Nat, sg k = tx k &&& 255) (hl : 0 <= l.toInt /\ l.toInt <= 80) (bd : 0 <= sd.toInt /\ sd.toInt <= 8) (hb : BS sd ft fk mf mk) (h9 : wp_X10_grass (fun o0 o1 o2 o3 o4 o5 o6 o7 o8 o9 o10 o11 => (F_X9_grass p9 l9 pl sp sg sd9 ft rs rn mm ma mo).1 = o0 -> Q o0 o1 o2 o3 o4 o5 o6 o7 o8 o9 o10 o11) p0 sd l rm th rd le to at1 wr mf tx row ru g rows) : wp_X10_grass Q p0 sd l rm th rd le to at1 wr mf tx row ru g rows := by
  obtain rfl : l9 = l := i32 eT
  subst hp eN
  have l0 : Int32.toInt (0 : Int32) = 0 := by decide
  have l99 : Int32.toInt (99 : Int32) = 99 := by decide
  have hst := stp_r l9 80
  have l80 : Int32.toInt (80 : Int32) = 80 := by decide
  obtain ⟨V, hV⟩ : ∃ v, v = (F_X9_grass p0 l9 pl sp sg sd9 ft rs rn mm ma mo).1 := ⟨_, rfl⟩
  rw [<- hV] at h9
  rw [F_X9_grass, show aJ0 80 l9 pl sp = (0, stp l9 80) from rfl] at hV
  unfold wp_X10_grass at h9 ⊢
  refine du_X10_begin h9 ?_
  intro h9
  refine du_X10_in h9 ?_
  intro h9
  rcases in01 p0 0 99 with ⟨q, gq⟩ | ⟨q, gq1, gq2⟩
  · refine And.intro (fun c => absurd q c) (fun c => ?_)
    refine And.right h9 c ?_
    by_cases c1 : p0 < 0
    · rw [if_pos c1, j_X9_grass_65] at hV; exact hV
    · have d := mt (aAd _ _).mpr c1
      have k : (99 : Int32) < p0 := (aAd _ _).mpr (by omega)
      rw [if_neg c1, if_pos k, j_X9_grass_65] at hV; exact hV
  · refine And.intro (fun c => ?_) (fun c => absurd c (neg1 q))
    obtain ⟨m, h9⟩ := And.left h9 c
    refine ⟨m, ?_⟩
    have k1 : ¬ p0 < 0 := fun e => by have := (aAd _ _).mp e; omega
    have k2 : ¬ (99 : Int32) < p0 := fun e => by have := (aAd _ _).mp e; omega
    rw [if_neg k1, if_neg k2] at hV
    obtain ⟨R, hR⟩ : ∃ R, R = F_X1_readAll l9 0 (stp l9 80) sg mm ma := ⟨_, rfl⟩
    have hV : V = (if R.1 = 0 then (j_X9_grass_65 (fun o0 o1 o2 o3 o4 o5 o6 o7 o8 => (o0, o1, o2, o3, o4, o5, o6, o7, o8)) sg sd9 ft (F_X8_wrong R.2.1) l9 (R.2.1) (stp l9 80) rs rn (R.2.2.1) (R.2.2.2) mo) else (j_X9_grass_65 (fun o0 o1 o2 o3 o4 o5 o6 o7 o8 => (o0, o1, o2, o3, o4, o5, o6, o7, o8)) sg sd9 ft ((F_X1_countRows p0 sd9 ft R.2.2.1 R.2.2.2 mo).1) l9 (R.2.1) (stp l9 80) ((F_X9_tellLeastMarks (F_X1_countRows p0 sd9 ft R.2.2.1 R.2.2.2 mo).1 rs rn R.2.2.1 (F_X1_countRows p0 sd9 ft R.2.2.1 R.2.2.2 mo).2).1) ((F_X9_tellLeastMarks (F_X1_countRows p0 sd9 ft R.2.2.1 R.2.2.2 mo).1 rs rn R.2.2.1 (F_X1_countRows p0 sd9 ft R.2.2.1 R.2.2.2 mo).2).2) (R.2.2.1) (R.2.2.2) ((F_X1_countRows p0 sd9 ft R.2.2.1 R.2.2.2 mo).2))).1 := by rw [hR]; exact hV
    rw [F_X1_readAll] at hR
    refine grA (R := R) hs hl.2 ?_ m 0 1 0 (-1) g (Or.inl ⟨n10, rfl, 7, ma, hR, by decide, by decide, by decide, by decide, by omega, fun k hk => absurd hk (by omega)⟩) h9
    intro n at2 wr2 g2 hF h9
    -- a fault
    have bad : ∀ w : Int32, 0 <= w.toInt -> R.1 = 0 -> w = R.2.1 -> ws_X10_grass_112 (fun o0 o1 o2 o3 o4 o5 o6 o7 o8 o9 o10 o11 => V = o0 -> Q o0 o1 o2 o3 o4 o5 o6 o7 o8 o9 o10 o11) sd9 mf tx ru p0 n 0 rm 0 1 l9 80 at2 w row g2 rows -> ws_X10_grass_112 Q sd9 mf tx ru p0 n 0 rm 0 1 l9 80 at2 w row g2 rows := by
      intro w w0 r0 ew h9
      unfold ws_X10_grass_112 at h9 ⊢
      refine du_X10_fine h9 ?_
      intro h9
      have k := fine_w (ne_m1 w0)
      refine And.intro (fun c => absurd k c) (fun c => ?_)
      refine And.right h9 c ?_
      rw [if_pos r0, j_X9_grass_65, F_X8_wrong] at hV
      rw [hV, ew]
    unfold ws_X10_grass_93 at h9 ⊢
    rcases hF with ⟨f1, f2, f3, f4, f5, f6, f7⟩ | ⟨f1, f2, f3⟩
    · refine And.intro (fun c => ?_) (fun c => ?_)
      · have d := (aAO _ _).mp c
        have h9 := And.left h9 c
        have ea : at2 = l9 := i32 (by omega)
        rw [F_X8_isThrough, if_pos ea] at f7
        have r1 : ¬ R.1 = 0 := by rw [f7]; exact n10
        rw [if_neg r1, j_X9_grass_65, f3] at hV
        have hV : V = (F_X1_countRows p0 sd9 ft n R.2.2.2 mo).1 := hV
        subst f1
        unfold ws_X10_grass_112 at h9 ⊢
        refine du_X10_fine h9 ?_
        intro h9
        refine And.intro (fun c2 => ?_) (fun c2 => absurd c2 fine_m)
        have h9 := And.left h9 c2
        refine ae ?_
        have h9 := h9 _ rfl
        obtain ⟨m2, h9⟩ := h9
        refine ⟨m2, ?_⟩
        have l1 : Int32.toInt (1 : Int32) = 1 := by decide
        have sn := aCA n 1 (by omega)
        rw [F_X1_countRows] at hV
        exact g134 (R := flp (fs_X1_countRows_10 (fun o0 o1 => (o0, o1)) sd9 ft n R.2.2.2) (fun _ _ _ _ => (0, (fun _ => 0))) 7 p0 0 (n - 1) mo) bd ⟨by omega, by omega⟩ (fun k hk => (hb k hk).1) f6 (fun x4 rm row rows e hp => hp (by rw [hV]; exact e)) m2 7 0 0 (n - 1) rows mo (by omega) (by omega) (by omega) rfl (fun q => by exfalso; omega) ⟨fun _ => rfl, fun q => by exfalso; omega⟩ h9
      · have d := mt (aAO _ _).mpr c
        have h9 := And.right h9 c
        refine du_X10_fault h9 ?_
        intro h9
        subst f1
        rw [fault_m] at h9 ⊢
        have ea : ¬ at2 = l9 := fun e => by have := congrArg Int32.toInt e; omega
        rw [F_X8_isThrough, if_neg ea] at f7
        exact bad _ f5.1 f7 f2.symm h9
    · refine And.intro (fun c => ?_) (fun c => ?_)
      · exact bad _ f3 f1 f2 (And.left h9 c)
      · have h9 := And.right h9 c
        refine du_X10_fault h9 ?_
        intro h9
        rw [fault_w (ne_m1 f3)] at h9 ⊢
        exact bad _ f3 f1 f2 h9
