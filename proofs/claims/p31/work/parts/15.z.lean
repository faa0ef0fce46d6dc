/-! questions of the moment: hands, worth -/
theorem itr_inv {α : Type} (R : Nat -> α -> Prop) {f : Int32 -> α -> α} {a : α} {i : Nat} (h0 : R 0 a) (n : Nat) (hs : ∀ (k : Nat) (s : α), k < n -> R k s -> R (k + 1) (f (nI (i + k)) s)) : R n (itr f a i n) :=
  itr_rel (i := i) (f := f) (g := f) (a := a) (b := a) (fun k s _ => R k s) h0 n (fun k s _ hk h => hs k s hk h)
theorem has0 (x : Int32) {f : Int32} (hf : 0 <= f.toInt /\ f.toInt < 32) : F_X10_has x f = 0 ↔ ((x >>> (f &&& 31)) &&& 1) = 0 := by
  rw [hs_10 x hf, hs_i x hf]
  cases bt x f.toInt.toNat
  · exact ⟨fun _ => rfl, fun _ => if_neg (by decide)⟩
  · rw [if_pos rfl]
    exact ⟨fun h => absurd h n10, fun h => absurd h (by decide)⟩
theorem rb_eq {sd : Int32} {near hand : Nat -> Int32} (bd : 0 <= sd.toInt /\ sd.toInt <= 8) (hn : ∀ k : Nat, (k : Int) < sd.toInt -> near k = hand k) (S : Int32) : F_X5_reachedBy S near sd = F_X10_handOf S sd hand := by
  rw [F_X5_reachedBy, F_X10_handOf, ex_X5_reachedBy_4, ex_X10_handOf_4]
  refine itr_cg _ (fun k s hk => ?_)
  have i := nI_0c (k := k) (by omega)
  have h := has0 S (f := nI (0 + k)) (by omega)
  rw [bd_X5_reachedBy_4, bd_X10_handOf_4]
  by_cases c : ((S >>> (nI (0 + k) &&& 31)) &&& 1) = 0
  · rw [if_pos c, if_pos (h.mpr c), j_X5_reachedBy_32, j_X10_handOf_31, or0]
  · rw [if_neg c, if_neg (fun e => c (h.mp e)), j_X5_reachedBy_32, j_X10_handOf_31, hn _ (by rw [i.1]; omega)]
theorem wo_eq {fr : Int32} {w mw : Nat -> Int32} (bf : 0 <= fr.toInt /\ fr.toInt <= 16) (hw : ∀ k : Nat, (k : Int) < fr.toInt -> w k = mw k) (S B : Int32) : F_X3_worthOf S B fr w = F_X10_worthOfAll S B fr mw := by
  rw [F_X3_worthOf, F_X10_worthOfAll, ex_X3_worthOf_5, ex_X10_worthOfAll_5]
  refine itr_cg _ (fun k s hk => ?_)
  have i := nI_0c (k := k) (by omega)
  have h := has0 S (f := nI (0 + k)) (by omega)
  have h2 := has0 B (f := nI (0 + k)) (by omega)
  have e := hw _ (show ((nI (0 + k)).toNatClampNeg : Int) < fr.toInt by rw [i.1]; omega)
  rw [bd_X3_worthOf_5, bd_X10_worthOfAll_5]
  by_cases c : ((S >>> (nI (0 + k) &&& 31)) &&& 1) = 0
  · rw [if_pos c, if_pos (h.mpr c), j_X3_worthOf_54, j_X10_worthOfAll_35]
    exact (Int32.add_zero _).symm
  · rw [if_neg c, if_neg (fun e => c (h.mp e)), F_X10_worthOf]
    by_cases c2 : ((B >>> (nI (0 + k) &&& 31)) &&& 1) = 0
    · rw [if_pos c2, if_pos (h2.mpr c2), j_X3_worthOf_52, j_X3_worthOf_54, j_X10_worthOfAll_35, e]
    · rw [if_neg c2, if_neg (fun e => c2 (h2.mp e)), j_X3_worthOf_52, j_X3_worthOf_54, j_X10_worthOfAll_35, e]
theorem up_itr {f : Int32 -> (Nat -> Int32) -> (Nat -> Int32)} {v a : Nat -> Int32} (n : Nat) (hn : n <= 2000) (hf : ∀ (k : Nat) (s : Nat -> Int32), k < n -> f (nI (0 + k)) s = upd s k (v k)) : ∀ j : Nat, j < n -> itr f a 0 n j = v j := by
  have key : ∀ k : Nat, k <= n -> ∀ j : Nat, j < k -> itr f a 0 k j = v j := by
    intro k
    induction k with
    | zero => intro _ j hj; exact absurd hj (by omega)
    | succ k ih =>
      intro hk j hj
      rw [itr_s, hf k _ (by omega)]
      by_cases e : j = k
      · rw [e, upd_i]
      · rw [aGi _ _ e]; exact ih (by omega) j (by omega)
  exact key n (Nat.le_refl n)
section QB
variable {fr sd ap ba gr br la he td cl : Int32} {x h w r ft fk mx mh mw mr mf mk st told now : Nat -> Int32}
/-- what both hold of the hands -/
theorem look_eq (T : TR fr sd x h w r ft fk mx mh mw mr mf mk) (hst2 : ∀ k : Nat, k < 5 -> st k = told k) (hm : MR fr sd ap ba gr br la he td now) (a : Int32) {pw mwd : Int32} {pn hand : Nat -> Int32} : (F_X5_lookAs a td pw pn fr sd x h r ft fk st ap ba gr).1 = (F_X10_layHands_ a fr sd mwd now mx mh mr mf mk told hand).1 /\ ∀ k : Nat, (k : Int) < sd.toInt -> (F_X5_lookAs a td pw pn fr sd x h r ft fk st ap ba gr).2 k = (F_X10_layHands_ a fr sd mwd now mx mh mr mf mk told hand).2 k := by
  have bf := T.2.2.1
  have bd := T.2.2.2.1
  have z : (Int32.toInt sd - ((0 : Nat) : Int)).toNat = sd.toInt.toNat := by omega
  have h1 := up_itr (f := bd_X5_lookAs_13 fr sd x h r ft fk st ap ba gr td (F_X3_reach a 0 st) pw) (v := fun k => F_X3_within (nI (0 + k)) (F_X3_reach a 0 st) fr x h ft fk) (a := pn) (Int32.toInt sd - ((0 : Nat) : Int)).toNat (by omega) (fun k s hk => by
    have i := nI_0c (k := k) (by omega)
    rw [bd_X5_lookAs_13, i.1])
  have h2 := up_itr (f := bd_X10_layHands__2 fr sd now mx mh mr mf mk told a mwd) (v := fun k => aLM (nI (0 + k)) a 0 fr mx mh mf mk told) (a := hand) (Int32.toInt sd - ((0 : Nat) : Int)).toNat (by omega) (fun k s hk => by
    have i := nI_0c (k := k) (by omega)
    rw [bd_X10_layHands__2, i.1])
  have key : ∀ k : Nat, (k : Int) < sd.toInt -> itr (bd_X5_lookAs_13 fr sd x h r ft fk st ap ba gr td (F_X3_reach a 0 st) pw) pn 0 (Int32.toInt sd - ((0 : Nat) : Int)).toNat k = itr (bd_X10_layHands__2 fr sd now mx mh mr mf mk told a mwd) hand 0 (Int32.toInt sd - ((0 : Nat) : Int)).toNat k := by
    intro k hk
    have i := nI_0c (k := k) (by omega)
    rw [h1 k (by omega), h2 k (by omega)]
    exact wi_eq T hst2 a 0 (by omega)
  rw [F_X5_lookAs, F_X10_layHands_, ex_X5_lookAs_13, ex_X10_layHands__2]
  refine ⟨?_, key⟩
  show aVS fr ap ba gr &&& F_X3_ripeBy td fr r &&& F_X5_reachedBy (F_X3_allStandings sd) _ sd = aUf 0 fr now &&& F_X10_ripeOnes (now (19 : Int32).toNatClampNeg) fr mr &&& F_X10_handOf (F_X10_allStandings sd) sd _
  rw [rb_eq bd key, rp_eq T, mo_hg hm.1.1 bf, c19, <- hm.1.2.2.2.2]
  rfl
theorem look_e (T : TR fr sd x h w r ft fk mx mh mw mr mf mk) (hst2 : ∀ k : Nat, k < 5 -> st k = told k) (hm : MR fr sd ap ba gr br la he td now) {pw mwd : Int32} {pn hand : Nat -> Int32} : (F_X5_look pw pn fr sd x h r ft fk st ap ba gr he td).1 = (bBY fr sd mwd now mx mh mr mf mk told hand).1 /\ ∀ k : Nat, (k : Int) < sd.toInt -> (F_X5_look pw pn fr sd x h r ft fk st ap ba gr he td).2 k = (bBY fr sd mwd now mx mh mr mf mk told hand).2 k := by
  rw [F_X5_look, bBY, c18, <- hm.1.2.2.2.1]
  exact look_eq T hst2 hm he
theorem from_eq (T : TR fr sd x h w r ft fk mx mh mw mr mf mk) (hst2 : ∀ k : Nat, k < 5 -> st k = told k) (hm : MR fr sd ap ba gr br la he td now) {p k p' k' fr9 sd9 th : Int32} (hp : p' = p) (hk : k' = k) (e1 : fr9 = fr) (e2 : sd9 = sd) : F_X9_from p k fr9 sd9 x h ft fk st he = (F_X10_from p' k' fr sd th now mx mh mf mk told).1 := by
  subst hp hk e1 e2
  have bf := T.2.2.1
  have bd := T.2.2.2.1
  rw [F_X9_from, F_X10_from, yn_eq]
  rcases hfr (p := p') (fr := fr9) (by omega) with ⟨a, b, _⟩ | ⟨a, b, g⟩
  · rw [if_pos a, if_pos b]
  · rw [if_neg (neg1 a), if_neg (neg1 b)]
    rcases in01 k' 0 1 with ⟨q, _⟩ | ⟨q, _⟩
    · rw [if_pos q, if_pos q]
    · rw [if_neg (neg1 q), if_neg (neg1 q), ex_X9_from_42, ex_X10_from_29]
      refine itr_cg _ (fun k s hk => ?_)
      have i := nI_0c (k := k) (by omega)
      rw [bd_X9_from_42, bd_X10_from_29, iw_eq T _ g (by omega), rch_eq hst2, c18, <- hm.1.2.2.2.1, j_X9_from_77, j_X9_from_77, j_X10_from_69, j_X10_from_69, or0]
theorem never_eq (T : TR fr sd x h w r ft fk mx mh mw mr mf mk) (hst2 : ∀ k : Nat, k < 5 -> st k = told k) (hm : MR fr sd ap ba gr br la he td now) {fr9 sd9 th rs rm : Int32} {rn row : Nat -> Int32} (e1 : fr9 = fr) (e2 : sd9 = sd) : (F_X9_never fr9 sd9 x h w ft fk st ap ba gr br rs rn).1 = (F_X10_never fr sd rm th now mx mh mw mf mk told row).1 := by
  subst e1 e2
  have bf := T.2.2.1
  have bd := T.2.2.2.1
  rw [F_X9_never, F_X10_never, ex_X9_never_10, ex_X10_never_17, mo_hg hm.1.1 bf]
  refine itr_cg _ (fun k s hk => ?_)
  have i := nI_0c (k := k) (by omega)
  rw [bd_X9_never_10, bd_X10_never_17, wi_eq T hst2 1 1 (by omega)]
theorem and3 (a b c : Int32) : (a &&& b) &&& (a &&& c) = (a &&& b) &&& c := bt_ext (fun k _ => by
  rw [bt_and, bt_and, bt_and, bt_and, bt_and]
  cases bt a k <;> cases bt b k <;> cases bt c k <;> rfl)
theorem both_eq (T : TR fr sd x h w r ft fk mx mh mw mr mf mk) (hst2 : ∀ k : Nat, k < 5 -> st k = told k) (hm : MR fr sd ap ba gr br la he td now) {p k p' k' fr9 sd9 th rs rm pw mwd : Int32} {rn row pn hand : Nat -> Int32} (hp : p' = p) (hk : k' = k) (e1 : fr9 = fr) (e2 : sd9 = sd) : (F_X9_both p k pw pn fr9 sd9 x h r ft fk st ap ba gr he td rs rn).1 = (F_X10_both p' k' fr sd rm th mwd now mx mh mr mf mk told row hand).1 := by
  subst hp hk e1 e2
  have bd := T.2.2.2.1
  rw [F_X9_both, F_X10_both]
  rcases hst (p := p') (sd := sd9) (by omega) with ⟨a, b, _⟩ | ⟨a, b, g⟩
  · rw [if_pos a, if_pos b]
  · rw [if_neg (neg1 a), if_neg (neg1 b)]
    rcases hst (p := k') (sd := sd9) (by omega) with ⟨a2, b2, _⟩ | ⟨a2, b2, g2⟩
    · rw [if_pos a2, if_pos b2]
    · rw [if_neg (neg1 a2), if_neg (neg1 b2)]
      by_cases c : p' = k'
      · rw [if_pos c, if_pos c]
      · rw [if_neg c, if_neg c]
        obtain ⟨q1, q2⟩ := look_e T hst2 hm (pw := pw) (pn := pn) (mwd := mwd) (hand := hand)
        have c1 := cl_n p'
        have c2 := cl_n k'
        show F_X5_wantedFrom p' (F_X5_look pw pn fr9 sd9 x h r ft fk st ap ba gr he td).1 (F_X5_look pw pn fr9 sd9 x h r ft fk st ap ba gr he td).2 &&& F_X5_wantedFrom k' (F_X5_look pw pn fr9 sd9 x h r ft fk st ap ba gr he td).1 (F_X5_look pw pn fr9 sd9 x h r ft fk st ap ba gr he td).2 = (bBY fr9 sd9 mwd now mx mh mr mf mk told hand).1 &&& (bBY fr9 sd9 mwd now mx mh mr mf mk told hand).2 p'.toNatClampNeg &&& (bBY fr9 sd9 mwd now mx mh mr mf mk told hand).2 k'.toNatClampNeg
        rw [F_X5_wantedFrom, F_X5_wantedFrom, q1, q2 p'.toNatClampNeg (by omega), q2 k'.toNatClampNeg (by omega)]
        exact and3 _ _ _
end QB
/-! pays (printed by qm.py) -/
section QM
variable {Q : Int32 -> Int32 -> Int32 -> Nat -> Int32 -> Int32 -> Int32 -> Int32 -> Int32 -> Int32 -> Int32 -> Int32 -> Int32 -> Int32 -> (Nat -> Int32) -> (Nat -> Int32) -> Prop} {bT aG bL bY mLn oF rP dQ bW bZ aR aE bI aW dO p0 p9 fr9 sd9 pw ap ba gr br la he td rl ros V G : Int32} {jD : Nat} {qG m_x gR pW qR nG oO pJ qO sW qQ sH x h w r ft fk st pn rg rs rp ron : Nat -> Int32}
theorem p109 {x3 k1 : Int32} (hV : V = F_X10_worthOfAll G (qG (16 : Int32).toNatClampNeg) bT pW) (h9 : ws_X10_pays_109 (fun o0 o1 o2 o3 o4 o5 o6 o7 o8 o9 o10 o11 o12 o13 o14 o15 => V = o0 -> Q o0 o1 o2 o3 o4 o5 o6 o7 o8 o9 o10 o11 o12 o13 o14 o15) bT aG bW qG m_x gR pW qR nG oO pJ qO qQ p0 G x3 k1 bL 0 jD mLn oF rP dQ bZ aR aE bI aW dO sW sH) : ws_X10_pays_109 Q bT aG bW qG m_x gR pW qR nG oO pJ qO qQ p0 G x3 k1 bL 0 jD mLn oF rP dQ bZ aR aE bI aW dO sW sH := by
  unfold ws_X10_pays_109 at h9 ⊢
  refine du_X10_tell h9 ?_
  intro h9
  refine du_X10_tell h9 ?_
  intro h9
  refine du_J6_bitCount_0f7a4 h9 ?_
  intro h9
  refine ae ?_
  have h9 := h9 _ rfl
  refine ae ?_
  have h9 := h9 _ rfl
  refine And.intro (And.left h9) ?_
  have h9 := And.right h9
  refine ae ?_
  have h9 := h9 _ rfl
  refine du_X10_downOf h9 ?_
  intro h9
  refine ae ?_
  have h9 := h9 _ rfl
  refine du_X10_tell h9 ?_
  intro h9
  refine ae ?_
  have h9 := h9 _ rfl
  refine du_X10_worthOfAll h9 ?_
  intro h9
  exact h9 hV
theorem p36 (hV : V = F_X10_worthOfAll G (qG (16 : Int32).toNatClampNeg) bT pW) : ∀ (n : Nat) (x3 x4 rm : Int32) (jD : Nat) (mLn oF rP dQ bZ aR aE bI aW : Int32), wb_X10_pays_36 (fun o0 o1 o2 o3 o4 o5 o6 o7 o8 o9 o10 o11 o12 o13 o14 o15 => V = o0 -> Q o0 o1 o2 o3 o4 o5 o6 o7 o8 o9 o10 o11 o12 o13 o14 o15) bT aG bW qG m_x gR pW qR nG oO pJ qO qQ n p0 G x3 x4 rm 0 jD mLn oF rP dQ bZ aR aE bI aW dO sW sH -> wb_X10_pays_36 Q bT aG bW qG m_x gR pW qR nG oO pJ qO qQ n p0 G x3 x4 rm 0 jD mLn oF rP dQ bZ aR aE bI aW dO sW sH := by
  intro n
  induction n with
  | zero => intro x3 x4 rm jD mLn oF rP dQ bZ aR aE bI aW h; exact False.elim h
  | succ n ih =>
    intro x3 x4 rm jD mLn oF rP dQ bZ aR aE bI aW h
    have h : ws_X10_pays_36 (fun o0 o1 o2 o3 o4 o5 o6 o7 o8 o9 o10 o11 o12 o13 o14 o15 => V = o0 -> Q o0 o1 o2 o3 o4 o5 o6 o7 o8 o9 o10 o11 o12 o13 o14 o15) (wb_X10_pays_36 (fun o0 o1 o2 o3 o4 o5 o6 o7 o8 o9 o10 o11 o12 o13 o14 o15 => V = o0 -> Q o0 o1 o2 o3 o4 o5 o6 o7 o8 o9 o10 o11 o12 o13 o14 o15) bT aG bW qG m_x gR pW qR nG oO pJ qO qQ n) bT aG bW qG m_x gR pW qR nG oO pJ qO qQ p0 G x3 x4 rm 0 jD mLn oF rP dQ bZ aR aE bI aW dO sW sH := h
    show ws_X10_pays_36 Q (wb_X10_pays_36 Q bT aG bW qG m_x gR pW qR nG oO pJ qO qQ n) bT aG bW qG m_x gR pW qR nG oO pJ qO qQ p0 G x3 x4 rm 0 jD mLn oF rP dQ bZ aR aE bI aW dO sW sH
    unfold ws_X10_pays_36 at h ⊢
    refine And.intro (fun c => ?_) (fun c => ?_)
    · have h := And.left h c
      refine ae ?_
      have h := h _ rfl
      refine And.intro (fun c2 => ?_) (fun c2 => ?_)
      · have h := And.left h c2
        refine ae ?_
        have h := h _ rfl
        refine du_X10_moveOf h ?_
        intro h
        exact p109 hV h
      · exact p109 hV (And.right h c2)
    · have h := And.right h c
      refine du_X10_has h ?_
      intro h
      refine And.intro (fun c2 => ?_) (fun c2 => ?_)
      · have h := And.left h c2
        unfold ws_X10_pays_68 at h ⊢
        refine ae ?_
        have h := h _ rfl
        refine ae ?_
        have h := h _ rfl
        exact ih _ _ _ _ _ _ _ _ _ _ _ _ _ h
      · have h := And.right h c2
        refine mn_X10_secondsOf h ?_
        intro z0 z1 z2 z3 z4 z5 z6 z7 z8 z9 z10 h
        unfold ws_X10_pays_68 at h ⊢
        refine ae ?_
        have h := h _ rfl
        refine ae ?_
        have h := h _ rfl
        exact ih _ _ _ _ _ _ _ _ _ _ _ _ _ h
theorem pays_w (T : TR bT aG x h w r ft fk m_x gR pW qR nG oO) (hst2 : ∀ k : Nat, k < 5 -> st k = pJ k) (hm : MR bT aG ap ba gr br la he td qG) (hp : p0 = p9) (e1 : fr9 = bT) (e2 : sd9 = aG) (h9 : wp_X10_pays (fun o0 o1 o2 o3 o4 o5 o6 o7 o8 o9 o10 o11 o12 o13 o14 o15 => (F_X9_pays p9 pw pn fr9 sd9 x h w r ft fk st ap ba gr br la he td rl rg rs rp ros ron).1 = o0 -> Q o0 o1 o2 o3 o4 o5 o6 o7 o8 o9 o10 o11 o12 o13 o14 o15) p0 bT aG bL bY jD mLn oF rP dQ bW bZ aR aE bI aW dO qG m_x gR pW qR nG oO pJ qO sW qQ sH) : wp_X10_pays Q p0 bT aG bL bY jD mLn oF rP dQ bW bZ aR aE bI aW dO qG m_x gR pW qR nG oO pJ qO sW qQ sH := by
  subst hp e1 e2
  have bd := T.2.2.2.1
  have bf := T.2.2.1
  obtain ⟨V, hV⟩ : ∃ v, v = (F_X9_pays p0 pw pn fr9 sd9 x h w r ft fk st ap ba gr br la he td rl rg rs rp ros ron).1 := ⟨_, rfl⟩
  rw [<- hV] at h9
  rw [F_X9_pays] at hV
  unfold wp_X10_pays at h9 ⊢
  refine du_X10_isStanding h9 ?_
  intro h9
  rcases hst (p := p0) (sd := sd9) (by omega) with ⟨a, b, _⟩ | ⟨a, b, g⟩
  · rw [if_pos a] at hV
    refine And.intro (fun c => absurd b c) (fun c => ?_)
    exact And.right h9 c hV
  · rw [if_neg (neg1 a)] at hV
    refine And.intro (fun c => ?_) (fun c => absurd c (neg1 b))
    have h9 := And.left h9 c
    refine du_X10_layHands h9 ?_
    intro h9
    refine And.intro (And.left h9) ?_
    have h9 := And.right h9
    refine ae ?_
    have h9 := h9 _ rfl
    obtain ⟨n, h9⟩ := h9
    refine ⟨n, ?_⟩
    refine p36 ?_ n _ _ _ _ _ _ _ _ _ _ _ _ _ h9
    obtain ⟨q1, q2⟩ := look_e T hst2 hm (pw := pw) (pn := pn) (mwd := dO) (hand := sH)
    have c1 := cl_n p0
    have e : V = F_X0_worthOf (F_X5_wantedFrom p0 (F_X5_look pw pn fr9 sd9 x h r ft fk st ap ba gr he td).1 (F_X5_look pw pn fr9 sd9 x h r ft fk st ap ba gr he td).2) fr9 w br := by
      by_cases c2 : la = p0
      · rw [if_pos c2, j_X9_pays_59, ex_X9_pays_66] at hV; exact hV
      · rw [if_neg c2, j_X9_pays_59, ex_X9_pays_66] at hV; exact hV
    rw [e, F_X0_worthOf, F_X5_wantedFrom, q1, q2 p0.toNatClampNeg (by omega), wo_eq bf (fun k hk => (T.1 k hk).2.2.1), c16, <- hm.1.2.1]
end QM
