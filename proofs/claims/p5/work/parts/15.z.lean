/-! bits that are cleared and counted -/
theorem hand_bt {sd S : Int32} {hand : Nat → Int32} (bd : 0 ≤ sd.toInt ∧ sd.toInt ≤ 8) (j : Nat) : bt (F_X10_handOf S sd hand) j = true ↔ ∃ k : Nat, k < sd.toInt.toNat ∧ bt S k = true ∧ bt (hand k) j = true := by
  rw [F_X10_handOf, ex_X10_handOf_4, show (Int32.toInt sd - ((0 : Nat) : Int)).toNat = sd.toInt.toNat by omega]
  have q := itr_or (f := bd_X10_handOf_4 sd hand S) (c := fun k => bt S k = true) (v := hand) (a := 0) sd.toInt.toNat (fun k s hk hc => by
    have i := nI_0c (k := k) (by omega)
    have i2 : (Int32.toInt (nI (0 + k))).toNat = k := by omega
    have h := hs_10 S (f := nI (0 + k)) (by omega)
    rw [i2, if_pos hc] at h
    rw [bd_X10_handOf_4, h, if_neg n10, j_X10_handOf_31, i.1]) (fun k s hk hc => by
    have i := nI_0c (k := k) (by omega)
    have i2 : (Int32.toInt (nI (0 + k))).toNat = k := by omega
    have h := hs_10 S (f := nI (0 + k)) (by omega)
    rw [i2, if_neg hc] at h
    rw [bd_X10_handOf_4, h, if_pos rfl, j_X10_handOf_31, or0]) j
  rw [bt_zero] at q
  refine q.trans ⟨fun h9 => ?_, fun h9 => Or.inr h9⟩
  rcases h9 with h9 | h9
  · exact absurd h9 (by decide)
  · exact h9
theorem pcn_zero : ∀ n : Nat, pcn n 0 = 0 := by
  intro n
  induction n with
  | zero => rfl
  | succ n ih =>
    show pcn n 0 + (if bt 0 n = true then 1 else 0) = 0
    rw [ih, bt_zero]; rfl
theorem clrn (x : Int32) {j : Nat} (hj : j < 16) (k : Nat) : bt (x &&& ((1 <<< (nI j &&& 31)) ^^^ (-1))) k = (bt x k && !decide (k = j)) := by
  by_cases h : k < 32
  · rw [bt_and, bt_not _ _ h, bt_shlN j (by omega)]
  · rw [bt_and, bt_ge _ _ (by omega), bt_ge _ _ (by omega), Bool.false_and, Bool.false_and]
theorem pcn_clr1 (x : Int32) {j : Nat} (hj : j < 16) (h : bt x j = true) : pcn 16 (x &&& ((1 <<< (nI j &&& 31)) ^^^ (-1))) + 1 = pcn 16 x := by
  refine pcn_one x _ j h ?_ (fun k hk => ?_) 16 hj
  · rw [clrn x hj, decide_eq_true rfl, h]; rfl
  · rw [clrn x hj, decide_eq_false hk]; simp
theorem pcn_1 {x : Int32} (hx : ∀ k : Nat, 16 ≤ k → bt x k = false) {j : Nat} (hj : bt x j = true) : pcn 16 x = 1 ↔ ∀ k : Nat, bt x k = true → k = j := by
  have j16 : j < 16 := by
    rcases Nat.lt_or_ge j 16 with h | h
    · exact h
    · rw [hx j h] at hj; exact absurd hj (by decide)
  have q := pcn_clr1 x j16 hj
  refine ⟨fun h1 k hk => ?_, fun h1 => ?_⟩
  · rcases Nat.decEq k j with hn | he
    · exfalso
      have k16 : k < 16 := by
        rcases Nat.lt_or_ge k 16 with h | h
        · exact h
        · rw [hx k h] at hk; exact absurd hk (by decide)
      have hk2 : bt (x &&& ((1 <<< (nI j &&& 31)) ^^^ (-1))) k = true := by rw [clrn x j16, hk, decide_eq_false hn]; rfl
      have q2 := pcn_clr1 _ k16 hk2
      omega
    · exact he
  · have e : x &&& ((1 <<< (nI j &&& 31)) ^^^ (-1)) = 0 := bt_ext (fun k _ => by
      rw [clrn x j16, bt_zero]
      cases hk : bt x k
      · rfl
      · rw [h1 k hk, decide_eq_true rfl]; rfl)
    rw [e, pcn_zero] at q
    omega
theorem i_sc (a b c : Int32) : a + b - c = a - c + b := by
  refine Int32.toBitVec_inj.mp ?_
  rw [Int32.toBitVec_sub, Int32.toBitVec_add, Int32.toBitVec_add, Int32.toBitVec_sub]
  exact BitVec.add_sub_comm
theorem i_ss (a b : Int32) : a + b - b = a := by
  refine Int32.toBitVec_inj.mp ?_
  rw [Int32.toBitVec_sub, Int32.toBitVec_add]
  exact BitVec.add_sub_cancel _ _
/-! THE RULE: where the first fault is, as an automaton over (wants, open, compared, place) (printed by rl.py) -/
noncomputable def np3 (st : Int32) (sg : Nat → Int32) (p : Int32) : Int32 := if F_X8_digitHere (p + 1) st sg = -1 then p + 1 else if F_X8_digitHere (p + 1 + 1) st sg = -1 then p + 1 + 1 else p + 1 + 1 + 1
theorem c3_ok {p st : Int32} {sg : Nat → Int32} (h : ¬ F_X8_digitHere p st sg = -1) : ∃ v : Int32, F_X8_readNumber 3 p st sg = (v, np3 st sg p) ∧ ¬ v = -1 := by
  have l10 : Int32.toInt (10 : Int32) = 10 := by decide
  have q := dg_r h
  rw [F_X8_readNumber, if_neg h, sk_in (dg_in h), show (4 : Nat) = 3 + 1 from rfl, flp_s, fs_X8_readNumber_18, if_neg (by decide : ¬ (3 : Int32) ≤ 1), np3]
  by_cases c : F_X8_digitHere (p + 1) st sg = -1
  · rw [if_pos c, if_pos c]
    exact ⟨_, rfl, ne_m1 q.1⟩
  · have q2 := dg_r c
    have m := ta_mulc (F_X8_digitHere p st sg) 10 l10 (by omega)
    have a := ta_add (F_X8_digitHere p st sg * 10) (F_X8_digitHere (p + 1) st sg) (by omega)
    rw [if_neg c, if_neg c, sk_in (dg_in c), show (3 : Nat) = 2 + 1 from rfl, flp_s, fs_X8_readNumber_18, if_neg (by decide : ¬ (3 : Int32) ≤ 1 + 1)]
    by_cases c2 : F_X8_digitHere (p + 1 + 1) st sg = -1
    · rw [if_pos c2, if_pos c2]
      exact ⟨_, rfl, ne_m1 (by omega)⟩
    · have q3 := dg_r c2
      have m2 := ta_mulc (F_X8_digitHere p st sg * 10 + F_X8_digitHere (p + 1) st sg) 10 l10 (by omega)
      have a2 := ta_add ((F_X8_digitHere p st sg * 10 + F_X8_digitHere (p + 1) st sg) * 10) (F_X8_digitHere (p + 1 + 1) st sg) (by omega)
      rw [if_neg c2, if_neg c2, sk_in (dg_in c2), show (2 : Nat) = 1 + 1 from rfl, flp_s, fs_X8_readNumber_18, if_pos (by decide : (3 : Int32) ≤ 1 + 1 + 1)]
      exact ⟨_, rfl, ne_m1 (by omega)⟩
theorem np3_r {p st : Int32} {sg : Nat → Int32} (hp : 0 ≤ p.toInt) (hs : st.toInt ≤ 80) (h : ¬ F_X8_digitHere p st sg = -1) : p.toInt + 1 ≤ (np3 st sg p).toInt ∧ (np3 st sg p).toInt ≤ p.toInt + 3 ∧ (np3 st sg p).toInt ≤ st.toInt := by
  have q := p1_r hp hs (dg_in h)
  have q0 := dg_in h
  rw [np3]
  by_cases c : F_X8_digitHere (p + 1) st sg = -1
  · rw [if_pos c]; omega
  · rw [if_neg c]
    have q2 := dg_in c
    have q3 := p1_r (p := p + 1) (by omega) hs q2
    by_cases c2 : F_X8_digitHere (p + 1 + 1) st sg = -1
    · rw [if_pos c2]; omega
    · rw [if_neg c2]
      have q4 := dg_in c2
      have q5 := p1_r (p := p + 1 + 1) (by omega) hs q4
      omega
theorem m3_ok {l t a : Int32} {sg tx ru : Nat → Int32} (hs : ∀ k : Nat, sg k = tx k &&& 255) (ha : 0 ≤ a.toInt ∧ a.toInt ≤ 100) (h : ¬ F_X8_digitHere a (stp l t) sg = -1) : ∃ v : Int32, F_X10_number 3 1 l t a (-1) tx ru = (v, np3 (stp l t) sg a, -1) := by
  have l1 : Int32.toInt (1 : Int32) = 1 := by decide
  have l3 : Int32.toInt (3 : Int32) = 3 := by decide
  have q := ta_add a 1 (by omega)
  have q1 := ta_add a 3 (by omega)
  have q2 := ta_add (a + 1) 1 (by omega)
  have q3 := ta_add (a + 1 + 1) 1 (by omega)
  have n1 : ¬ a + 3 ≤ a + 1 := fun c => by have := (fa_le _ _).mp c; omega
  have n2 : ¬ a + 3 ≤ a + 1 + 1 := fun c => by have := (fa_le _ _).mp c; omega
  have n3 : a + 3 ≤ a + 1 + 1 + 1 := (fa_le _ _).mpr (by omega)
  have d1 : ¬ a + 1 = a := fun e => by have := congrArg Int32.toInt e; omega
  have d2 : ¬ a + 1 + 1 = a := fun e => by have := congrArg Int32.toInt e; omega
  have d3 : ¬ a + 1 + 1 + 1 = a := fun e => by have := congrArg Int32.toInt e; omega
  rw [F_X10_number, if_neg fine_m, show (4 : Nat) = 3 + 1 from rfl, flp_s, fs_X10_number_16, if_neg (m_lt ha (by decide)), hr_eq hs, if_neg (in_ok h), show (3 : Nat) = 2 + 1 from rfl, flp_s, fs_X10_number_16, if_neg n1, hr_eq hs, np3]
  by_cases c : F_X8_digitHere (a + 1) (stp l t) sg = -1
  · rw [if_pos (in_no c), if_pos c, j_X10_number_66, if_neg d1]
    exact ⟨_, rfl⟩
  · rw [if_neg (in_ok c), if_neg c, show (2 : Nat) = 1 + 1 from rfl, flp_s, fs_X10_number_16, if_neg n2, hr_eq hs]
    by_cases c2 : F_X8_digitHere (a + 1 + 1) (stp l t) sg = -1
    · rw [if_pos (in_no c2), if_pos c2, j_X10_number_66, if_neg d2]
      exact ⟨_, rfl⟩
    · rw [if_neg (in_ok c2), if_neg c2, show (1 : Nat) = 0 + 1 from rfl, flp_s, fs_X10_number_16, if_pos n3, j_X10_number_66, if_neg d3]
      exact ⟨_, rfl⟩
noncomputable def aub (l st : Int32) (sg : Nat → Int32) (f : Int32 → Int32 → Int32 → Int32 → Int32) (w o c p : Int32) : Int32 :=
  if F_X8_here p st sg = -1 then (if w = 0 then (if 0 < o then -1 - p else if p = l then 0 else -1 - p) else -1 - p)
  else if w = 0 then
    (if F_X8_here p st sg = 41 then (if o = 0 then -1 - p else f 0 (o - 1) c (p + 1))
     else if F_X7_strength (F_X8_here p st sg) = 0 then -1 - p
     else if F_X7_strength (F_X8_here p st sg) = 1 then (if ((c >>> (o &&& 31)) &&& 1) = 0 then f 1 o (c ||| (1 <<< (o &&& 31))) (p + 1) else -1 - p)
     else f 1 o c (p + 1))
  else
    (if F_X8_here p st sg = 45 then f w o c (p + 1)
     else if F_X8_here p st sg = 40 then (if o < 4 then f w (o + 1) (c &&& ((1 <<< ((o + 1) &&& 31)) ^^^ (-1))) (p + 1) else -1 - p)
     else if F_X8_digitHere p st sg = -1 then (if 0 ≤ lix (((F_X8_here p st sg).toUInt32 % 65536).toInt32) then f 0 o c (p + 1) else -1 - p)
     else f 0 o c (np3 st sg p))
noncomputable def aun (l st : Int32) (sg : Nat → Int32) : Nat → Int32 → Int32 → Int32 → Int32 → Int32
  | 0 => fun _ _ _ _ => 0
  | n + 1 => aub l st sg (aun l st sg n)
noncomputable def au (l st : Int32) (sg : Nat → Int32) (w o c p : Int32) : Int32 := aun l st sg (st.toInt - p.toInt + 1).toNat w o c p
theorem aub_c {l st : Int32} {sg : Nat → Int32} {f g : Int32 → Int32 → Int32 → Int32 → Int32} {w o c p : Int32} (hp : 0 ≤ p.toInt) (hs : st.toInt ≤ 80) (h : ∀ w o c p' : Int32, p.toInt < p'.toInt → p'.toInt ≤ st.toInt → f w o c p' = g w o c p') : aub l st sg f w o c p = aub l st sg g w o c p := by
  unfold aub
  by_cases c0 : F_X8_here p st sg = -1
  · rw [if_pos c0, if_pos c0]
  · have b := hr_in c0
    have b1 := p1_r hp hs b
    have e : ∀ w o c : Int32, f w o c (p + 1) = g w o c (p + 1) := fun w o c => h w o c (p + 1) (by omega) (by omega)
    rw [if_neg c0, if_neg c0]
    simp only [e]
    by_cases c2 : F_X8_digitHere p st sg = -1
    · rw [if_pos c2, if_pos c2]
    · have q := np3_r hp hs c2
      rw [h _ _ _ (np3 st sg p) (by omega) q.2.2]
theorem aun_f {l st : Int32} {sg : Nat → Int32} (hs : st.toInt ≤ 80) : ∀ (n m : Nat) (w o c p : Int32), 0 ≤ p.toInt → st.toInt - p.toInt < (n : Int) → st.toInt - p.toInt < (m : Int) → p.toInt ≤ st.toInt → aun l st sg n w o c p = aun l st sg m w o c p := by
  intro n
  induction n with
  | zero => intro m w o c p h0 h1 h2 h3; exfalso; omega
  | succ n ih =>
    intro m w o c p h0 h1 h2 h3
    obtain ⟨m', rfl⟩ : ∃ m', m = m' + 1 := ⟨m - 1, by omega⟩
    show aub l st sg (aun l st sg n) w o c p = aub l st sg (aun l st sg m') w o c p
    exact aub_c h0 hs (fun w o c p' h4 h5 => ih m' w o c p' (by omega) (by omega) (by omega) h5)
theorem au_u {l st : Int32} {sg : Nat → Int32} {w o c p : Int32} (hs : st.toInt ≤ 80) (hp : 0 ≤ p.toInt ∧ p.toInt ≤ st.toInt) : au l st sg w o c p = aub l st sg (au l st sg) w o c p := by
  obtain ⟨n, hn⟩ : ∃ n, (st.toInt - p.toInt + 1).toNat = n + 1 := ⟨(st.toInt - p.toInt).toNat, by omega⟩
  have e : au l st sg w o c p = aub l st sg (aun l st sg n) w o c p := by
    unfold au
    rw [hn]
    rfl
  rw [e]
  refine aub_c hp.1 hs (fun w o c p' h4 h5 => ?_)
  unfold au
  exact aun_f hs n _ w o c p' (by omega) (by omega) (by omega) h5
/-! the class's reading -/
theorem settle_m {P Q : Int32 → Int32 → (Nat → Int32) → Prop} {wt : Nat → Int32} (hq : ∀ (a b : Int32) (d : Nat → Int32), P a b d → Q a b d) : ∀ (n : Nat) (x1 dr wa : Int32) (d : Nat → Int32), wb_X7_settle_0 P wt n x1 dr wa d → wb_X7_settle_0 Q wt n x1 dr wa d := by
  intro n
  induction n with
  | zero => intro x1 dr wa d h; exact False.elim h
  | succ n ih =>
    intro x1 dr wa d h
    have h : ws_X7_settle_0 P (wb_X7_settle_0 P wt n) wt x1 dr wa d := h
    show ws_X7_settle_0 Q (wb_X7_settle_0 Q wt n) wt x1 dr wa d
    unfold ws_X7_settle_0 at h ⊢
    refine And.intro (fun c => hq _ _ _ (And.left h c)) (fun c => ?_)
    have h := And.right h c
    refine ae ?_
    have h := h _ rfl
    refine And.intro (And.left h) ?_
    have h := And.right h
    refine ae ?_
    have h := h _ rfl
    refine du_X7_strength h ?_
    intro h
    refine And.intro (fun c2 => hq _ _ _ (And.left h c2)) (fun c2 => ?_)
    have h := And.right h c2
    refine ae ?_
    have h := h _ rfl
    refine And.intro (And.left h) ?_
    have h := And.right h
    refine ae ?_
    have h := h _ rfl
    refine du_X7_emit h ?_
    intro h
    exact ih _ _ _ _ h
theorem settle_w {P Q : Int32 → Int32 → (Nat → Int32) → Prop} {x1 dr wa : Int32} {wt d : Nat → Int32} (h : wp_X7_settle P x1 dr wa wt d) (hq : ∀ (a b : Int32) (d : Nat → Int32), P a b d → Q a b d) : wp_X7_settle Q x1 dr wa wt d := by
  unfold wp_X7_settle at h ⊢
  obtain ⟨n, h⟩ := h
  exact ⟨n, settle_m hq n _ _ _ _ h⟩
/-- what a step says of the automaton -/
def STP (l st : Int32) (sg : Nat → Int32) (w o c p r q o2 c2 w2 : Int32) : Prop := (r = 0 ∧ q = p ∧ au l st sg w o c p = -1 - p) ∨ (¬ r = 0 ∧ au l st sg w o c p = au l st sg w2 o2 c2 q ∧ p.toInt < q.toInt ∧ q.toInt ≤ st.toInt)
theorem rb_w {P Q : Int32 → Int32 → Int32 → Int32 → Int32 → Int32 → Int32 → (Nat → Int32) → (Nat → Int32) → Prop} {l st o c w p dr0 wa0 : Int32} {sg wt d : Nat → Int32} (hs : st.toInt ≤ 80) (hp : 0 ≤ p.toInt ∧ p.toInt ≤ st.toInt) (hw : w = 0) (hh : ¬ F_X8_here p st sg = -1) (h : wp_X7_readBehindThing P p st sg dr0 wa0 o c w wt d) (hq : ∀ (r q dr wa o2 c2 w2 : Int32) (wt2 d2 : Nat → Int32), P r q dr wa o2 c2 w2 wt2 d2 → STP l st sg w o c p r q o2 c2 w2 → Q r q dr wa o2 c2 w2 wt2 d2) : wp_X7_readBehindThing Q p st sg dr0 wa0 o c w wt d := by
  have b := hr_in hh
  have b1 := p1_r hp.1 hs b
  have u := au_u (l := l) (sg := sg) (w := w) (o := o) (c := c) hs hp
  unfold aub at u
  rw [if_neg hh, if_pos hw] at u
  have sk := sk_in b
  unfold wp_X7_readBehindThing at h ⊢
  refine du_X8_here h ?_
  intro h
  refine And.intro (fun c1 => ?_) (fun c1 => ?_)
  · have h := And.left h c1
    rw [if_neg c1] at u
    refine du_X7_strength h ?_
    intro h
    have fin : ∀ c3 : Int32, au l st sg w o c p = au l st sg 1 o c3 (p + 1) → ws_X7_readBehindThing_105 P st sg (F_X8_here p st sg) (F_X7_strength (F_X8_here p st sg)) p dr0 wa0 o c3 w wt d → ws_X7_readBehindThing_105 Q st sg (F_X8_here p st sg) (F_X7_strength (F_X8_here p st sg)) p dr0 wa0 o c3 w wt d := by
      intro c3 e h
      unfold ws_X7_readBehindThing_105 at h ⊢
      refine settle_w h ?_
      intro a b d h
      refine du_X7_hold h ?_
      intro h
      refine du_X8_skip h ?_
      intro h
      refine hq _ _ _ _ _ _ _ _ _ h (Or.inr ⟨n10, ?_, ?_, ?_⟩)
      · rw [sk]; exact e
      · rw [sk]; omega
      · rw [sk]; omega
    refine And.intro (fun c2 => ?_) (fun c2 => ?_)
    · rw [if_pos c2] at u
      exact hq _ _ _ _ _ _ _ _ _ (And.left h c2) (Or.inl ⟨rfl, rfl, u⟩)
    · have h := And.right h c2
      rw [if_neg c2] at u
      refine And.intro (fun c3 => ?_) (fun c3 => ?_)
      · have h := And.left h c3
        rw [if_neg c3] at u
        unfold ws_X7_readBehindThing_85 at h ⊢
        refine And.intro (fun c4 => ?_) (fun c4 => absurd c4 c3)
        exact fin c u (And.left h c4)
      · have h := And.right h c3
        rw [if_pos c3] at u
        refine ae ?_
        have h := h _ rfl
        refine And.intro (fun c4 => ?_) (fun c4 => ?_)
        · have h := And.left h c4
          rw [if_pos c4] at u
          unfold ws_X7_readBehindThing_85 at h ⊢
          refine And.intro (fun c5 => absurd c3 c5) (fun c5 => ?_)
          have h := And.right h c5
          refine ae ?_
          have h := h _ rfl
          exact fin _ u h
        · rw [if_neg c4] at u
          exact hq _ _ _ _ _ _ _ _ _ (And.right h c4) (Or.inl ⟨rfl, rfl, u⟩)
  · have h := And.right h c1
    rw [if_pos c1] at u
    refine And.intro (fun c2 => ?_) (fun c2 => ?_)
    · have h := And.left h c2
      rw [if_neg c2] at u
      refine settle_w h ?_
      intro a b2 d2 h
      refine ae ?_
      have h := h _ rfl
      refine ae ?_
      have h := h _ rfl
      refine ae ?_
      have h := h _ rfl
      refine du_X8_skip h ?_
      intro h
      refine hq _ _ _ _ _ _ _ _ _ h (Or.inr ⟨n10, ?_, ?_, ?_⟩)
      · rw [sk, hw]; rw [hw] at u; exact u
      · rw [sk]; omega
      · rw [sk]; omega
    · rw [if_pos c2] at u
      exact hq _ _ _ _ _ _ _ _ _ (And.right h c2) (Or.inl ⟨rfl, rfl, u⟩)
theorem rt_v {l st o c w p dr0 wa0 : Int32} {sg wt d : Nat → Int32} (hs : st.toInt ≤ 80) (hp : 0 ≤ p.toInt ∧ p.toInt ≤ st.toInt) (hw : ¬ w = 0) (hh : ¬ F_X8_here p st sg = -1) : STP l st sg w o c p (F_X7_readThing p st sg dr0 wa0 o c w wt d).1 (F_X7_readThing p st sg dr0 wa0 o c w wt d).2.1 (F_X7_readThing p st sg dr0 wa0 o c w wt d).2.2.2.2.1 (F_X7_readThing p st sg dr0 wa0 o c w wt d).2.2.2.2.2.1 (F_X7_readThing p st sg dr0 wa0 o c w wt d).2.2.2.2.2.2.1 := by
  have b := hr_in hh
  have b1 := p1_r hp.1 hs b
  have u := au_u (l := l) (sg := sg) (w := w) (o := o) (c := c) hs hp
  unfold aub at u
  rw [if_neg hh, if_neg hw] at u
  have sk := sk_in b
  rw [F_X7_readThing]
  by_cases c1 : F_X8_here p st sg = 45
  · rw [if_pos c1] at u
    rw [if_pos c1, j_X7_readThing_78, sk]
    exact Or.inr ⟨n10, u, by show _ < (p + 1).toInt; omega, by show (p + 1).toInt ≤ _; omega⟩
  · rw [if_neg c1] at u
    rw [if_neg c1]
    by_cases c2 : F_X8_here p st sg = 40
    · rw [if_pos c2] at u
      rw [if_pos c2]
      by_cases c3 : o < 4
      · rw [if_pos c3] at u
        rw [if_pos c3, j_X7_readThing_78, sk]
        exact Or.inr ⟨n10, u, by show _ < (p + 1).toInt; omega, by show (p + 1).toInt ≤ _; omega⟩
      · rw [if_neg c3] at u
        rw [if_neg c3]
        exact Or.inl ⟨rfl, rfl, u⟩
    · rw [if_neg c2] at u
      rw [if_neg c2, F_X7_readPlainThing]
      by_cases c3 : F_X8_digitHere p st sg = -1
      · rw [if_pos c3] at u
        rw [c_no c3, if_pos (rfl : ((-1 : Int32), p).1 = -1)]
        dsimp only
        by_cases c4 : 0 ≤ lix (((F_X8_here p st sg).toUInt32 % 65536).toInt32)
        · rw [if_pos c4] at u
          rw [if_pos c4, j_X7_readPlainThing_38, sk]
          exact Or.inr ⟨n10, u, by show _ < (p + 1).toInt; omega, by show (p + 1).toInt ≤ _; omega⟩
        · rw [if_neg c4] at u
          rw [if_neg c4]
          exact Or.inl ⟨rfl, rfl, u⟩
      · rw [if_neg c3] at u
        obtain ⟨v, e, vn⟩ := c3_ok c3
        have q := np3_r hp.1 hs c3
        rw [e, if_neg (vn : ¬ (v, np3 st sg p).1 = -1), j_X7_readPlainThing_38]
        exact Or.inr ⟨n10, u, by show _ < (np3 st sg p).toInt; omega, q.2.2⟩
theorem rd_loop {P Q : Int32 → Int32 → Int32 → Int32 → Int32 → Int32 → Int32 → Int32 → (Nat → Int32) → (Nat → Int32) → (Nat → Int32) → Prop} {l st : Int32} {sg : Nat → Int32} {V : Int32} (hl : l.toInt ≤ 80) (hs : st.toInt ≤ 40 ∧ st.toInt ≤ l.toInt) (hq : ∀ (r q a b d e f g : Int32) (h i j : Nat → Int32), P r q a b d e f g h i j → ((r = 0 ∧ V = -1 - q) ∨ (¬ r = 0 ∧ V = 0)) → Q r q a b d e f g h i j) :
    ∀ (n : Nat) (x2 p le dr wa o c w : Int32) (wt pr d : Nat → Int32), 0 ≤ x2.toInt → x2.toInt ≤ p.toInt → p.toInt ≤ st.toInt → V = au l st sg w o c p → wb_X7_read_27 P l st sg n x2 p le dr wa o c w wt pr d → wb_X7_read_27 Q l st sg n x2 p le dr wa o c w wt pr d := by
  have l0 : Int32.toInt (0 : Int32) = 0 := by decide
  have l1 : Int32.toInt (1 : Int32) = 1 := by decide
  have l40 : Int32.toInt (40 : Int32) = 40 := by decide
  intro n
  induction n with
  | zero => intro x2 p le dr wa o c w wt pr d _ _ _ _ h; exact False.elim h
  | succ n ih =>
    intro x2 p le dr wa o c w wt pr d h0 h1 h2 hV h
    have h : ws_X7_read_27 P (wb_X7_read_27 P l st sg n) l st sg x2 p le dr wa o c w wt pr d := h
    show ws_X7_read_27 Q (wb_X7_read_27 Q l st sg n) l st sg x2 p le dr wa o c w wt pr d
    unfold ws_X7_read_27 at h ⊢
    unfold ws_X7_read_69 at h ⊢
    have u := au_u (l := l) (sg := sg) (w := w) (o := o) (c := c) (p := p) (st := st) (by omega) ⟨by omega, h2⟩
    -- at the end
    have fin : F_X8_here p st sg = -1 → ws_X7_read_75 P l st sg p le dr wa o c w wt pr d → ws_X7_read_75 Q l st sg p le dr wa o c w wt pr d := by
      intro he h
      unfold aub at u
      rw [if_pos he, ← hV] at u
      unfold ws_X7_read_75 at h ⊢
      refine And.intro (fun c1 => ?_) (fun c1 => ?_)
      · rw [if_neg c1] at u
        exact hq _ _ _ _ _ _ _ _ _ _ _ (And.left h c1) (Or.inl ⟨rfl, u⟩)
      · have h := And.right h c1
        rw [if_pos c1] at u
        refine And.intro (fun c2 => ?_) (fun c2 => ?_)
        · rw [if_pos c2] at u
          exact hq _ _ _ _ _ _ _ _ _ _ _ (And.left h c2) (Or.inl ⟨rfl, u⟩)
        · have h := And.right h c2
          rw [if_neg c2] at u
          refine du_X8_isThrough h ?_
          intro h
          rw [F_X8_isThrough] at h ⊢
          by_cases c3 : p = l
          · rw [if_pos c3] at u h ⊢
            refine And.intro (fun c4 => ?_) (fun c4 => absurd c4 n10)
            refine settle_w (And.left h c4) ?_
            intro a b2 d2 h
            exact hq _ _ _ _ _ _ _ _ _ _ _ h (Or.inr ⟨n10, u⟩)
          · rw [if_neg c3] at u h ⊢
            refine And.intro (fun c4 => absurd rfl c4) (fun c4 => ?_)
            exact hq _ _ _ _ _ _ _ _ _ _ _ (And.right h c4) (Or.inl ⟨rfl, u⟩)
    refine And.intro (fun c1 => ?_) (fun c1 => ?_)
    · have d1 := (fa_le _ _).mp c1
      refine fin ?_ (And.left h c1)
      rw [F_X8_here, if_pos ((fa_le _ _).mpr (by omega))]
    · have d1 := mt (fa_le _ _).mpr c1
      have h := And.right h c1
      have ax := ta_add x2 1 (by omega)
      refine du_X8_here h ?_
      intro h
      refine And.intro (fun c2 => fin c2 (And.left h c2)) (fun c2 => ?_)
      have h := And.right h c2
      refine And.intro (fun c3 => ?_) (fun c3 => ?_)
      · refine rb_w (l := l) (by omega) ⟨by omega, h2⟩ c3 c2 (And.left h c3) ?_
        intro r q dr2 wa2 o2 cc2 w2 wt2 d2 hp hS
        rcases hS with ⟨r0, q0, e⟩ | ⟨r0, e, q1, q2⟩
        · refine And.intro (fun c4 => absurd r0 c4) (fun c4 => ?_)
          exact hq _ _ _ _ _ _ _ _ _ _ _ (And.right hp c4) (Or.inl ⟨rfl, by rw [hV, e, q0]⟩)
        · refine And.intro (fun c4 => ?_) (fun c4 => absurd c4 r0)
          have hp := And.left hp c4
          refine ae ?_
          have hp := hp _ rfl
          exact ih _ _ _ _ _ _ _ _ _ _ _ (by omega) (by omega) q2 (by rw [hV]; exact e) hp
      · refine du_X7_readThing (And.right h c3) ?_
        intro hp
        have hS := rt_v (l := l) (dr0 := dr) (wa0 := wa) (o := o) (c := c) (wt := wt) (d := d) (by omega : st.toInt ≤ 80) ⟨(by omega : 0 ≤ p.toInt), h2⟩ c3 c2
        rcases hS with ⟨r0, q0, e⟩ | ⟨r0, e, q1, q2⟩
        · refine And.intro (fun c4 => ?_) (fun c4 => absurd r0 c4)
          exact hq _ _ _ _ _ _ _ _ _ _ _ (And.left hp c4) (Or.inl ⟨rfl, by rw [hV, e, q0]⟩)
        · refine And.intro (fun c4 => absurd c4 r0) (fun c4 => ?_)
          have hp := And.right hp c4
          refine ae ?_
          have hp := hp _ rfl
          exact ih _ _ _ _ _ _ _ _ _ _ _ (by omega) (by omega) q2 (by rw [hV]; exact e) hp
/-- what the rule answers -/
noncomputable def ruv (l : Int32) (sg : Nat → Int32) : Int32 := if l = 0 then 0 else au l (stp l 40) sg 1 0 0 0
theorem rule9_w {Q : Int32 → Int32 → Int32 → Int32 → Int32 → Int32 → Int32 → Int32 → Int32 → Int32 → (Nat → Int32) → (Nat → Int32) → (Nat → Int32) → Prop} {l pl sp le dr wa o c w : Int32} {sg wt pr d : Nat → Int32} (hl : 0 ≤ l.toInt ∧ l.toInt ≤ 80) (h : wp_X9_rule (fun o0 o1 o2 o3 o4 o5 o6 o7 o8 o9 o10 o11 o12 => o0 = ruv l sg → Q o0 o1 o2 o3 o4 o5 o6 o7 o8 o9 o10 o11 o12) l pl sp sg le dr wa o c w wt pr d) : wp_X9_rule Q l pl sp sg le dr wa o c w wt pr d := by
  have l40 : Int32.toInt (40 : Int32) = 40 := by decide
  have hst := stp_r l 40
  unfold wp_X9_rule at h ⊢
  refine du_X8_open h ?_
  intro h
  rw [show F_X8_open 40 l pl sp = (0, stp l 40) from rfl] at h ⊢
  dsimp only at h ⊢
  unfold ws_X9_rule_59 at h ⊢
  refine And.intro (fun c1 => ?_) (fun c1 => ?_)
  · have h := And.left h c1
    unfold wp_X7_read at h ⊢
    obtain ⟨n, h⟩ := h
    refine ⟨n, ?_⟩
    have z : Int32.toInt (0 : Int32) = 0 := by decide
    refine rd_loop (l := l) (st := stp l 40) (V := au l (stp l 40) sg 1 0 0 0) hl.2 ⟨by omega, by omega⟩ ?_ n 0 0 _ _ _ _ _ _ _ _ _ (by decide) (by decide) (by omega) rfl h
    intro r q a b e f g i j k m hp hR
    refine And.intro (fun c2 => ?_) (fun c2 => ?_)
    · have hp := And.left hp c2
      refine du_X8_clear hp ?_
      intro hp
      refine hp ?_
      rcases hR with ⟨r0, _⟩ | ⟨_, v⟩
      · exact absurd r0 c2
      · unfold ruv; rw [if_neg c1, v]
    · have hp := And.right hp c2
      refine du_X8_wrong hp ?_
      intro hp
      refine du_X8_clear hp ?_
      intro hp
      refine hp ?_
      rcases hR with ⟨_, v⟩ | ⟨r0, _⟩
      · unfold ruv; rw [if_neg c1, v, F_X8_wrong]
      · exact absurd c2 r0
  · have h := And.right h c1
    refine du_X7_drop h ?_
    intro h
    refine du_X8_clear h ?_
    intro h
    exact h (by unfold ruv; rw [if_pos c1])
/-! the reference's reading of THE RULE (printed by rl2.py) -/
theorem lix_all : ∀ n, n < 256 → (0 ≤ lix (nI n) ↔ (n = 100 ∨ n = 117 ∨ n = 121 ∨ n = 119 ∨ n = 115 ∨ n = 107 ∨ n = 111)) := by decide +kernel
theorem str_v : ∀ n, n < 256 → (F_X7_strength (nI n) = 0 ∨ (F_X7_strength (nI n) = 1 ∧ (n = 60 ∨ n = 61 ∨ n = 62)) ∨ (¬ F_X7_strength (nI n) = 0 ∧ ¬ F_X7_strength (nI n) = 1 ∧ (n = 43 ∨ n = 45 ∨ n = 42 ∨ n = 47))) := by decide +kernel
theorem nI_lit {x : Int32} {n : Nat} (h : 0 ≤ x.toInt) (e : x.toInt.toNat = n) : x = nI n := by rw [← e]; exact tp_nI h
/-- what is said of a part that was read from p on, at depth d, with c compared: F of what stands behind it -/
def OUTR (l st : Int32) (sg : Nat → Int32) (m : Nat) (F : Int32 → Int32 → Prop) (d c p q wr : Int32) : Prop := (¬ wr = -1 ∧ 0 ≤ wr.toInt ∧ au l st sg 1 d c p = -1 - wr) ∨ (wr = -1 ∧ p.toInt < q.toInt ∧ q.toInt ≤ st.toInt ∧ ∃ c' : Int32, (∀ k : Nat, k < m → bt c' k = bt c k) ∧ F c' q ∧ au l st sg 1 d c p = au l st sg 0 d c' q)
def RELR (l st : Int32) (sg : Nat → Int32) (m : Nat) (G : Int32 → Prop) (F : Int32 → Int32 → Prop) (d p wr q wr' : Int32) : Prop := (¬ wr = -1 → wr' = wr) ∧ (wr = -1 → ∀ c : Int32, G c → OUTR l st sg m F d c p q wr')
def FT (_ _ : Int32) : Prop := True
def FP (st : Int32) (sg : Nat → Int32) (_ q : Int32) : Prop := ¬ F_X8_here q st sg = 42 ∧ ¬ F_X8_here q st sg = 47
def FSm (st : Int32) (sg : Nat → Int32) (_ q : Int32) : Prop := (¬ F_X8_here q st sg = 42 ∧ ¬ F_X8_here q st sg = 47) ∧ (¬ F_X8_here q st sg = 43 ∧ ¬ F_X8_here q st sg = 45)
def FH (st : Int32) (sg : Nat → Int32) (d c q : Int32) : Prop := FSm st sg c q ∧ ((F_X8_here q st sg = 60 ∨ F_X8_here q st sg = 61 ∨ F_X8_here q st sg = 62) → bt c d.toInt.toNat = true)
def GA (_ : Int32) : Prop := True
def GH (d c : Int32) : Prop := bt c d.toInt.toNat = false
def THR (W : TY_X10) (l t : Int32) (sg tx ru : Nat → Int32) : Prop := ∀ ⦃P Q : Int32 → Int32 → Int32 → Prop⦄ ⦃d p wr ia af as1 ah aa : Int32⦄ ⦃mx mh mw mf mk : Nat → Int32⦄, 0 ≤ d.toInt ∧ d.toInt ≤ 4 → 0 ≤ p.toInt ∧ p.toInt ≤ (stp l t).toInt → W P d 1 l t p wr ia af as1 ah aa mx mh mw mf mk tx ru → (∀ r q wr' : Int32, P r q wr' → RELR l (stp l t) sg (d.toInt.toNat + 1) GA FT d p wr q wr' → Q r q wr') → W Q d 1 l t p wr ia af as1 ah aa mx mh mw mf mk tx ru
def HER (W : TY_X10) (l t : Int32) (sg tx ru : Nat → Int32) : Prop := ∀ ⦃P Q : Int32 → Int32 → Int32 → Prop⦄ ⦃d p wr ia af as1 ah aa : Int32⦄ ⦃mx mh mw mf mk : Nat → Int32⦄, 0 ≤ d.toInt ∧ d.toInt ≤ 4 → 0 ≤ p.toInt ∧ p.toInt ≤ (stp l t).toInt → W P d 1 l t p wr ia af as1 ah aa mx mh mw mf mk tx ru → (∀ r q wr' : Int32, P r q wr' → RELR l (stp l t) sg d.toInt.toNat (GH d) (FH (stp l t) sg d) d p wr q wr' → Q r q wr') → W Q d 1 l t p wr ia af as1 ah aa mx mh mw mf mk tx ru
section RLR
variable {WT WH : TY_X10} {l t : Int32} {sg tx ru : Nat → Int32}
theorem hr_255 (hs : ∀ k : Nat, sg k = tx k &&& 255) (p st : Int32) : F_X8_here p st sg = -1 ∨ (0 ≤ Int32.toInt (F_X8_here p st sg) ∧ Int32.toInt (F_X8_here p st sg) ≤ 255) := by
  rw [F_X8_here]
  by_cases c : st ≤ p
  · rw [if_pos c]; exact Or.inl rfl
  · rw [if_neg c, hs]
    have l : Int32.toInt (255 : Int32) = 255 := by decide
    have q := ti_andr (tx p.toNatClampNeg) 255 (by decide)
    exact Or.inr ⟨q.1, by omega⟩
theorem au_neg (hl : l.toInt ≤ 80) {d c p : Int32} (hp : 0 ≤ p.toInt ∧ p.toInt ≤ (stp l t).toInt) (h : F_X8_here p (stp l t) sg = 45) : au l (stp l t) sg 1 d c p = au l (stp l t) sg 1 d c (p + 1) := by
  have hst := stp_r l t
  rw [au_u (by omega) hp]
  unfold aub
  rw [if_neg (by rw [h]; decide), if_neg n10, if_pos h]
theorem au_opn (hl : l.toInt ≤ 80) {d c p : Int32} (hp : 0 ≤ p.toInt ∧ p.toInt ≤ (stp l t).toInt) (h : F_X8_here p (stp l t) sg = 40) (hd : d < 4) : au l (stp l t) sg 1 d c p = au l (stp l t) sg 1 (d + 1) (c &&& ((1 <<< ((d + 1) &&& 31)) ^^^ (-1))) (p + 1) := by
  have hst := stp_r l t
  rw [au_u (by omega) hp]
  unfold aub
  rw [if_neg (by rw [h]; decide), if_neg n10, if_neg (by rw [h]; decide), if_pos h, if_pos hd]
theorem au_let (hl : l.toInt ≤ 80) {d c p : Int32} (hp : 0 ≤ p.toInt ∧ p.toInt ≤ (stp l t).toInt) {x : Int32} (h : F_X8_here p (stp l t) sg = x) (h0 : ¬ x = -1) (h1 : ¬ x = 45) (h2 : ¬ x = 40) (h3 : F_X8_digitHere p (stp l t) sg = -1) (h4 : 0 ≤ lix ((x.toUInt32 % 65536).toInt32)) : au l (stp l t) sg 1 d c p = au l (stp l t) sg 0 d c (p + 1) := by
  have hst := stp_r l t
  rw [au_u (by omega) hp]
  unfold aub
  rw [h, if_neg h0, if_neg n10, if_neg h1, if_neg h2, if_pos h3, if_pos h4]
theorem au_num (hl : l.toInt ≤ 80) {d c p : Int32} (hp : 0 ≤ p.toInt ∧ p.toInt ≤ (stp l t).toInt) (h0 : ¬ F_X8_here p (stp l t) sg = -1) (h1 : ¬ F_X8_here p (stp l t) sg = 45) (h2 : ¬ F_X8_here p (stp l t) sg = 40) (h3 : ¬ F_X8_digitHere p (stp l t) sg = -1) : au l (stp l t) sg 1 d c p = au l (stp l t) sg 0 d c (np3 (stp l t) sg p) := by
  have hst := stp_r l t
  rw [au_u (by omega) hp]
  unfold aub
  rw [if_neg h0, if_neg n10, if_neg h1, if_neg h2, if_neg h3]
theorem au_thF (hs : ∀ k : Nat, sg k = tx k &&& 255) (hl : l.toInt ≤ 80) {d c p : Int32} (hp : 0 ≤ p.toInt ∧ p.toInt ≤ (stp l t).toInt) (h1 : ¬ F_X8_here p (stp l t) sg = 45) (h2 : ¬ (F_X8_here p (stp l t) sg = 40 ∧ d < 4)) (h3 : F_X8_digitHere p (stp l t) sg = -1) (h4 : ∀ n : Nat, (n = 100 ∨ n = 117 ∨ n = 121 ∨ n = 119 ∨ n = 115 ∨ n = 107 ∨ n = 111) → ¬ F_X8_here p (stp l t) sg = nI n) : au l (stp l t) sg 1 d c p = -1 - p := by
  have hst := stp_r l t
  rw [au_u (by omega) hp]
  unfold aub
  by_cases c0 : F_X8_here p (stp l t) sg = -1
  · rw [if_pos c0, if_neg n10]
  · rw [if_neg c0, if_neg n10, if_neg h1]
    by_cases c1 : F_X8_here p (stp l t) sg = 40
    · rw [if_pos c1, if_neg (fun e => h2 ⟨c1, e⟩)]
    · rw [if_neg c1, if_pos h3]
      rcases hr_255 hs p (stp l t) with q | q
      · exact absurd q c0
      · have e := nch q
        have en := tp_nI q.1
        rw [e, if_neg ?_]
        intro h9
        rw [en] at h9
        exact h4 _ ((lix_all _ (by omega)).mp h9) en
theorem au_cls (hl : l.toInt ≤ 80) {d c p : Int32} (hp : 0 ≤ p.toInt ∧ p.toInt ≤ (stp l t).toInt) (h : F_X8_here p (stp l t) sg = 41) (hd : ¬ d = 0) : au l (stp l t) sg 0 d c p = au l (stp l t) sg 0 (d - 1) c (p + 1) := by
  have hst := stp_r l t
  rw [au_u (by omega) hp]
  unfold aub
  rw [if_neg (by rw [h]; decide), if_pos (rfl : (0 : Int32) = 0), if_pos h, if_neg hd]
theorem au_op (hl : l.toInt ≤ 80) {d c p x : Int32} (hp : 0 ≤ p.toInt ∧ p.toInt ≤ (stp l t).toInt) (h : F_X8_here p (stp l t) sg = x) (h0 : ¬ x = -1) (h1 : ¬ x = 41) (h2 : ¬ F_X7_strength x = 0) (h3 : ¬ F_X7_strength x = 1) : au l (stp l t) sg 0 d c p = au l (stp l t) sg 1 d c (p + 1) := by
  have hst := stp_r l t
  rw [au_u (by omega) hp]
  unfold aub
  rw [h, if_neg h0, if_pos (rfl : (0 : Int32) = 0), if_neg h1, if_neg h2, if_neg h3]
theorem au_cmp (hl : l.toInt ≤ 80) {d c p x : Int32} (hd : 0 ≤ d.toInt ∧ d.toInt ≤ 4) (hp : 0 ≤ p.toInt ∧ p.toInt ≤ (stp l t).toInt) (h : F_X8_here p (stp l t) sg = x) (h0 : ¬ x = -1) (h1 : ¬ x = 41) (h2 : ¬ F_X7_strength x = 0) (h3 : F_X7_strength x = 1) (hb : bt c d.toInt.toNat = false) : au l (stp l t) sg 0 d c p = au l (stp l t) sg 1 d (c ||| (1 <<< (d &&& 31))) (p + 1) := by
  have hst := stp_r l t
  have hh := hs_i c (f := d) (by omega)
  rw [au_u (by omega) hp]
  unfold aub
  rw [h, if_neg h0, if_pos (rfl : (0 : Int32) = 0), if_neg h1, if_neg h2, if_pos h3, if_pos (hh.mpr hb)]
/-- behind what held() read: no bracket that closes is a fault -/
theorem au_bhF (hs : ∀ k : Nat, sg k = tx k &&& 255) (hl : l.toInt ≤ 80) {d c p : Int32} (hd : 0 ≤ d.toInt ∧ d.toInt ≤ 5) (hp : 0 ≤ p.toInt ∧ p.toInt ≤ (stp l t).toInt) (hF : FH (stp l t) sg d c p) (h : ¬ F_X8_here p (stp l t) sg = 41 ∨ d = 0) (he : F_X8_here p (stp l t) sg = -1 → (0 < d ∨ ¬ p = l)) : au l (stp l t) sg 0 d c p = -1 - p := by
  have hst := stp_r l t
  have hh := hs_i c (f := d) (by omega)
  obtain ⟨⟨⟨f1, f2⟩, f3, f4⟩, f5⟩ := hF
  rw [au_u (by omega) hp]
  unfold aub
  by_cases c0 : F_X8_here p (stp l t) sg = -1
  · rw [if_pos c0, if_pos (rfl : (0 : Int32) = 0)]
    by_cases c1 : 0 < d
    · rw [if_pos c1]
    · rw [if_neg c1]
      rcases he c0 with q | q
      · exact absurd q c1
      · rw [if_neg q]
  · rw [if_neg c0, if_pos (rfl : (0 : Int32) = 0)]
    by_cases c1 : F_X8_here p (stp l t) sg = 41
    · rw [if_pos c1]
      rcases h with q | q
      · exact absurd c1 q
      · rw [if_pos q]
    · rw [if_neg c1]
      rcases hr_255 hs p (stp l t) with q | q
      · exact absurd q c0
      · have en := tp_nI q.1
        rcases str_v (F_X8_here p (stp l t) sg).toInt.toNat (by omega) with g | ⟨g, n⟩ | ⟨g1, g2, n⟩
        · rw [← en] at g; rw [if_pos g]
        · rw [← en] at g
          have b : bt c d.toInt.toNat = true := f5 (by
            rcases n with n | n | n
            · exact Or.inl (nI_lit q.1 n)
            · exact Or.inr (Or.inl (nI_lit q.1 n))
            · exact Or.inr (Or.inr (nI_lit q.1 n)))
          rw [if_neg (by rw [g]; decide), if_pos g, if_neg (fun e => by rw [hh.mp e] at b; exact absurd b (by decide))]
        · exfalso
          rcases n with n | n | n | n
          · exact f3 (nI_lit q.1 n)
          · exact f4 (nI_lit q.1 n)
          · exact f1 (nI_lit q.1 n)
          · exact f2 (nI_lit q.1 n)
end RLR
section RLS
variable {WT WH : TY_X10} {l t : Int32} {sg tx ru : Nat → Int32}
theorem thing_r (hs : ∀ k : Nat, sg k = tx k &&& 255) (hl : l.toInt ≤ 80) (hT : THR WT l t sg tx ru) (hH : HER WH l t sg tx ru) : THR (wp_X10_thing WT WH) l t sg tx ru := by
  intro P Q d p wr ia af as1 ah aa mx mh mw mf mk hd hp h hq
  have hst := stp_r l t
  have l0 : Int32.toInt (0 : Int32) = 0 := by decide
  have l1 : Int32.toInt (1 : Int32) = 1 := by decide
  have l4 : Int32.toInt (4 : Int32) = 4 := by decide
  unfold wp_X10_thing at h ⊢
  refine du_X10_passes h ?_
  intro h
  by_cases w0 : wr = -1
  · subst w0
    have ok : ∀ (r q wr' : Int32), P r q wr' → (∀ c : Int32, OUTR l (stp l t) sg (d.toInt.toNat + 1) FT d c p q wr') → Q r q wr' := fun r q wr' hP hO => hq r q wr' hP ⟨fun e => absurd rfl e, fun _ c _ => hO c⟩
    rw [pas_eq hs] at h ⊢
    by_cases c1 : F_X8_here p (stp l t) sg = 45
    · have b := hr_c c1 (by decide)
      have b1 := p1_r hp.1 (by omega) b
      rw [tk_y c1] at h ⊢
      refine And.intro (fun e => absurd e n10) (fun e => ?_)
      refine hT hd ⟨by show 0 ≤ (p + 1).toInt; omega, by show (p + 1).toInt ≤ _; omega⟩ (And.right h e) ?_
      intro r q wr' hP hR
      refine ok _ q wr' hP (fun c => ?_)
      rcases hR.2 rfl c trivial with ⟨o1, o2, o3⟩ | ⟨o1, o2, o3, c', o4, o5, o6⟩
      · exact Or.inl ⟨o1, o2, by rw [au_neg hl hp c1]; exact o3⟩
      · have o2 : (p + 1).toInt < q.toInt := o2
        exact Or.inr ⟨o1, by omega, o3, c', o4, trivial, by rw [au_neg hl hp c1]; exact o6⟩
    · rw [tk_n c1] at h ⊢
      refine And.intro (fun _ => ?_) (fun e => absurd rfl e)
      have h := And.left h rfl
      refine du_X10_fine h ?_
      intro h
      refine And.intro (fun e => ?_) (fun e => absurd e fine_m)
      have h := And.left h e
      refine du_X10_here h ?_
      intro h
      rw [hr_eq hs] at h ⊢
      dsimp only at h ⊢
      -- what is no bracket
      have plain : ¬ (F_X8_here p (stp l t) sg = 40 ∧ d < 4) → ws_X10_thing_67 WT WH P 1 l t ia af as1 ah aa mx mh mw mf mk tx ru (F_X8_here p (stp l t) sg) p (-1) → ws_X10_thing_67 WT WH Q 1 l t ia af as1 ah aa mx mh mw mf mk tx ru (F_X8_here p (stp l t) sg) p (-1) := by
        intro nb h
        unfold ws_X10_thing_67 at h ⊢
        refine du_X10_in h ?_
        intro h
        by_cases c2 : F_X8_digitHere p (stp l t) sg = -1
        · have k := in_no c2
          refine And.intro (fun e => ?_) (fun e => absurd k e)
          have h := And.left h e
          have fin : ∀ (n : Nat) (x : Int32), x = nI n → n < 256 → F_X8_here p (stp l t) sg = x → ¬ x = -1 → ¬ x = 45 → ¬ x = 40 → 0 ≤ lix ((x.toUInt32 % 65536).toInt32) → ws_X10_thing_136 WT WH P 1 l t ia af as1 ah aa mx mh mw mf mk tx ru (F_X8_here p (stp l t) sg) p (-1) → ws_X10_thing_136 WT WH Q 1 l t ia af as1 ah aa mx mh mw mf mk tx ru (F_X8_here p (stp l t) sg) p (-1) := by
            intro n x _ _ hx x0 x1 x2 x3 h
            have b := hr_c hx x0
            have b1 := p1_r hp.1 (by omega) b
            have o : ∀ c : Int32, OUTR l (stp l t) sg (d.toInt.toNat + 1) FT d c p (p + 1) (-1) := fun c => Or.inr ⟨rfl, by omega, by omega, c, fun _ _ => rfl, trivial, au_let hl hp hx x0 x1 x2 c2 x3⟩
            unfold ws_X10_thing_136 at h ⊢
            refine ae ?_
            have h := h _ rfl
            refine And.intro (fun e => ok _ _ _ (And.left h e) o) (fun e => ?_)
            refine du_X10_valueOf (And.right h e) ?_
            intro h
            exact ok _ _ _ h o
          refine And.intro (fun e100 => fin 100 100 rfl (by decide) e100 (by decide) (by decide) (by decide) (by decide) (And.left h e100)) (fun e100 => ?_)
          have h := And.right h e100
          refine And.intro (fun e117 => fin 117 117 rfl (by decide) e117 (by decide) (by decide) (by decide) (by decide) (And.left h e117)) (fun e117 => ?_)
          have h := And.right h e117
          refine And.intro (fun e121 => fin 121 121 rfl (by decide) e121 (by decide) (by decide) (by decide) (by decide) (And.left h e121)) (fun e121 => ?_)
          have h := And.right h e121
          refine And.intro (fun e119 => fin 119 119 rfl (by decide) e119 (by decide) (by decide) (by decide) (by decide) (And.left h e119)) (fun e119 => ?_)
          have h := And.right h e119
          refine And.intro (fun e115 => fin 115 115 rfl (by decide) e115 (by decide) (by decide) (by decide) (by decide) (And.left h e115)) (fun e115 => ?_)
          have h := And.right h e115
          refine And.intro (fun e107 => fin 107 107 rfl (by decide) e107 (by decide) (by decide) (by decide) (by decide) (And.left h e107)) (fun e107 => ?_)
          have h := And.right h e107
          refine And.intro (fun e111 => fin 111 111 rfl (by decide) e111 (by decide) (by decide) (by decide) (by decide) (And.left h e111)) (fun e111 => ?_)
          have h := And.right h e111
          refine du_X10_fault h ?_
          intro h
          rw [fault_m] at h ⊢
          refine ok _ _ _ h (fun c => Or.inl ⟨ne_m1 hp.1, hp.1, au_thF hs hl hp c1 nb c2 ?_⟩)
          intro n hn
          rcases hn with rfl | rfl | rfl | rfl | rfl | rfl | rfl
          · exact e100
          · exact e117
          · exact e121
          · exact e119
          · exact e115
          · exact e107
          · exact e111
        · have k := in_ok c2
          refine And.intro (fun e => absurd e k) (fun e => ?_)
          have h := And.right h e
          obtain ⟨v, ev⟩ := m3_ok (ru := ru) hs (show 0 ≤ p.toInt ∧ p.toInt ≤ 100 by omega) c2
          have q := np3_r hp.1 (by omega) c2
          have b := dg_in c2
          refine du_X10_number (by decide) h ?_
          intro h
          rw [ev] at h ⊢
          have h0 : ¬ F_X8_here p (stp l t) sg = -1 := fun e => by
            rw [F_X8_here, if_neg (fun e2 => by have := (fa_le _ _).mp e2; omega)] at e
            have g := dg_ok c2
            rw [F_X8_here, if_neg (fun e2 => by have := (fa_le _ _).mp e2; omega), e] at g
            exact absurd (by decide : (-1 : Int32) < 48) g.1
          have h40 : ¬ F_X8_here p (stp l t) sg = 40 := fun e => by
            have g := dg_ok c2
            rw [e] at g
            exact absurd (by decide : (40 : Int32) < 48) g.1
          exact ok _ _ _ h (fun c => Or.inr ⟨rfl, by show _ < (np3 (stp l t) sg p).toInt; omega, q.2.2, c, fun _ _ => rfl, trivial, au_num hl hp h0 c1 h40 c2⟩)
      refine And.intro (fun c2 => plain (fun e => c2 e.1) (And.left h c2)) (fun c2 => ?_)
      have h := And.right h c2
      refine And.intro (fun c3 => plain (fun e => ?_) (And.left h c3)) (fun c3 => ?_)
      · have := (fa_le _ _).mp c3
        have := (fa_lt _ _).mp e.2
        omega
      · have h := And.right h c3
        have d3 := mt (fa_le _ _).mpr c3
        have d4 : d < 4 := (fa_lt _ _).mpr (by omega)
        have b := hr_c c2 (by decide)
        have b1 := p1_r hp.1 (by omega) b
        have ad := ta_add d 1 (by omega)
        have nd : (d + 1).toInt.toNat = d.toInt.toNat + 1 := by omega
        refine ae ?_
        have h := h _ rfl
        refine ae ?_
        have h := h _ rfl
        refine hH ⟨by omega, by omega⟩ ⟨by omega, by omega⟩ h ?_
        intro r q wr' hP hR
        have o := fun c : Int32 => hR.2 rfl (c &&& ((1 <<< ((d + 1) &&& 31)) ^^^ (-1))) (by
          unfold GH
          have en := tp_nI (x := d + 1) (by omega)
          have q := clrn c (j := (d + 1).toInt.toNat) (by omega) (d + 1).toInt.toNat
          rw [← en] at q
          rw [q, decide_eq_true rfl]
          simp)
        by_cases w1 : wr' = -1
        · subst w1
          have o := fun c : Int32 => show (q.toInt ≤ (stp l t).toInt ∧ (p + 1).toInt < q.toInt) ∧ ∃ c' : Int32, (∀ k : Nat, k < (d + 1).toInt.toNat → bt c' k = bt (c &&& ((1 <<< ((d + 1) &&& 31)) ^^^ (-1))) k) ∧ FH (stp l t) sg (d + 1) c' q ∧ au l (stp l t) sg 1 (d + 1) (c &&& ((1 <<< ((d + 1) &&& 31)) ^^^ (-1))) (p + 1) = au l (stp l t) sg 0 (d + 1) c' q from by
            rcases o c with ⟨o1, _, _⟩ | ⟨_, o2, o3, o4⟩
            · exact absurd rfl o1
            · exact ⟨⟨o3, o2⟩, o4⟩
          have bq := (o 0).1
          have bq1 : 0 ≤ q.toInt ∧ q.toInt ≤ (stp l t).toInt := by omega
          by_cases c41 : F_X8_here q (stp l t) sg = 41
          · have b4 := hr_c c41 (by decide)
            have b5 := p1_r bq1.1 (by omega) b4
            refine du_X10_need hP ?_
            intro hP
            rw [need_y hs c41] at hP ⊢
            refine ok _ _ _ hP (fun c => ?_)
            obtain ⟨_, c', g1, g2, g3⟩ := o c
            have e1 : d + 1 - 1 = d := i_ss d 1
            have nz : ¬ d + 1 = 0 := fun e => by have := congrArg Int32.toInt e; omega
            refine Or.inr ⟨rfl, by show _ < (q + 1).toInt; omega, by show (q + 1).toInt ≤ _; omega, c', fun k hk => ?_, trivial, ?_⟩
            · rw [g1 k (by omega)]
              have en := tp_nI (x := d + 1) (by omega)
              rw [en, nd, clrn _ (by omega), decide_eq_false (by omega)]
              simp
            · rw [au_opn hl hp c2 d4, g3, au_cls hl bq1 c41 nz, e1]
          · refine du_X10_need hP ?_
            intro hP
            rw [need_n hs c41] at hP ⊢
            refine ok _ _ _ hP (fun c => Or.inl ⟨ne_m1 bq1.1, bq1.1, ?_⟩)
            obtain ⟨_, c', g1, g2, g3⟩ := o c
            rw [au_opn hl hp c2 d4, g3]
            exact au_bhF hs hl ⟨by omega, by omega⟩ bq1 g2 (Or.inl c41) (fun _ => Or.inl ((fa_lt _ _).mpr (by omega)))
        · refine du_X10_need hP ?_
          intro hP
          rw [need_w w1] at hP ⊢
          refine ok _ _ _ hP (fun c => ?_)
          rcases o c with ⟨o1, o2, o3⟩ | ⟨o1, _⟩
          · exact Or.inl ⟨o1, o2, by rw [au_opn hl hp c2 d4]; exact o3⟩
          · exact absurd o1 w1
  · rw [pas_w w0] at h ⊢
    refine And.intro (fun _ => ?_) (fun e => absurd rfl e)
    have h := And.left h rfl
    refine du_X10_fine h ?_
    intro h
    have k := fine_w w0
    refine And.intro (fun e => absurd k e) (fun e => ?_)
    exact hq _ _ _ (And.right h e) ⟨fun _ => rfl, fun e => absurd e w0⟩
end RLS
section RLU
variable {WT WH : TY_X10} {l t : Int32} {sg tx ru : Nat → Int32}
theorem product_loop (hs : ∀ k : Nat, sg k = tx k &&& 255) (hl : l.toInt ≤ 80) (hT : THR WT l t sg tx ru) (hH : HER WH l t sg tx ru) {P Q : Int32 → Int32 → Int32 → Prop} {d p wr ia af as1 ah aa : Int32} {mx mh mw mf mk : Nat → Int32} (hd : 0 ≤ d.toInt ∧ d.toInt ≤ 4) (hp : 0 ≤ p.toInt) (hq : ∀ r q wr' : Int32, P r q wr' → RELR l (stp l t) sg (d.toInt.toNat + 1) GA (FP (stp l t) sg) d p wr q wr' → Q r q wr') : ∀ (n : Nat) (x2 q w9 : Int32), RELR l (stp l t) sg (d.toInt.toNat + 1) GA FT d p wr q w9 → wb_X10_product_6 WT WH P 1 l t ia af as1 ah aa mx mh mw mf mk tx ru n d x2 q w9 → wb_X10_product_6 WT WH Q 1 l t ia af as1 ah aa mx mh mw mf mk tx ru n d x2 q w9 := by
  have hst := stp_r l t
  intro n
  induction n with
  | zero => intro x2 q w9 _ h; exact False.elim h
  | succ n ih =>
    intro x2 q w9 hR h
    have h : ws_X10_product_6 WT WH P (wb_X10_product_6 WT WH P 1 l t ia af as1 ah aa mx mh mw mf mk tx ru n) 1 l t ia af as1 ah aa mx mh mw mf mk tx ru d x2 q w9 := h
    show ws_X10_product_6 WT WH Q (wb_X10_product_6 WT WH Q 1 l t ia af as1 ah aa mx mh mw mf mk tx ru n) 1 l t ia af as1 ah aa mx mh mw mf mk tx ru d x2 q w9
    unfold ws_X10_product_6 at h ⊢
    refine du_X10_fine h ?_
    intro h
    by_cases w0 : w9 = -1
    · subst w0
      refine And.intro (fun e => absurd e fine_m) (fun e => ?_)
      have h := And.right h e
      have wr0 : wr = -1 := Classical.byContradiction (fun c => c (hR.1 c).symm)
      have st0 := fun c : Int32 => show (p.toInt < q.toInt ∧ q.toInt ≤ (stp l t).toInt) ∧ ∃ c' : Int32, (∀ k : Nat, k < d.toInt.toNat + 1 → bt c' k = bt c k) ∧ FT c' q ∧ au l (stp l t) sg 1 d c p = au l (stp l t) sg 0 d c' q from by
        rcases hR.2 wr0 c trivial with ⟨o1, _, _⟩ | ⟨_, o2, o3, o4⟩
        · exact absurd rfl o1
        · exact ⟨⟨o2, o3⟩, o4⟩
      have bq := (st0 0).1
      have hq0 : 0 ≤ q.toInt ∧ q.toInt ≤ (stp l t).toInt := by omega
      -- one more
      have more : ∀ x : Int32, F_X8_here q (stp l t) sg = x → ¬ x = -1 → ¬ x = 41 → ¬ F_X7_strength x = 0 → ¬ F_X7_strength x = 1 → ws_X10_product_31 WT WH P (wb_X10_product_6 WT WH P 1 l t ia af as1 ah aa mx mh mw mf mk tx ru n) 1 l t ia af as1 ah aa mx mh mw mf mk tx ru d x2 q (-1) → ws_X10_product_31 WT WH Q (wb_X10_product_6 WT WH Q 1 l t ia af as1 ah aa mx mh mw mf mk tx ru n) 1 l t ia af as1 ah aa mx mh mw mf mk tx ru d x2 q (-1) := by
        intro x hx x0 x1 s0 s1 h
        have b := hr_c hx x0
        have b1 := p1_r hq0.1 (by omega) b
        have nxt : ∀ (v at9 w10 : Int32), RELR l (stp l t) sg (d.toInt.toNat + 1) GA FT d (q + 1) (-1) at9 w10 → wb_X10_product_6 WT WH P 1 l t ia af as1 ah aa mx mh mw mf mk tx ru n d v at9 w10 → wb_X10_product_6 WT WH Q 1 l t ia af as1 ah aa mx mh mw mf mk tx ru n d v at9 w10 := by
          intro v at9 w10 hr h
          refine ih v at9 w10 ⟨fun e => absurd wr0 e, fun _ c _ => ?_⟩ h
          obtain ⟨_, c', g1, g2, g3⟩ := st0 c
          have e := au_op hl hq0 hx x0 x1 s0 s1 (d := d) (c := c')
          rcases hr.2 rfl c' trivial with ⟨o1, o2, o3⟩ | ⟨o1, o2, o3, c2, o4, o5, o6⟩
          · exact Or.inl ⟨o1, o2, by rw [g3, e]; exact o3⟩
          · exact Or.inr ⟨o1, by omega, o3, c2, fun k hk => by rw [o4 k hk, g1 k hk], o5, by rw [g3, e]; exact o6⟩
        have go : ∀ k0 : Int32, ws_X10_product_45 WT WH P (wb_X10_product_6 WT WH P 1 l t ia af as1 ah aa mx mh mw mf mk tx ru n) 1 l t ia af as1 ah aa mx mh mw mf mk tx ru d x2 k0 q (-1) → ws_X10_product_45 WT WH Q (wb_X10_product_6 WT WH Q 1 l t ia af as1 ah aa mx mh mw mf mk tx ru n) 1 l t ia af as1 ah aa mx mh mw mf mk tx ru d x2 k0 q (-1) := by
          intro k0 h
          unfold ws_X10_product_45 at h ⊢
          refine ae ?_
          have h := h _ rfl
          refine thing_r hs hl hT hH hd ⟨by omega, by omega⟩ h ?_
          intro r at9 w10 h hr
          refine And.intro (fun c1 => ?_) (fun c1 => ?_)
          · have h := And.left h c1
            refine And.intro (fun c2 => ?_) (fun c2 => ?_)
            · have h := And.left h c2
              refine And.intro (And.left h) ?_
              have h := And.right h
              refine ae ?_
              have h := h _ rfl
              exact nxt _ _ _ hr h
            · exact nxt _ _ _ hr (And.right h c2)
          · have h := And.right h c1
            refine ae ?_
            have h := h _ rfl
            exact nxt _ _ _ hr h
        unfold ws_X10_product_31 at h ⊢
        refine du_X10_here h ?_
        intro h
        exact And.intro (fun e => go 0 (And.left h e)) (fun e => go 1 (And.right h e))
      refine du_X10_here h ?_
      intro h
      rw [hr_eq hs] at h ⊢
      refine And.intro (fun c1 => more 42 c1 (by decide) (by decide) (by decide) (by decide) (And.left h c1)) (fun c1 => ?_)
      have h := And.right h c1
      refine du_X10_here h ?_
      intro h
      rw [hr_eq hs] at h ⊢
      refine And.intro (fun c2 => ?_) (fun c2 => more 47 c2 (by decide) (by decide) (by decide) (by decide) (And.right h c2))
      refine hq _ _ _ (And.left h c2) ⟨fun e => absurd wr0 e, fun _ c _ => ?_⟩
      obtain ⟨_, c', g1, g2, g3⟩ := st0 c
      exact Or.inr ⟨rfl, bq.1, bq.2, c', g1, ⟨c1, c2⟩, g3⟩
    · have k := fine_w w0
      refine And.intro (fun e => ?_) (fun e => absurd k e)
      refine hq _ _ _ (And.left h e) ⟨hR.1, fun e2 c g => ?_⟩
      rcases hR.2 e2 c g with o | ⟨o1, _⟩
      · exact Or.inl o
      · exact absurd o1 w0
theorem product_r (hs : ∀ k : Nat, sg k = tx k &&& 255) (hl : l.toInt ≤ 80) (hT : THR WT l t sg tx ru) (hH : HER WH l t sg tx ru) ⦃P Q : Int32 → Int32 → Int32 → Prop⦄ ⦃d p wr ia af as1 ah aa : Int32⦄ ⦃mx mh mw mf mk : Nat → Int32⦄ (hd : 0 ≤ d.toInt ∧ d.toInt ≤ 4) (hp : 0 ≤ p.toInt ∧ p.toInt ≤ (stp l t).toInt) (h : wp_X10_product WT WH P d 1 l t p wr ia af as1 ah aa mx mh mw mf mk tx ru) (hq : ∀ r q wr' : Int32, P r q wr' → RELR l (stp l t) sg (d.toInt.toNat + 1) GA (FP (stp l t) sg) d p wr q wr' → Q r q wr') : wp_X10_product WT WH Q d 1 l t p wr ia af as1 ah aa mx mh mw mf mk tx ru := by
  unfold wp_X10_product at h ⊢
  refine thing_r hs hl hT hH hd hp h ?_
  intro r q wr' h hR
  obtain ⟨n, h⟩ := h
  exact ⟨n, product_loop hs hl hT hH hd hp.1 hq n r q wr' hR h⟩
theorem sum_loop (hs : ∀ k : Nat, sg k = tx k &&& 255) (hl : l.toInt ≤ 80) (hT : THR WT l t sg tx ru) (hH : HER WH l t sg tx ru) {P Q : Int32 → Int32 → Int32 → Prop} {d p wr ia af as1 ah aa : Int32} {mx mh mw mf mk : Nat → Int32} (hd : 0 ≤ d.toInt ∧ d.toInt ≤ 4) (hp : 0 ≤ p.toInt) (hq : ∀ r q wr' : Int32, P r q wr' → RELR l (stp l t) sg (d.toInt.toNat + 1) GA (FSm (stp l t) sg) d p wr q wr' → Q r q wr') : ∀ (n : Nat) (x2 q w9 : Int32), RELR l (stp l t) sg (d.toInt.toNat + 1) GA (FP (stp l t) sg) d p wr q w9 → wb_X10_sum_6 WT WH P 1 l t ia af as1 ah aa mx mh mw mf mk tx ru n d x2 q w9 → wb_X10_sum_6 WT WH Q 1 l t ia af as1 ah aa mx mh mw mf mk tx ru n d x2 q w9 := by
  have hst := stp_r l t
  intro n
  induction n with
  | zero => intro x2 q w9 _ h; exact False.elim h
  | succ n ih =>
    intro x2 q w9 hR h
    have h : ws_X10_sum_6 WT WH P (wb_X10_sum_6 WT WH P 1 l t ia af as1 ah aa mx mh mw mf mk tx ru n) 1 l t ia af as1 ah aa mx mh mw mf mk tx ru d x2 q w9 := h
    show ws_X10_sum_6 WT WH Q (wb_X10_sum_6 WT WH Q 1 l t ia af as1 ah aa mx mh mw mf mk tx ru n) 1 l t ia af as1 ah aa mx mh mw mf mk tx ru d x2 q w9
    unfold ws_X10_sum_6 at h ⊢
    refine du_X10_fine h ?_
    intro h
    by_cases w0 : w9 = -1
    · subst w0
      refine And.intro (fun e => absurd e fine_m) (fun e => ?_)
      have h := And.right h e
      have wr0 : wr = -1 := Classical.byContradiction (fun c => c (hR.1 c).symm)
      have st0 := fun c : Int32 => show (p.toInt < q.toInt ∧ q.toInt ≤ (stp l t).toInt) ∧ ∃ c' : Int32, (∀ k : Nat, k < d.toInt.toNat + 1 → bt c' k = bt c k) ∧ (FP (stp l t) sg) c' q ∧ au l (stp l t) sg 1 d c p = au l (stp l t) sg 0 d c' q from by
        rcases hR.2 wr0 c trivial with ⟨o1, _, _⟩ | ⟨_, o2, o3, o4⟩
        · exact absurd rfl o1
        · exact ⟨⟨o2, o3⟩, o4⟩
      have bq := (st0 0).1
      have hq0 : 0 ≤ q.toInt ∧ q.toInt ≤ (stp l t).toInt := by omega
      -- one more
      have more : ∀ x : Int32, F_X8_here q (stp l t) sg = x → ¬ x = -1 → ¬ x = 41 → ¬ F_X7_strength x = 0 → ¬ F_X7_strength x = 1 → ws_X10_sum_31 WT WH P (wb_X10_sum_6 WT WH P 1 l t ia af as1 ah aa mx mh mw mf mk tx ru n) 1 l t ia af as1 ah aa mx mh mw mf mk tx ru d x2 q (-1) → ws_X10_sum_31 WT WH Q (wb_X10_sum_6 WT WH Q 1 l t ia af as1 ah aa mx mh mw mf mk tx ru n) 1 l t ia af as1 ah aa mx mh mw mf mk tx ru d x2 q (-1) := by
        intro x hx x0 x1 s0 s1 h
        have b := hr_c hx x0
        have b1 := p1_r hq0.1 (by omega) b
        have nxt : ∀ (v at9 w10 : Int32), RELR l (stp l t) sg (d.toInt.toNat + 1) GA (FP (stp l t) sg) d (q + 1) (-1) at9 w10 → wb_X10_sum_6 WT WH P 1 l t ia af as1 ah aa mx mh mw mf mk tx ru n d v at9 w10 → wb_X10_sum_6 WT WH Q 1 l t ia af as1 ah aa mx mh mw mf mk tx ru n d v at9 w10 := by
          intro v at9 w10 hr h
          refine ih v at9 w10 ⟨fun e => absurd wr0 e, fun _ c _ => ?_⟩ h
          obtain ⟨_, c', g1, g2, g3⟩ := st0 c
          have e := au_op hl hq0 hx x0 x1 s0 s1 (d := d) (c := c')
          rcases hr.2 rfl c' trivial with ⟨o1, o2, o3⟩ | ⟨o1, o2, o3, c2, o4, o5, o6⟩
          · exact Or.inl ⟨o1, o2, by rw [g3, e]; exact o3⟩
          · exact Or.inr ⟨o1, by omega, o3, c2, fun k hk => by rw [o4 k hk, g1 k hk], o5, by rw [g3, e]; exact o6⟩
        have go : ∀ k0 : Int32, ws_X10_sum_45 WT WH P (wb_X10_sum_6 WT WH P 1 l t ia af as1 ah aa mx mh mw mf mk tx ru n) 1 l t ia af as1 ah aa mx mh mw mf mk tx ru d x2 k0 q (-1) → ws_X10_sum_45 WT WH Q (wb_X10_sum_6 WT WH Q 1 l t ia af as1 ah aa mx mh mw mf mk tx ru n) 1 l t ia af as1 ah aa mx mh mw mf mk tx ru d x2 k0 q (-1) := by
          intro k0 h
          unfold ws_X10_sum_45 at h ⊢
          refine ae ?_
          have h := h _ rfl
          refine product_r hs hl hT hH hd ⟨by omega, by omega⟩ h ?_
          intro r at9 w10 h hr
          refine And.intro (fun c1 => ?_) (fun c1 => ?_)
          · have h := And.left h c1
            refine ae ?_
            have h := h _ rfl
            exact nxt _ _ _ hr h
          · have h := And.right h c1
            refine ae ?_
            have h := h _ rfl
            exact nxt _ _ _ hr h
        unfold ws_X10_sum_31 at h ⊢
        refine du_X10_here h ?_
        intro h
        exact And.intro (fun e => go 0 (And.left h e)) (fun e => go 1 (And.right h e))
      refine du_X10_here h ?_
      intro h
      rw [hr_eq hs] at h ⊢
      refine And.intro (fun c1 => more 43 c1 (by decide) (by decide) (by decide) (by decide) (And.left h c1)) (fun c1 => ?_)
      have h := And.right h c1
      refine du_X10_here h ?_
      intro h
      rw [hr_eq hs] at h ⊢
      refine And.intro (fun c2 => ?_) (fun c2 => more 45 c2 (by decide) (by decide) (by decide) (by decide) (And.right h c2))
      refine hq _ _ _ (And.left h c2) ⟨fun e => absurd wr0 e, fun _ c _ => ?_⟩
      obtain ⟨_, c', g1, g2, g3⟩ := st0 c
      exact Or.inr ⟨rfl, bq.1, bq.2, c', g1, ⟨g2, c1, c2⟩, g3⟩
    · have k := fine_w w0
      refine And.intro (fun e => ?_) (fun e => absurd k e)
      refine hq _ _ _ (And.left h e) ⟨hR.1, fun e2 c g => ?_⟩
      rcases hR.2 e2 c g with o | ⟨o1, _⟩
      · exact Or.inl o
      · exact absurd o1 w0
theorem sum_r (hs : ∀ k : Nat, sg k = tx k &&& 255) (hl : l.toInt ≤ 80) (hT : THR WT l t sg tx ru) (hH : HER WH l t sg tx ru) ⦃P Q : Int32 → Int32 → Int32 → Prop⦄ ⦃d p wr ia af as1 ah aa : Int32⦄ ⦃mx mh mw mf mk : Nat → Int32⦄ (hd : 0 ≤ d.toInt ∧ d.toInt ≤ 4) (hp : 0 ≤ p.toInt ∧ p.toInt ≤ (stp l t).toInt) (h : wp_X10_sum WT WH P d 1 l t p wr ia af as1 ah aa mx mh mw mf mk tx ru) (hq : ∀ r q wr' : Int32, P r q wr' → RELR l (stp l t) sg (d.toInt.toNat + 1) GA (FSm (stp l t) sg) d p wr q wr' → Q r q wr') : wp_X10_sum WT WH Q d 1 l t p wr ia af as1 ah aa mx mh mw mf mk tx ru := by
  unfold wp_X10_sum at h ⊢
  refine product_r hs hl hT hH hd hp h ?_
  intro r q wr' h hR
  obtain ⟨n, h⟩ := h
  exact ⟨n, sum_loop hs hl hT hH hd hp.1 hq n r q wr' hR h⟩
theorem held_r (hs : ∀ k : Nat, sg k = tx k &&& 255) (hl : l.toInt ≤ 80) (hT : THR WT l t sg tx ru) (hH : HER WH l t sg tx ru) : HER (wp_X10_held WT WH) l t sg tx ru := by
  intro P Q d p wr ia af as1 ah aa mx mh mw mf mk hd hp h hq
  have hst := stp_r l t
  unfold wp_X10_held at h ⊢
  refine sum_r hs hl hT hH hd hp h ?_
  intro r1 q w9 h hR
  by_cases w0 : w9 = -1
  · subst w0
    have wr0 : wr = -1 := Classical.byContradiction (fun c => c (hR.1 c).symm)
    have st0 := fun c : Int32 => show (p.toInt < q.toInt ∧ q.toInt ≤ (stp l t).toInt) ∧ ∃ c' : Int32, (∀ k : Nat, k < d.toInt.toNat + 1 → bt c' k = bt c k) ∧ FSm (stp l t) sg c' q ∧ au l (stp l t) sg 1 d c p = au l (stp l t) sg 0 d c' q from by
      rcases hR.2 wr0 c trivial with ⟨o1, _, _⟩ | ⟨_, o2, o3, o4⟩
      · exact absurd rfl o1
      · exact ⟨⟨o2, o3⟩, o4⟩
    have bq := (st0 0).1
    have hq0 : 0 ≤ q.toInt ∧ q.toInt ≤ (stp l t).toInt := by omega
    -- behind a sign that compares
    have fin : ∀ (x r q2 w2 : Int32), F_X8_here q (stp l t) sg = x → ¬ x = -1 → ¬ x = 41 → ¬ F_X7_strength x = 0 → F_X7_strength x = 1 → RELR l (stp l t) sg (d.toInt.toNat + 1) GA (FSm (stp l t) sg) d (q + 1) (-1) q2 w2 → P r q2 w2 → Q r q2 w2 := by
      intro x r q2 w2 hx x0 x1 s0 s1 hr hP
      have b := hr_c hx x0
      have b1 := p1_r hq0.1 (by omega) b
      refine hq r q2 w2 hP ⟨fun e => absurd wr0 e, fun _ c hc => ?_⟩
      obtain ⟨_, c', g1, g2, g3⟩ := st0 c
      have hb : bt c' d.toInt.toNat = false := by rw [g1 _ (by omega)]; exact hc
      have e := au_cmp hl hd hq0 hx x0 x1 s0 s1 hb
      have bs := bt_shl d (by omega)
      rcases hr.2 rfl (c' ||| (1 <<< (d &&& 31))) trivial with ⟨o1, o2, o3⟩ | ⟨o1, o2, o3, c2, o4, o5, o6⟩
      · exact Or.inl ⟨o1, o2, by rw [g3, e]; exact o3⟩
      · refine Or.inr ⟨o1, by omega, o3, c2, fun k hk => ?_, ⟨o5, fun _ => ?_⟩, by rw [g3, e]; exact o6⟩
        · rw [o4 k (by omega), bt_or, bs, decide_eq_false (by omega), Bool.or_false, g1 k (by omega)]
        · rw [o4 _ (by omega), bt_or, bs, decide_eq_true rfl, Bool.or_true]
    have sub : ∀ (x : Int32), F_X8_here q (stp l t) sg = x → ¬ x = -1 → (0 ≤ (q + 1).toInt ∧ (q + 1).toInt ≤ (stp l t).toInt) := by
      intro x hx x0
      have b := hr_c hx x0
      have b1 := p1_r hq0.1 (by omega) b
      omega
    refine du_X10_passes h ?_
    intro h
    rw [pas_eq hs] at h ⊢
    by_cases c60 : F_X8_here q (stp l t) sg = 60
    · rw [tk_y c60] at h ⊢
      refine And.intro (fun e => absurd e n10) (fun e => ?_)
      refine sum_r hs hl hT hH hd (sub 60 c60 (by decide)) (And.right h e) ?_
      intro r2 q2 w2 h hr
      exact And.intro (fun e2 => fin 60 _ _ _ c60 (by decide) (by decide) (by decide) (by decide) hr (And.left h e2)) (fun e2 => fin 60 _ _ _ c60 (by decide) (by decide) (by decide) (by decide) hr (And.right h e2))
    · rw [tk_n c60] at h ⊢
      refine And.intro (fun _ => ?_) (fun e => absurd rfl e)
      have h := And.left h rfl
      refine du_X10_passes h ?_
      intro h
      rw [pas_eq hs] at h ⊢
      by_cases c62 : F_X8_here q (stp l t) sg = 62
      · rw [tk_y c62] at h ⊢
        refine And.intro (fun e => absurd e n10) (fun e => ?_)
        refine sum_r hs hl hT hH hd (sub 62 c62 (by decide)) (And.right h e) ?_
        intro r2 q2 w2 h hr
        exact And.intro (fun e2 => fin 62 _ _ _ c62 (by decide) (by decide) (by decide) (by decide) hr (And.left h e2)) (fun e2 => fin 62 _ _ _ c62 (by decide) (by decide) (by decide) (by decide) hr (And.right h e2))
      · rw [tk_n c62] at h ⊢
        refine And.intro (fun _ => ?_) (fun e => absurd rfl e)
        have h := And.left h rfl
        refine du_X10_passes h ?_
        intro h
        rw [pas_eq hs] at h ⊢
        by_cases c61 : F_X8_here q (stp l t) sg = 61
        · rw [tk_y c61] at h ⊢
          refine And.intro (fun e => absurd e n10) (fun e => ?_)
          refine sum_r hs hl hT hH hd (sub 61 c61 (by decide)) (And.right h e) ?_
          intro r2 q2 w2 h hr
          exact And.intro (fun e2 => fin 61 _ _ _ c61 (by decide) (by decide) (by decide) (by decide) hr (And.left h e2)) (fun e2 => fin 61 _ _ _ c61 (by decide) (by decide) (by decide) (by decide) hr (And.right h e2))
        · rw [tk_n c61] at h ⊢
          refine And.intro (fun _ => ?_) (fun e => absurd rfl e)
          refine hq _ _ _ (And.left h rfl) ⟨fun e => absurd wr0 e, fun _ c _ => ?_⟩
          obtain ⟨_, c', g1, g2, g3⟩ := st0 c
          refine Or.inr ⟨rfl, bq.1, bq.2, c', fun k hk => g1 k (by omega), ⟨g2, fun e => ?_⟩, g3⟩
          rcases e with e | e | e
          · exact absurd e c60
          · exact absurd e c61
          · exact absurd e c62
  · refine du_X10_passes h ?_
    intro h
    rw [pas_w w0] at h ⊢
    refine And.intro (fun _ => ?_) (fun e => absurd rfl e)
    have h := And.left h rfl
    refine du_X10_passes h ?_
    intro h
    rw [pas_w w0] at h ⊢
    refine And.intro (fun _ => ?_) (fun e => absurd rfl e)
    have h := And.left h rfl
    refine du_X10_passes h ?_
    intro h
    rw [pas_w w0] at h ⊢
    refine And.intro (fun _ => ?_) (fun e => absurd rfl e)
    refine hq _ _ _ (And.left h rfl) ⟨hR.1, fun e c g => ?_⟩
    rcases hR.2 e c trivial with o | ⟨o1, _⟩
    · exact Or.inl o
    · exact absurd o1 w0
theorem rr_r (hs : ∀ k : Nat, sg k = tx k &&& 255) (hl : l.toInt ≤ 80) : ∀ n : Nat, THR (rr_X10 n).1 l t sg tx ru ∧ HER (rr_X10 n).2 l t sg tx ru := by
  intro n
  induction n with
  | zero => exact ⟨by intro P Q d p wr ia af as1 ah aa mx mh mw mf mk _ _ h; exact False.elim h, by intro P Q d p wr ia af as1 ah aa mx mh mw mf mk _ _ h; exact False.elim h⟩
  | succ n ih => exact ⟨thing_r hs hl ih.1 ih.2, held_r hs hl ih.1 ih.2⟩
end RLU
section RULE10
variable {P Q : Int32 → Int32 → Int32 → Nat → Int32 → Int32 → Int32 → Int32 → Int32 → Int32 → (Nat → Int32) → Prop} {af as1 ah aa : Int32} {mx mh mw mf mk tx : Nat → Int32}
theorem rule73 {x1 : Int32} {rd : Nat} {le to at1 wr ia : Int32} (hq : ∀ ru : Nat → Int32, P 0 0 0 rd le to at1 wr x1 ia ru → Q 0 0 0 rd le to at1 wr x1 ia ru) : ∀ (n : Nat) (x2 rs : Int32) (ru : Nat → Int32), wb_X10_rule_73 P af as1 ah aa mx mh mw mf mk tx n x1 x2 0 0 rd le to at1 wr rs ia ru → wb_X10_rule_73 Q af as1 ah aa mx mh mw mf mk tx n x1 x2 0 0 rd le to at1 wr rs ia ru := by
  intro n
  induction n with
  | zero => intro x2 rs ru h; exact False.elim h
  | succ n ih =>
    intro x2 rs ru h
    have h : ws_X10_rule_73 P (wb_X10_rule_73 P af as1 ah aa mx mh mw mf mk tx n) af as1 ah aa mx mh mw mf mk tx x1 x2 0 0 rd le to at1 wr rs ia ru := h
    show ws_X10_rule_73 Q (wb_X10_rule_73 Q af as1 ah aa mx mh mw mf mk tx n) af as1 ah aa mx mh mw mf mk tx x1 x2 0 0 rd le to at1 wr rs ia ru
    unfold ws_X10_rule_73 at h ⊢
    refine And.intro (fun c => hq _ (And.left h c)) (fun c => ?_)
    have h := And.right h c
    refine And.intro (And.left h) ?_
    have h := And.right h
    refine ae ?_
    have h := h _ rfl
    refine And.intro (And.left h) ?_
    have h := And.right h
    refine ae ?_
    have h := h _ rfl
    exact ih _ _ _ h
end RULE10
theorem rule10_w {Q : Int32 → Int32 → Int32 → Nat → Int32 → Int32 → Int32 → Int32 → Int32 → Int32 → (Nat → Int32) → Prop} {l th le to at1 wr rs ia af as1 ah aa l9 : Int32} {rd : Nat} {mx mh mw mf mk tx ru sg : Nat → Int32} (eT : l9.toInt = l.toInt) (hs : ∀ k : Nat, sg k = tx k &&& 255) (hl : 0 ≤ l.toInt ∧ l.toInt ≤ 80) (h : wp_X10_rule (fun o0 o1 o2 o3 o4 o5 o6 o7 o8 o9 o10 => o0 = ruv l9 sg → Q o0 o1 o2 o3 o4 o5 o6 o7 o8 o9 o10) l th rd le to at1 wr rs ia af as1 ah aa mx mh mw mf mk tx ru) : wp_X10_rule Q l th rd le to at1 wr rs ia af as1 ah aa mx mh mw mf mk tx ru := by
  obtain rfl : l9 = l := i32 eT
  have l0 : Int32.toInt (0 : Int32) = 0 := by decide
  have l40 : Int32.toInt (40 : Int32) = 40 := by decide
  have hst := stp_r l9 40
  unfold wp_X10_rule at h ⊢
  refine du_X10_begin h ?_
  intro h
  rw [F_X10_begin] at h ⊢
  dsimp only at h ⊢
  refine And.intro (fun c => ?_) (fun c => ?_)
  · have d := (fa_le _ _).mp c
    have h := And.left h c
    unfold ws_X10_rule_71 at h ⊢
    obtain ⟨n, h⟩ := h
    refine ⟨n, rule73 (fun ru hp => hp ?_) n _ _ _ h⟩
    unfold ruv
    rw [if_pos (i32 (by omega))]
  · have d := mt (fa_le _ _).mpr c
    have h := And.right h c
    have nz : ¬ l9 = 0 := fun e => c (by rw [e]; decide)
    have rv : ruv l9 sg = au l9 (stp l9 40) sg 1 0 0 0 := by unfold ruv; rw [if_neg nz]
    unfold wp_X10_heldR at h ⊢
    refine held_r (l := l9) (t := 40) hs hl.2 (rr_r hs hl.2 43).1 (rr_r hs hl.2 43).2 (by decide) ⟨by decide, by omega⟩ h ?_
    intro r q w9 h hR
    have o := hR.2 rfl 0 (by unfold GH; rw [bt_zero])
    -- a fault
    have bad : ∀ (at2 w : Int32), ¬ w = -1 → ruv l9 sg = -1 - w → ws_X10_rule_57 (fun o0 o1 o2 o3 o4 o5 o6 o7 o8 o9 o10 => o0 = ruv l9 sg → Q o0 o1 o2 o3 o4 o5 o6 o7 o8 o9 o10) af as1 ah aa mx mh mw mf mk tx l9 0 0 1 l9 40 at2 w rs 0 ru → ws_X10_rule_57 Q af as1 ah aa mx mh mw mf mk tx l9 0 0 1 l9 40 at2 w rs 0 ru := by
      intro at2 w w0 e h
      unfold ws_X10_rule_57 at h ⊢
      refine du_X10_fine h ?_
      intro h
      have k := fine_w w0
      refine And.intro (fun e => absurd k e) (fun e2 => And.right h e2 e.symm)
    rcases o with ⟨o1, o2, o3⟩ | ⟨o1, o2, o3, c', o4, o5, o6⟩
    · refine And.intro (fun c2 => bad _ _ o1 (by rw [rv]; exact o3) (And.left h c2)) (fun c2 => ?_)
      have h := And.right h c2
      refine du_X10_fault h ?_
      intro h
      rw [fault_w o1] at h ⊢
      exact bad _ _ o1 (by rw [rv]; exact o3) h
    · subst o1
      have hq0 : 0 ≤ q.toInt ∧ q.toInt ≤ (stp l9 40).toInt := by omega
      refine And.intro (fun c2 => ?_) (fun c2 => ?_)
      · have d2 := (fa_le _ _).mp c2
        have h := And.left h c2
        have eq : q = l9 := i32 (by omega)
        have he : F_X8_here q (stp l9 40) sg = -1 := by rw [F_X8_here, if_pos ((fa_le _ _).mpr (by omega))]
        have av : ruv l9 sg = 0 := by
          rw [rv, o6, au_u (by omega) hq0]
          unfold aub
          rw [if_pos he, if_pos (rfl : (0 : Int32) = 0), if_neg (by decide : ¬ (0 : Int32) < 0), if_pos eq]
        unfold ws_X10_rule_57 at h ⊢
        refine du_X10_fine h ?_
        intro h
        refine And.intro (fun e => ?_) (fun e => absurd e fine_m)
        have h := And.left h e
        unfold ws_X10_rule_71 at h ⊢
        obtain ⟨n, h⟩ := h
        exact ⟨n, rule73 (fun ru hp => hp av.symm) n _ _ _ h⟩
      · have d2 := mt (fa_le _ _).mpr c2
        have h := And.right h c2
        refine du_X10_fault h ?_
        intro h
        rw [fault_m] at h ⊢
        refine bad _ _ (ne_m1 hq0.1) ?_ h
        rw [rv, o6]
        exact au_bhF hs hl.2 (by decide) hq0 o5 (Or.inr rfl) (fun _ => Or.inr (fun e => by have := congrArg Int32.toInt e; omega))
