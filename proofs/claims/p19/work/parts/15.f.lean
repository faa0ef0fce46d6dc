theorem neg1 {x : Int32} (h : x = 1) : ¬ x = 0 := by rw [h]; decide
/-! sheet, marks, standing, leaned, nearest, reached: class against reference -/
theorem itr_cg {α : Type} {f g : Int32 → α → α} {a : α} {i : Nat} (n : Nat) (h : ∀ (k : Nat) (s : α), k < n → f (nI (i + k)) s = g (nI (i + k)) s) : itr f a i n = itr g a i n :=
  itr_rel (fun _ s t => s = t) rfl n (fun k s t hk e => by rw [e]; exact h k t hk)
theorem or0 (x : Int32) : x ||| 0 = x := by
  apply bt_ext
  intro k _
  rw [bt_or, bt_zero, Bool.or_false]
theorem hst {p sd : Int32} (hs : 0 ≤ sd.toInt ∧ sd.toInt ≤ 100) : (F_X3_hasStanding p sd = 0 ∧ F_X10_isStanding p sd = 0 ∧ (p.toInt < 0 ∨ sd.toInt ≤ p.toInt)) ∨ (F_X3_hasStanding p sd = 1 ∧ F_X10_isStanding p sd = 1 ∧ 0 ≤ p.toInt ∧ p.toInt < sd.toInt) := by
  have l0 : Int32.toInt (0 : Int32) = 0 := by decide
  have l1 : Int32.toInt (1 : Int32) = 1 := by decide
  have e := ta_sub sd 1 (by omega)
  rw [F_X3_hasStanding, F_X10_isStanding]
  by_cases c : p < 0
  · have d := (fa_lt _ _).mp c
    rw [if_pos c]
    rcases in01 p 0 (sd - 1) with ⟨q, _⟩ | ⟨_, q⟩
    · exact Or.inl ⟨rfl, q, by omega⟩
    · exfalso; omega
  · have d := mt (fa_lt _ _).mpr c
    rw [if_neg c]
    by_cases c2 : sd ≤ p
    · have d2 := (fa_le _ _).mp c2
      rw [if_pos c2]
      rcases in01 p 0 (sd - 1) with ⟨q, _⟩ | ⟨_, q⟩
      · exact Or.inl ⟨rfl, q, by omega⟩
      · exfalso; omega
    · have d2 := mt (fa_le _ _).mpr c2
      rw [if_neg c2]
      rcases in01 p 0 (sd - 1) with ⟨_, q⟩ | ⟨q, _⟩
      · exfalso; omega
      · exact Or.inr ⟨rfl, q, by omega, by omega⟩
theorem hfr {p fr : Int32} (hs : 0 ≤ fr.toInt ∧ fr.toInt ≤ 100) : (F_X3_hasFruit p fr = 0 ∧ F_X10_isFruit p fr = 0 ∧ (p.toInt < 0 ∨ fr.toInt ≤ p.toInt)) ∨ (F_X3_hasFruit p fr = 1 ∧ F_X10_isFruit p fr = 1 ∧ 0 ≤ p.toInt ∧ p.toInt < fr.toInt) := hst hs
theorem marks_eq {p e p' e' sd sd' th : Int32} {ft fk mf mk : Nat → Int32} (hp : p' = p) (he : e' = e) (hd : sd = sd') (h : BS sd' ft fk mf mk) (hs : 0 ≤ sd.toInt ∧ sd.toInt ≤ 8) : F_X9_marks p e sd ft = (F_X10_marks p' e' sd' th mf).1 := by
  subst hp he hd
  have l0 : Int32.toInt (0 : Int32) = 0 := by decide
  have l99 : Int32.toInt (99 : Int32) = 99 := by decide
  rw [F_X9_marks, F_X10_marks]
  rcases in01 p' 0 99 with ⟨a, b⟩ | ⟨a, b⟩
  · rw [if_pos a]
    by_cases c : p' < 0
    · rw [if_pos c]
    · have d := mt (fa_lt _ _).mpr c
      rw [if_neg c, if_pos ((fa_lt _ _).mpr (by omega))]
  · rw [if_neg (neg1 a), if_neg (fun c => by have := (fa_lt _ _).mp c; omega), if_neg (fun c => by have := (fa_lt _ _).mp c; omega)]
    rcases in01 e' 0 99 with ⟨a2, b2⟩ | ⟨a2, b2⟩
    · rw [if_pos a2]
      by_cases c : e' < 0
      · rw [if_pos c]
      · have d := mt (fa_lt _ _).mpr c
        rw [if_neg c, if_neg (fun c => by have := (fa_le _ _).mp c; omega)]
    · rw [if_neg (neg1 a2), if_neg (fun c => by have := (fa_lt _ _).mp c; omega), if_pos ((fa_le _ _).mpr (by omega)), F_X3_standingsAt, ex_X3_standingsAt_5, ex_X10_marks_32]
      show itr _ _ _ _ = itr _ _ _ _
      refine itr_cg _ (fun k s hk => ?_)
      have i := (nI_0c (k := k) (by omega)).1
      rw [bd_X3_standingsAt_5, bd_X10_marks_32, i, (h k (by omega)).1, j_X3_standingsAt_37, j_X3_standingsAt_37, j_X10_marks_66, j_X10_marks_66, or0]
theorem asd_eq {f s : Int32} {x ft mx mf : Nat → Int32} (e1 : x f.toNatClampNeg = mx f.toNatClampNeg) (e2 : ft s.toNatClampNeg = mf s.toNatClampNeg) (b1 : 0 ≤ Int32.toInt (x f.toNatClampNeg) ∧ Int32.toInt (x f.toNatClampNeg) ≤ 99) (b2 : 0 ≤ Int32.toInt (ft s.toNatClampNeg) ∧ Int32.toInt (ft s.toNatClampNeg) ≤ 99) : F_X3_aside f s x ft = F_X10_far f s mx mf := by
  rw [F_X3_aside, F_X10_far, ← e1, ← e2]
  generalize x f.toNatClampNeg = a at b1 ⊢
  generalize ft s.toNatClampNeg = b at b2 ⊢
  have s1 := ta_sub a b (by omega)
  have s2 := ta_sub b a (by omega)
  have ab := ti_abs (a - b) (by omega)
  apply i32
  by_cases c : a ≤ b
  · have d := (fa_le _ _).mp c
    rw [if_pos c]; omega
  · have d := mt (fa_le _ _).mpr c
    rw [if_neg c]; omega
theorem abv_eq {f s : Int32} {x ft mx mf : Nat → Int32} (e1 : x f.toNatClampNeg = mx f.toNatClampNeg) (e2 : ft s.toNatClampNeg = mf s.toNatClampNeg) (b1 : 0 ≤ Int32.toInt (x f.toNatClampNeg) ∧ Int32.toInt (x f.toNatClampNeg) ≤ 99) (b2 : 0 ≤ Int32.toInt (ft s.toNatClampNeg) ∧ Int32.toInt (ft s.toNatClampNeg) ≤ 99) : F_X3_above f s x ft = F_X10_above f s mx mf := by
  rw [F_X3_above, F_X10_above, ← e1, ← e2]
  generalize x f.toNatClampNeg = a at b1 ⊢
  generalize ft s.toNatClampNeg = b at b2 ⊢
  have l0 : Int32.toInt (0 : Int32) = 0 := by decide
  have s1 := ta_sub a b (by omega)
  by_cases c : a ≤ b
  · have d := (fa_le _ _).mp c
    rw [if_pos c, if_neg (fun c2 => by have := (fa_lt _ _).mp c2; omega)]
  · have d := mt (fa_le _ _).mpr c
    rw [if_neg c, if_pos ((fa_lt _ _).mpr (by omega))]
/-- what class and reference know of the tree, in one -/
noncomputable def TR (fr sd : Int32) (x h w r ft fk mx mh mw mr mf mk : Nat → Int32) : Prop := BE fr x h w r mx mh mw mr ∧ BS sd ft fk mf mk ∧ (0 ≤ fr.toInt ∧ fr.toInt ≤ 16) ∧ (0 ≤ sd.toInt ∧ sd.toInt ≤ 8) ∧ (∀ k : Nat, 0 ≤ Int32.toInt (mx k) ∧ Int32.toInt (mx k) ≤ 99) ∧ (∀ k : Nat, 0 ≤ Int32.toInt (mh k) ∧ Int32.toInt (mh k) ≤ 99) ∧ (∀ k : Nat, 0 ≤ Int32.toInt (mf k) ∧ Int32.toInt (mf k) ≤ 99) ∧ (∀ k : Nat, 0 ≤ Int32.toInt (mk k) ∧ Int32.toInt (mk k) ≤ 99)
section TREE
variable {fr sd : Int32} {x h w r ft fk mx mh mw mr mf mk st told : Nat → Int32}
theorem iw_eq (T : TR fr sd x h w r ft fk mx mh mw mr mf mk) {f s : Int32} (q : Int32) (hf : 0 ≤ f.toInt ∧ f.toInt < fr.toInt) (hs : 0 ≤ s.toInt ∧ s.toInt < sd.toInt) : F_X3_isWithin f s q x h ft fk = F_X10_isWithin f s q mx mh mf mk := by
  obtain ⟨be, bs, bf, bd, bx, bh, bft, bfk⟩ := T
  have cf := cl_n f
  have cs := cl_n s
  obtain ⟨e1, e2, _, _⟩ := be f.toNatClampNeg (by omega)
  obtain ⟨e3, e4⟩ := bs s.toNatClampNeg (by omega)
  rw [F_X3_isWithin, F_X10_isWithin, asd_eq e1 e3 (by rw [e1]; exact bx _) (by rw [e3]; exact bft _), abv_eq e2 e4 (by rw [e2]; exact bh _) (by rw [e4]; exact bfk _)]
theorem rch_eq (hst : ∀ k : Nat, k < 5 → st k = told k) (a b : Int32) : F_X3_reach a b st = F_X10_reachBy a b told := by
  rw [F_X3_reach, F_X10_reachBy, hst _ (by decide), hst _ (by decide), hst _ (by decide)]
theorem wi_eq (T : TR fr sd x h w r ft fk mx mh mw mr mf mk) (hst : ∀ k : Nat, k < 5 → st k = told k) {s : Int32} (a b : Int32) (hs : 0 ≤ s.toInt ∧ s.toInt < sd.toInt) : F_X3_within s (F_X3_reach a b st) fr x h ft fk = F_X10_reachedFrom s a b fr mx mh mf mk told := by
  rw [F_X3_within, F_X10_reachedFrom, ex_X3_within_5, ex_X10_reachedFrom_6, rch_eq hst]
  have bf := T.2.2.1
  refine itr_cg _ (fun k s2 hk => ?_)
  have i := (nI_0c (k := k) (by omega)).2
  rw [bd_X3_within_5, bd_X10_reachedFrom_6, iw_eq T _ (by omega) hs, j_X3_within_32, j_X3_within_32, j_X10_reachedFrom_41, j_X10_reachedFrom_41, or0]
theorem ln_eq (T : TR fr sd x h w r ft fk mx mh mw mr mf mk) (hst : ∀ k : Nat, k < 5 → st k = told k) {f s : Int32} (hf : 0 ≤ f.toInt ∧ f.toInt < fr.toInt) (hs : 0 ≤ s.toInt ∧ s.toInt < sd.toInt) : 0 ≤ Int32.toInt (F_X10_leanOf f s mx mh mf mk told) ∧ ((Int32.toInt (F_X10_leanOf f s mx mh mf mk told) ≤ 30 ∧ F_X3_leanNeeded f s x h ft fk st = F_X10_leanOf f s mx mh mf mk told) ∨ (30 < Int32.toInt (F_X10_leanOf f s mx mh mf mk told) ∧ F_X3_leanNeeded f s x h ft fk st = -2)) := by
  have l1 : Int32.toInt (1 : Int32) = 1 := by decide
  have l30 : Int32.toInt (30 : Int32) = 30 := by decide
  have key : ∀ (m : Nat) (v : Int32), 0 ≤ v.toInt → v.toInt ≤ 31 → 31 - v.toInt < (m : Int) → 0 ≤ Int32.toInt (flp (fs_X10_leanOf_2 (fun o0 => o0) mx mh mf mk told) (fun _ _ _ => 0) m f s v) ∧ ((Int32.toInt (flp (fs_X10_leanOf_2 (fun o0 => o0) mx mh mf mk told) (fun _ _ _ => 0) m f s v) ≤ 30 ∧ flp (fs_X3_leanNeeded_2 (fun o0 => o0) x h ft fk st) (fun _ _ _ => 0) m f s v = flp (fs_X10_leanOf_2 (fun o0 => o0) mx mh mf mk told) (fun _ _ _ => 0) m f s v) ∨ (30 < Int32.toInt (flp (fs_X10_leanOf_2 (fun o0 => o0) mx mh mf mk told) (fun _ _ _ => 0) m f s v) ∧ flp (fs_X3_leanNeeded_2 (fun o0 => o0) x h ft fk st) (fun _ _ _ => 0) m f s v = -2)) := by
    intro m
    induction m with
    | zero => intro v h1 h2 h3; exfalso; omega
    | succ m ih =>
      intro v h1 h2 h3
      rw [flp_s, flp_s, fs_X10_leanOf_2, fs_X3_leanNeeded_2, hst _ (by decide), iw_eq T _ hf hs]
      by_cases c : 30 < v
      · have d := (fa_lt _ _).mp c
        rw [if_pos c, if_pos c]
        exact ⟨h1, Or.inr ⟨by omega, rfl⟩⟩
      · have d := mt (fa_lt _ _).mpr c
        rw [if_neg c, if_neg c]
        by_cases c2 : F_X10_isWithin f s (told (0 : Int32).toNatClampNeg + v) mx mh mf mk = 0
        · rw [if_pos c2, if_pos c2]
          have e := ta_add v 1 (by omega)
          exact ih (v + 1) (by omega) (by omega) (by omega)
        · rw [if_neg c2, if_neg c2]
          exact ⟨h1, Or.inl ⟨by omega, rfl⟩⟩
  exact key 32 0 (by decide) (by decide) (by decide)
theorem leaned_eq (T : TR fr sd x h w r ft fk mx mh mw mr mf mk) (hst2 : ∀ k : Nat, k < 5 → st k = told k) {f s f' s' fr9 sd9 th : Int32} (ef : f' = f) (es : s' = s) (e1 : fr9 = fr) (e2 : sd9 = sd) : F_X9_leaned f s fr9 sd9 x h ft fk st = (F_X10_leaned f' s' fr sd th mx mh mf mk told).1 := by
  subst ef es e1 e2
  have bf := T.2.2.1
  have bd := T.2.2.2.1
  have l30 : Int32.toInt (30 : Int32) = 30 := by decide
  rw [F_X9_leaned, F_X10_leaned]
  rcases hfr (p := f') (fr := fr9) (by omega) with ⟨a, b, _⟩ | ⟨a, b, g1⟩
  · rw [if_pos a, if_pos b]
  · rw [if_neg (neg1 a), if_neg (neg1 b)]
    rcases hst (p := s') (sd := sd9) (by omega) with ⟨a, b, _⟩ | ⟨a, b, g2⟩
    · rw [if_pos a, if_pos b]
    · rw [if_neg (neg1 a), if_neg (neg1 b)]
      obtain ⟨_, q | q⟩ := ln_eq T hst2 g1 g2
      · rw [if_pos ((fa_le _ _).mpr (by omega))]; exact q.2
      · rw [if_neg (fun c => by have := (fa_le _ _).mp c; omega)]; exact q.2
theorem reached_eq (T : TR fr sd x h w r ft fk mx mh mw mr mf mk) (hst2 : ∀ k : Nat, k < 5 → st k = told k) {s s' fr9 sd9 th rs rm : Int32} {rn row : Nat → Int32} (es : s' = s) (e1 : fr9 = fr) (e2 : sd9 = sd) : (F_X9_reached s fr9 sd9 x h ft fk st rs rn).1 = (F_X10_reached s' fr sd rm th mx mh mf mk told row).1 := by
  subst es e1 e2
  have bd := T.2.2.2.1
  rw [F_X9_reached, F_X10_reached]
  rcases hst (p := s') (sd := sd9) (by omega) with ⟨a, b, _⟩ | ⟨a, b, g2⟩
  · rw [if_pos a, if_pos b]
  · rw [if_neg (neg1 a), if_neg (neg1 b)]
    exact wi_eq T hst2 0 0 g2
theorem nearest_eq (T : TR fr sd x h w r ft fk mx mh mw mr mf mk) (hst2 : ∀ k : Nat, k < 5 → st k = told k) {f f' fr9 sd9 th rs rm : Int32} {rn row : Nat → Int32} (ef : f' = f) (e1 : fr9 = fr) (e2 : sd9 = sd) : (F_X9_nearest f fr9 sd9 x h ft fk st rs rn).1 = (F_X10_nearest f' fr sd rm th mx mh mf mk told row).1 := by
  subst ef e1 e2
  have bf := T.2.2.1
  have bd := T.2.2.2.1
  have l0 : Int32.toInt (0 : Int32) = 0 := by decide
  have l30 : Int32.toInt (30 : Int32) = 30 := by decide
  have l31 : Int32.toInt (31 : Int32) = 31 := by decide
  have lm : Int32.toInt (-2 : Int32) = -2 := by decide
  rw [F_X9_nearest, F_X10_nearest]
  rcases hfr (p := f') (fr := fr9) (by omega) with ⟨a, b, _⟩ | ⟨a, b, g1⟩
  · rw [if_pos a, if_pos b]
  · rw [if_neg (neg1 a), if_neg (neg1 b)]
    have key := itr_rel (i := 0) (f := bd_X9_nearest_22 fr9 sd9 x h ft fk st f' rs rn) (g := bd_X10_nearest_20 fr9 sd9 mx mh mf mk told f' rm 0 row) (a := ((-2), 31)) (b := -2) (fun k s t => s.1 = t ∧ ((t = -2 ∧ s.2 = 31) ∨ (0 ≤ t.toInt ∧ t.toInt < (k : Int) ∧ s.2 = F_X10_leanOf f' t mx mh mf mk told ∧ s.2.toInt ≤ 30))) ⟨rfl, Or.inl ⟨rfl, rfl⟩⟩ (Int32.toInt sd9 - ((0 : Nat) : Int)).toNat (fun k s t hk hR => by
      have i := (nI_0c (k := k) (by omega)).2
      have gs : 0 ≤ Int32.toInt (nI (0 + k)) ∧ Int32.toInt (nI (0 + k)) < sd9.toInt := by omega
      rw [bd_X9_nearest_22, bd_X10_nearest_20, j_X9_nearest_63, j_X9_nearest_63, j_X10_nearest_60, j_X10_nearest_58, j_X10_nearest_60]
      obtain ⟨q0, q | q⟩ := ln_eq T hst2 g1 gs
      · have k1 : ¬ F_X10_leanOf f' (nI (0 + k)) mx mh mf mk told < 0 := fun c => by have := (fa_lt _ _).mp c; omega
        have k2 : ¬ 30 < F_X10_leanOf f' (nI (0 + k)) mx mh mf mk told := fun c => by have := (fa_lt _ _).mp c; omega
        rw [q.2, if_neg k1, if_neg k2]
        obtain ⟨r1, ⟨r2, r3⟩ | ⟨r2, r3, r4, r5⟩⟩ := hR
        · have k4 : ¬ s.2 ≤ F_X10_leanOf f' (nI (0 + k)) mx mh mf mk told := fun c => by have := (fa_le _ _).mp c; rw [r3] at this; omega
          have k5 : t < 0 := by rw [r2]; decide
          rw [if_neg k4, if_pos k5]
          exact ⟨rfl, Or.inr ⟨by omega, by omega, rfl, q.1⟩⟩
        · have k5 : ¬ t < 0 := fun c => by have := (fa_lt _ _).mp c; omega
          rw [if_neg k5, ← r4]
          by_cases c : s.2 ≤ F_X10_leanOf f' (nI (0 + k)) mx mh mf mk told
          · rw [if_pos c, if_pos c]
            exact ⟨r1, Or.inr ⟨r2, by omega, r4, r5⟩⟩
          · rw [if_neg c, if_neg c]
            exact ⟨rfl, Or.inr ⟨by omega, by omega, rfl, q.1⟩⟩
      · have k3 : 30 < F_X10_leanOf f' (nI (0 + k)) mx mh mf mk told := (fa_lt _ _).mpr (by omega)
        rw [q.2, if_pos (show (-2 : Int32) < 0 by decide), if_pos k3]
        obtain ⟨r1, ⟨r2, r3⟩ | ⟨r2, r3, r4, r5⟩⟩ := hR
        · exact ⟨r1, Or.inl ⟨r2, r3⟩⟩
        · exact ⟨r1, Or.inr ⟨r2, by omega, r4, r5⟩⟩)
    rw [ex_X9_nearest_22, ex_X10_nearest_20]
    obtain ⟨r1, ⟨r2, r3⟩ | ⟨r2, r3, r4, r5⟩⟩ := key
    · rw [r1, r2, if_pos (by decide), if_neg (by decide)]
    · rw [r1, if_neg (fun c => by have := (fa_lt _ _).mp c; omega), if_pos ((fa_le _ _).mpr (by omega))]
end TREE
theorem std_eq {p a p' a' sd sd' th r2 th2 : Int32} {ft fk mf mk : Nat → Int32} (hp : p' = p) (ha : a' = a) (hd : sd = sd') (h : BS sd' ft fk mf mk) (hs : 0 ≤ sd.toInt ∧ sd.toInt ≤ 8) (e10 : (r2, th2) = F_X10_standing p' a' sd' th mf mk) : (F_X9_standing p a sd ft fk = none ∧ th2 = 1) ∨ (F_X9_standing p a sd ft fk = some r2 ∧ th2 = 0) := by
  subst hp ha hd
  have l0 : Int32.toInt (0 : Int32) = 0 := by decide
  have l1 : Int32.toInt (1 : Int32) = 1 := by decide
  have l2 : Int32.toInt (2 : Int32) = 2 := by decide
  rw [F_X10_standing] at e10
  rw [F_X9_standing]
  rcases hst (p := p') (sd := sd) (by omega) with ⟨a1, b1, _⟩ | ⟨a1, b1, g2⟩
  · rw [if_pos b1, j_X10_standing_22, F_X10_lost] at e10
    rw [if_pos a1]
    exact Or.inl ⟨rfl, congrArg Prod.snd e10⟩
  · rw [if_neg (neg1 b1)] at e10
    rw [if_neg (neg1 a1)]
    have c := cl_n p'
    obtain ⟨e1, e2⟩ := h p'.toNatClampNeg (by omega)
    rcases in01 a' 0 2 with ⟨q, q2⟩ | ⟨q, q2⟩
    · rw [if_pos q, j_X10_standing_22, F_X10_lost] at e10
      rw [if_neg (fun e => by have := congrArg Int32.toInt e; omega), if_neg (fun e => by have := congrArg Int32.toInt e; omega), if_neg (fun e => by have := congrArg Int32.toInt e; omega)]
      exact Or.inl ⟨rfl, congrArg Prod.snd e10⟩
    · rw [if_neg (neg1 q)] at e10
      by_cases c0 : a' = 0
      · rw [if_pos c0] at e10 ⊢
        have g := congrArg Prod.fst e10
        dsimp only at g
        exact Or.inr ⟨by rw [g, e1], congrArg Prod.snd e10⟩
      · rw [if_neg c0] at e10 ⊢
        by_cases c1 : a' = 1
        · rw [if_pos c1] at e10 ⊢
          have g := congrArg Prod.fst e10
          dsimp only at g
          exact Or.inr ⟨by rw [g, e2], congrArg Prod.snd e10⟩
        · rw [if_neg c1] at e10 ⊢
          have d0 := mt (fa_eq _ _).mpr c0
          have d1 := mt (fa_eq _ _).mpr c1
          have c2 : a' = 2 := i32 (by omega)
          rw [if_pos c2]
          have g := congrArg Prod.fst e10
          dsimp only at g
          exact Or.inr ⟨by rw [g, F_X3_downSeconds, F_X10_downOf, e2], congrArg Prod.snd e10⟩
theorem sheet_itr {fr p n st v0 : Int32} {w mw : Nat → Int32} (hf : 0 ≤ fr.toInt ∧ fr.toInt ≤ 16) (hp : ¬ p = 3) : (itr (bd_X3_fillWorths_9 fr p n st) (0, v0, w) 0 (Int32.toInt fr - ((0 : Nat) : Int)).toNat).1 = (itr (bd_X10_sheet_43 fr p n st 0) (0, v0, mw) 0 (Int32.toInt fr - ((0 : Nat) : Int)).toNat).1 ∧ ∀ j : Nat, (j : Int) < fr.toInt → (itr (bd_X3_fillWorths_9 fr p n st) (0, v0, w) 0 (Int32.toInt fr - ((0 : Nat) : Int)).toNat).2.2 j = (itr (bd_X10_sheet_43 fr p n st 0) (0, v0, mw) 0 (Int32.toInt fr - ((0 : Nat) : Int)).toNat).2.2 j := by
  have key := itr_rel (i := 0) (f := bd_X3_fillWorths_9 fr p n st) (g := bd_X10_sheet_43 fr p n st 0) (a := ((0 : Int32), v0, w)) (b := ((0 : Int32), v0, mw)) (fun k s t => s.1 = t.1 ∧ s.2.1 = t.2.1 ∧ ∀ j : Nat, j < k → s.2.2 j = t.2.2 j) ⟨rfl, rfl, fun j hj => absurd hj (by omega)⟩ (Int32.toInt fr - ((0 : Nat) : Int)).toNat (fun k s t hk hR => by
    have i := nI_0c (k := k) (by omega)
    obtain ⟨r1, r2, r3⟩ := hR
    have u : ∀ v : Int32, ∀ j : Nat, j < k + 1 → upd s.2.2 k v j = upd t.2.2 k v j := by
      intro v j hj
      by_cases hk2 : j = k
      · rw [hk2, upd_i, upd_i]
      · rw [upd_n _ _ hk2, upd_n _ _ hk2]; exact r3 j (by omega)
    have m : ∀ z : Int32, (j_X3_fillWorths_41 (fun q0 q1 q2 q3 q4 q5 q6 => (q3, q4, q6)) fr p n st s.1 s.2.1 (nI (0 + k)) z s.2.2).1 = (j_X10_sheet_75 (fun q0 q1 q2 q3 q4 q5 q6 q7 => (q3, q4, q7)) fr p n st t.1 t.2.1 (nI (0 + k)) z 0 t.2.2).1 ∧ (j_X3_fillWorths_41 (fun q0 q1 q2 q3 q4 q5 q6 => (q3, q4, q6)) fr p n st s.1 s.2.1 (nI (0 + k)) z s.2.2).2.1 = (j_X10_sheet_75 (fun q0 q1 q2 q3 q4 q5 q6 q7 => (q3, q4, q7)) fr p n st t.1 t.2.1 (nI (0 + k)) z 0 t.2.2).2.1 ∧ ∀ j : Nat, j < k + 1 → (j_X3_fillWorths_41 (fun q0 q1 q2 q3 q4 q5 q6 => (q3, q4, q6)) fr p n st s.1 s.2.1 (nI (0 + k)) z s.2.2).2.2 j = (j_X10_sheet_75 (fun q0 q1 q2 q3 q4 q5 q6 q7 => (q3, q4, q7)) fr p n st t.1 t.2.1 (nI (0 + k)) z 0 t.2.2).2.2 j := by
      intro z
      rw [j_X3_fillWorths_41, j_X10_sheet_75, if_neg hp]
      by_cases c : n ≤ nI (0 + k)
      · have d := (fa_le _ _).mp c
        rw [if_pos c, if_neg (fun c2 => by have := (fa_lt _ _).mp c2; omega), j_X3_fillWorths_70, j_X10_sheet_94, j_X10_sheet_109, i.1]
        dsimp only
        rw [upd_i, upd_i, r1, r2]
        exact ⟨rfl, rfl, u 0⟩
      · have d := mt (fa_le _ _).mpr c
        have c9 : nI (0 + k) < n := (fa_lt _ _).mpr (by omega)
        rw [if_neg c, if_pos c9, j_X3_fillWorths_70, j_X10_sheet_109, i.1]
        dsimp only
        rw [upd_i, upd_i, r1, r2]
        exact ⟨rfl, rfl, u _⟩
    rw [bd_X3_fillWorths_9, bd_X10_sheet_43, ← r2]
    by_cases c0 : p = 0
    · rw [if_pos c0, if_pos c0, r2]; have q := m t.2.1.toInt8.toInt32; rw [r2] at q; exact q
    · rw [if_neg c0, if_neg c0]
      by_cases c1 : p = 1
      · rw [if_pos c1, if_pos c1, r2]; have q := m t.2.1.toInt16.toInt32; rw [r2] at q; exact q
      · rw [if_neg c1, if_neg c1, r2]; have q := m t.2.1; rw [r2] at q; exact q)
  exact ⟨key.1, fun j hj => key.2.2 j (by omega)⟩
theorem sheet_0c {fr : Int32} {w : Nat → Int32} (hf : 0 ≤ fr.toInt ∧ fr.toInt ≤ 16) : ∀ k : Nat, (k : Int) ≤ fr.toInt → ∀ j : Nat, j < k → (itr (bd_X3_fillWorths_9 fr 2 0 0) (0, 0, w) 0 k).2.2 j = 0 := by
  have l0 : Int32.toInt (0 : Int32) = 0 := by decide
  intro k
  induction k with
  | zero => intro _ j hj; omega
  | succ k ih =>
    intro hk j hj
    have i := nI_0c (k := k) (by omega)
    rw [itr_s, bd_X3_fillWorths_9, if_neg (by decide), if_neg (by decide), j_X3_fillWorths_41, if_pos ((fa_le _ _).mpr (by omega)), j_X3_fillWorths_70, i.1]
    dsimp only
    by_cases hk2 : j = k
    · rw [hk2, upd_i]
    · rw [upd_n _ _ hk2]; exact ih (by omega) j (by omega)
theorem sheet_0m {fr n st v0 : Int32} {w : Nat → Int32} (hf : 0 ≤ fr.toInt ∧ fr.toInt ≤ 16) : ∀ k : Nat, (k : Int) ≤ fr.toInt → ∀ j : Nat, j < k → (itr (bd_X10_sheet_43 fr 3 n st 0) (0, v0, w) 0 k).2.2 j = 0 := by
  intro k
  induction k with
  | zero => intro _ j hj; omega
  | succ k ih =>
    intro hk j hj
    have i := nI_0c (k := k) (by omega)
    rw [itr_s, bd_X10_sheet_43, if_neg (by decide), if_neg (by decide), j_X10_sheet_75, if_pos rfl, j_X10_sheet_94, j_X10_sheet_109, i.1]
    dsimp only
    by_cases hk2 : j = k
    · rw [hk2, upd_i]
    · rw [upd_n _ _ hk2]; exact ih (by omega) j (by omega)
theorem sheet_rel {p n v s p' n' v' s' fr fr' th r1 r2 th2 : Int32} {x h w r mx mh mw mr w1 mw1 : Nat → Int32} (e9 : (r1, w1) = F_X9_sheet p n v s fr w) (e10 : (r2, th2, mw1) = F_X10_sheet p' n' v' s' fr' th mw) (hp : p' = p) (hn : n' = n) (hv : v' = v) (hs : s' = s) (hfr : fr = fr') (hb : BE fr' x h w r mx mh mw mr) (hf : 0 ≤ fr.toInt ∧ fr.toInt ≤ 16) : r1 = r2 ∧ BE fr' x h w1 r mx mh mw1 mr := by
  subst hp hn hv hs hfr
  have l0 : Int32.toInt (0 : Int32) = 0 := by decide
  have l3 : Int32.toInt (3 : Int32) = 3 := by decide
  have fin : ∀ (a : Int32) (f g : Nat → Int32), (r1, w1) = (a, f) → (r2, th2, mw1) = (a, 0, g) → (∀ j : Nat, (j : Int) < fr.toInt → f j = g j) → r1 = r2 ∧ BE fr x h w1 r mx mh mw1 mr := by
    intro a f g q1 q2 q3
    have g1 := congrArg Prod.fst q1
    have g2 := congrArg Prod.snd q1
    have g3 := congrArg Prod.fst q2
    have g4 := congrArg (fun z => z.2.2) q2
    dsimp only at g1 g2 g3 g4
    rw [g1, g2, g3, g4]
    refine ⟨rfl, fun j hj => ?_⟩
    obtain ⟨b1, b2, _, b4⟩ := hb j hj
    exact ⟨b1, b2, q3 j hj, b4⟩
  have same : ∀ j : Nat, (j : Int) < fr.toInt → w j = mw j := fun j hj => (hb j hj).2.2.1
  rw [F_X9_sheet] at e9
  rw [F_X10_sheet] at e10
  rcases in01 p' 0 3 with ⟨q, q2⟩ | ⟨q, q2⟩
  · rw [if_pos q] at e10
    by_cases c : p' < 0
    · rw [if_pos c] at e9; exact fin _ _ _ e9 e10 same
    · have d := mt (fa_lt _ _).mpr c
      rw [if_neg c, if_pos ((fa_lt _ _).mpr (by omega))] at e9; exact fin _ _ _ e9 e10 same
  · rw [if_neg (neg1 q)] at e10
    rw [if_neg (fun c => by have := (fa_lt _ _).mp c; omega), if_neg (fun c => by have := (fa_lt _ _).mp c; omega)] at e9
    by_cases c16 : n' ≤ 16
    · rw [if_pos c16] at e9 e10
      by_cases c3 : p' = 3
      · rw [if_pos c3, F_X3_fillWorths, ex_X3_fillWorths_9] at e9
        subst c3
        rw [if_pos (by decide), j_X10_sheet_34, ex_X10_sheet_43, if_pos rfl] at e10
        exact fin _ _ _ e9 e10 (fun j hj => by rw [sheet_0c hf _ (by omega) j (by omega), sheet_0m hf _ (by omega) j (by omega)])
      · have d3 := mt (fa_eq _ _).mpr c3
        rw [if_neg c3] at e9
        rw [if_neg (fun c => by have := (fa_le _ _).mp c; omega)] at e10
        by_cases cn : 0 ≤ n'
        · rw [if_pos cn, F_X3_fillWorths, ex_X3_fillWorths_9] at e9
          rw [if_pos cn, j_X10_sheet_34, ex_X10_sheet_43, if_neg c3] at e10
          obtain ⟨s1, s2⟩ := sheet_itr (fr := fr) (p := p') (n := n') (st := s') (v0 := v') (w := w) (mw := mw) hf c3
          rw [← s1] at e10
          exact fin _ _ _ e9 e10 s2
        · rw [if_neg cn] at e9 e10; exact fin _ _ _ e9 e10 same
    · rw [if_neg c16] at e9 e10; exact fin _ _ _ e9 e10 same
