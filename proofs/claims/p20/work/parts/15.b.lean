/-! one LINE: both readers alike (printed by line.py) -/
theorem pair_rel {l t a : Int32} {sg tx ru : Nat → Int32} (hs : ∀ k : Nat, sg k = tx k &&& 255) (hl : l.toInt ≤ 80) (ha : 0 ≤ a.toInt ∧ a.toInt ≤ 100) :
    (∃ v1 v2 p4 : Int32, (∀ (i : Int32) (x h : Nat → Int32), 0 ≤ i.toInt ∧ i.toInt < 16 → aHt i a (stp l t) sg x h = (1, p4, upd x i.toNatClampNeg v1, upd h i.toNatClampNeg v2)) ∧ (∀ (i : Int32) (x h : Nat → Int32), 0 ≤ i.toInt ∧ i.toInt < 8 → aHL i a (stp l t) sg x h = (1, p4, upd x i.toNatClampNeg v1, upd h i.toNatClampNeg v2)) ∧ (aBD 2 1 l t a (-1) tx ru).1 = v1 ∧ (aBD 2 1 l t (aD5 44 1 l t (aBD 2 1 l t a (-1) tx ru).2.1 (aBD 2 1 l t a (-1) tx ru).2.2 tx ru).1 (aD5 44 1 l t (aBD 2 1 l t a (-1) tx ru).2.1 (aBD 2 1 l t a (-1) tx ru).2.2 tx ru).2 tx ru) = (v2, p4, -1) ∧ a.toInt < p4.toInt ∧ p4.toInt ≤ (stp l t).toInt)
    ∨ (∃ q g : Int32, (∀ (i : Int32) (x h : Nat → Int32), aHt i a (stp l t) sg x h = (0, q, x, h)) ∧ (∀ (i : Int32) (x h : Nat → Int32), aHL i a (stp l t) sg x h = (0, q, x, h)) ∧ (aBD 2 1 l t (aD5 44 1 l t (aBD 2 1 l t a (-1) tx ru).2.1 (aBD 2 1 l t a (-1) tx ru).2.2 tx ru).1 (aD5 44 1 l t (aBD 2 1 l t a (-1) tx ru).2.1 (aBD 2 1 l t a (-1) tx ru).2.2 tx ru).2 tx ru) = (g, q, q) ∧ a.toInt ≤ q.toInt ∧ q.toInt ≤ 100) := by
  have hst := stp_r l t
  by_cases c1 : aC7 a (stp l t) sg = -1
  · refine Or.inr ⟨a, 0, fun i x h => ?_, fun i x h => ?_, ?_, by omega, by omega⟩
    · rw [aHt, c_no c1, if_pos rfl]
    · rw [aHL, c_no c1, if_pos rfl]
    · rw [m_no hs ha (by decide) c1]
      have w := ne_m1 ha.1
      rw [need_w (show ¬ ((0 : Int32), a, a).2.2 = -1 from w)]
      exact num_w w
  · have e1 := c2_ok c1
    have e2 := m2_ok (ru := ru) hs ha c1
    have v1 := nv2_r c1
    have b1 := np2_r ha.1 (by omega) c1
    have b0 := dg_in c1
    obtain ⟨u1, hu1⟩ : ∃ u, u = nv2 (stp l t) sg a := ⟨_, rfl⟩
    obtain ⟨p2, hp2⟩ : ∃ u, u = np2 (stp l t) sg a := ⟨_, rfl⟩
    rw [← hu1, ← hp2] at e1 e2
    rw [← hu1] at v1
    rw [← hp2] at b1
    have u1n := ne_m1 v1.1
    by_cases c2 : aE7 p2 (stp l t) sg = 44
    · have e3 := tk_y c2
      have e4 := need_y (ru := ru) hs c2
      have b2 := hr_c c2 (by decide)
      have b3 := p1_r (p := p2) (st := (stp l t)) (by omega) (by omega) b2
      by_cases c3 : aC7 (p2 + 1) (stp l t) sg = -1
      · refine Or.inr ⟨p2 + 1, 0, fun i x h => ?_, fun i x h => ?_, ?_, by omega, by omega⟩
        · rw [aHt, e1, if_neg u1n, e3, if_neg n10, c_no c3, if_pos rfl]
        · rw [aHL, e1, if_neg u1n, e3, if_neg n10, c_no c3, if_pos rfl]
        · rw [e2]
          show aBD 2 1 l t (aD5 44 1 l t p2 (-1) tx ru).1 (aD5 44 1 l t p2 (-1) tx ru).2 tx ru = _
          rw [e4]
          show aBD 2 1 l t (p2 + 1) (-1) tx ru = _
          exact m_no hs (by omega) (by decide) c3
      · have e5 := c2_ok c3
        have e6 := m2_ok (ru := ru) hs (show 0 ≤ (p2 + 1).toInt ∧ (p2 + 1).toInt ≤ 100 by omega) c3
        have v2 := nv2_r c3
        have b4 := np2_r (p := p2 + 1) (by omega) (by omega) c3
        obtain ⟨u2, hu2⟩ : ∃ u, u = nv2 (stp l t) sg (p2 + 1) := ⟨_, rfl⟩
        obtain ⟨p4, hp4⟩ : ∃ u, u = np2 (stp l t) sg (p2 + 1) := ⟨_, rfl⟩
        rw [← hu2, ← hp4] at e5 e6
        rw [← hu2] at v2
        rw [← hp4] at b4
        have u2n := ne_m1 v2.1
        have l0 : Int32.toInt (0 : Int32) = 0 := by decide
        have l16 : Int32.toInt (16 : Int32) = 16 := by decide
        have l8 : Int32.toInt (8 : Int32) = 8 := by decide
        refine Or.inl ⟨u1, u2, p4, fun i x h hi => ?_, fun i x h hi => ?_, ?_, ?_, by omega, by omega⟩
        · rw [aHt, e1, if_neg u1n, e3, if_neg n10, e5, if_neg u2n, if_neg (fun c => by have := (aAd _ _).mp c; omega), if_neg (fun c => by have := (aAO _ _).mp c; omega), if_pos ((aAd _ _).mpr (by omega))]
        · rw [aHL, e1, if_neg u1n, e3, if_neg n10, e5, if_neg u2n, if_neg (fun c => by have := (aAd _ _).mp c; omega), if_neg (fun c => by have := (aAO _ _).mp c; omega), if_pos ((aAd _ _).mpr (by omega))]
        · rw [e2]
        · rw [e2]
          show aBD 2 1 l t (aD5 44 1 l t p2 (-1) tx ru).1 (aD5 44 1 l t p2 (-1) tx ru).2 tx ru = _
          rw [e4]
          show aBD 2 1 l t (p2 + 1) (-1) tx ru = _
          exact e6
    · have e3 := tk_n c2
      have e4 := need_n (ru := ru) hs c2
      refine Or.inr ⟨p2, 0, fun i x h => ?_, fun i x h => ?_, ?_, by omega, by omega⟩
      · rw [aHt, e1, if_neg u1n, e3, if_pos rfl]
      · rw [aHL, e1, if_neg u1n, e3, if_pos rfl]
      · rw [e2]
        show aBD 2 1 l t (aD5 44 1 l t p2 (-1) tx ru).1 (aD5 44 1 l t p2 (-1) tx ru).2 tx ru = _
        rw [e4]
        show aBD 2 1 l t p2 p2 tx ru = _
        exact num_w (ne_m1 (by omega))
theorem opt_rel {l t a : Int32} {sg tx ru : Nat → Int32} (hs : ∀ k : Nat, sg k = tx k &&& 255) (hl : l.toInt ≤ 80) (ha : 0 ≤ a.toInt ∧ a.toInt ≤ 100) (c : Int32) (hc : ¬ c = -1) :
    (aGm c a (stp l t) sg = (0, a) ∧ aH1 c 1 l t a (-1) tx ru = (0, a))
    ∨ (∃ v p : Int32, aGm c a (stp l t) sg = (1, a + 1) ∧ aH1 c 1 l t a (-1) tx ru = (1, a + 1) ∧ aCW 1 (a + 1) (stp l t) sg = (v, p) ∧ aBD 1 1 l t (a + 1) (-1) tx ru = (v, p, -1) ∧ ¬ v = -1 ∧ a.toInt < p.toInt ∧ p.toInt ≤ (stp l t).toInt)
    ∨ (aGm c a (stp l t) sg = (1, a + 1) ∧ aH1 c 1 l t a (-1) tx ru = (1, a + 1) ∧ aCW 1 (a + 1) (stp l t) sg = (-1, a + 1) ∧ aBD 1 1 l t (a + 1) (-1) tx ru = (0, a + 1, a + 1) ∧ (a + 1).toInt = a.toInt + 1 ∧ a.toInt < (stp l t).toInt) := by
  have hst := stp_r l t
  by_cases c1 : aE7 a (stp l t) sg = c
  · have b := hr_c c1 hc
    have b1 := p1_r (p := a) (st := (stp l t)) ha.1 (by omega) b
    have e1 := tk_y c1
    have e2 : aH1 c 1 l t a (-1) tx ru = (1, a + 1) := (pas_eq hs c).trans e1
    by_cases c2 : aC7 (a + 1) (stp l t) sg = -1
    · exact Or.inr (Or.inr ⟨e1, e2, c_no c2, m_no hs (by omega) (by decide) c2, b1, b⟩)
    · have b2 := dg_in c2
      have b3 := p1_r (p := a + 1) (st := (stp l t)) (by omega) (by omega) b2
      exact Or.inr (Or.inl ⟨_, _, e1, e2, c1_ok c2, m1_ok hs (by omega) c2, ne_m1 (dg_r c2).1, by omega, by omega⟩)
  · exact Or.inl ⟨tk_n c1, (pas_eq hs c).trans (tk_n c1)⟩
theorem upd_i (f : Nat → Int32) (i : Nat) (v : Int32) : upd f i v i = v := by unfold upd; rw [if_pos rfl]
theorem aGi (f : Nat → Int32) {i k : Nat} (v : Int32) (h : k ≠ i) : upd f i v k = f k := by unfold upd; rw [if_neg h]
theorem nm0 : ¬ (0 : Int32) = -1 := by decide
theorem nm1 : ¬ (1 : Int32) = -1 := by decide
theorem line_f {l t a cf cs nf ns fr sd : Int32} {sg tx ru x h w r f k nF nS : Nat → Int32} (hs : ∀ k : Nat, sg k = tx k &&& 255) (hl : l.toInt ≤ 80) (ha : 0 ≤ a.toInt ∧ a.toInt ≤ 100) (hf : fr + nf = cf) (hd : sd + ns = cs) (hcf : 0 ≤ cf.toInt) (hcs : 0 ≤ cs.toInt) (h1 : aE7 a (stp l t) sg = 102) (h2 : ¬ 16 ≤ cf) : (∃ v1 v2 v3 v4 q : Int32, aCs a (stp l t) sg cf cs x h w r f k = (1, q, cf + 1, cs, upd x cf.toNatClampNeg v1, upd h cf.toNatClampNeg v2, upd w cf.toNatClampNeg v3, upd r cf.toNatClampNeg v4, f, k) ∧ aGL fr sd 1 l t a (-1) nf ns tx nF nS ru = (q, -1, nf + 1, ns, upd (upd (upd (upd nF (4 * nf).toNatClampNeg v1) (4 * nf + 1).toNatClampNeg v2) (4 * nf + 2).toNatClampNeg v3) (4 * nf + 3).toNatClampNeg v4, nS) ∧ a.toInt < q.toInt ∧ q.toInt ≤ (stp l t).toInt ∧ 0 ≤ cf.toInt ∧ cf.toInt < 16) ∨ (∃ (q cf' cs' : Int32) (x' h' w' r' f' k' : Nat → Int32), aCs a (stp l t) sg cf cs x h w r f k = (0, q, cf', cs', x', h', w', r', f', k') ∧ ((aGL fr sd 1 l t a (-1) nf ns tx nF nS ru).1 = q ∧ (aGL fr sd 1 l t a (-1) nf ns tx nF nS ru).2.1 = q) ∧ a.toInt ≤ q.toInt ∧ q.toInt ≤ 101 ∧ (∀ j : Nat, j ≠ cf.toNatClampNeg → x' j = x j ∧ h' j = h j ∧ w' j = w j ∧ r' j = r j) ∧ (∀ j : Nat, j ≠ cs.toNatClampNeg → f' j = f j ∧ k' j = k j)) := by
  have l16 : Int32.toInt (16 : Int32) = 16 := by decide
  have hst := stp_r l t
  have d2 := mt (aAO _ _).mpr h2
  have b0 := hr_c h1 (by decide)
  have b1 := p1_r (p := a) (st := stp l t) ha.1 (by omega) b0
  rw [aCs, if_pos h1, if_neg h2, sk_in b0, aIU, aGL, hr_eq hs, if_pos h1, hf, if_neg h2]
  rcases pair_rel (t := t) (ru := ru) hs hl (show 0 ≤ (a + 1).toInt ∧ (a + 1).toInt ≤ 100 by omega) with ⟨v1, v2, p4, hc, _, hm1, hm2, g1, g2⟩ | ⟨q, g, hc, _, hm2, g1, g2⟩
  · have hc := hc cf x h (by omega)
    rcases opt_rel (t := t) (ru := ru) hs hl (show 0 ≤ p4.toInt ∧ p4.toInt ≤ 100 by omega) 42 (by decide) with ⟨o1, o2⟩ | ⟨v3, p6, o1, o2, o3, o4, o5, g3, g4⟩ | ⟨o1, o2, o3, o4, g3, g4⟩
    · skip
      rcases opt_rel (t := t) (ru := ru) hs hl (show 0 ≤ p4.toInt ∧ p4.toInt ≤ 100 by omega) 64 (by decide) with ⟨s1, s2⟩ | ⟨v4, p8, s1, s2, s3, s4, s5, g5, g6⟩ | ⟨s1, s2, s3, s4, g5, g6⟩
      · refine Or.inl ⟨v1, v2, 1, 0, p4, ?_, ?_, by omega, by omega, hcf, by omega⟩
        · simp only [↓reduceIte, hc, o1, o2, s1, n10, nm0, nm1, aUo, aRk, upd_i]
        · simp only [↓reduceIte, hc, o1, o2, s2, hm1, hm2, n10, aRi, aLp]
      · refine Or.inl ⟨v1, v2, 1, v4, p8, ?_, ?_, by omega, by omega, hcf, by omega⟩
        · simp only [↓reduceIte, hc, o1, o2, s1, s3, s5, n10, nm0, nm1, aUo, aRk, upd_i]
        · simp only [↓reduceIte, hc, o1, o2, s2, s4, hm1, hm2, n10, aRi, aLp]
      · refine Or.inr ⟨p4 + 1, cf, cs, upd x cf.toNatClampNeg v1, upd h cf.toNatClampNeg v2, upd w cf.toNatClampNeg 1, upd r cf.toNatClampNeg (-1), f, k, ?_, ?_, by omega, by omega, (fun j hj => ⟨aGi _ _ hj, aGi _ _ hj, aGi _ _ hj, aGi _ _ hj⟩), (fun j _ => ⟨rfl, rfl⟩)⟩
        · simp only [↓reduceIte, hc, o1, o2, s1, s3, n10, nm0, nm1, aUo, aRk, upd_i]
        · refine ⟨?_, ?_⟩ <;> simp only [↓reduceIte, hc, o1, o2, s2, s4, hm1, hm2, n10, aRi, aLp]
    · skip
      rcases opt_rel (t := t) (ru := ru) hs hl (show 0 ≤ p6.toInt ∧ p6.toInt ≤ 100 by omega) 64 (by decide) with ⟨s1, s2⟩ | ⟨v4, p8, s1, s2, s3, s4, s5, g5, g6⟩ | ⟨s1, s2, s3, s4, g5, g6⟩
      · refine Or.inl ⟨v1, v2, v3, 0, p6, ?_, ?_, by omega, by omega, hcf, by omega⟩
        · simp only [↓reduceIte, hc, o1, o2, o3, o4, o5, s1, n10, nm0, nm1, aUo, aRk, upd_i]
        · simp only [↓reduceIte, hc, o1, o2, o3, o4, o5, s2, hm1, hm2, n10, aRi, aLp]
      · refine Or.inl ⟨v1, v2, v3, v4, p8, ?_, ?_, by omega, by omega, hcf, by omega⟩
        · simp only [↓reduceIte, hc, o1, o2, o3, o4, o5, s1, s3, s5, n10, nm0, nm1, aUo, aRk, upd_i]
        · simp only [↓reduceIte, hc, o1, o2, o3, o4, o5, s2, s4, hm1, hm2, n10, aRi, aLp]
      · refine Or.inr ⟨p6 + 1, cf, cs, upd x cf.toNatClampNeg v1, upd h cf.toNatClampNeg v2, upd w cf.toNatClampNeg v3, upd r cf.toNatClampNeg (-1), f, k, ?_, ?_, by omega, by omega, (fun j hj => ⟨aGi _ _ hj, aGi _ _ hj, aGi _ _ hj, aGi _ _ hj⟩), (fun j _ => ⟨rfl, rfl⟩)⟩
        · simp only [↓reduceIte, hc, o1, o2, o3, o4, o5, s1, s3, n10, nm0, nm1, aUo, aRk, upd_i]
        · refine ⟨?_, ?_⟩ <;> simp only [↓reduceIte, hc, o1, o2, o3, o4, o5, s2, s4, hm1, hm2, n10, aRi, aLp]
    · have w1 : ¬ p4 + 1 = -1 := ne_m1 (by omega)
      refine Or.inr ⟨p4 + 1, cf, cs, upd x cf.toNatClampNeg v1, upd h cf.toNatClampNeg v2, upd w cf.toNatClampNeg (-1), r, f, k, ?_, ?_, by omega, by omega, (fun j hj => ⟨aGi _ _ hj, aGi _ _ hj, aGi _ _ hj, rfl⟩), (fun j _ => ⟨rfl, rfl⟩)⟩
      · simp only [↓reduceIte, hc, o1, o3, n10, aUo, upd_i]
      · refine ⟨?_, ?_⟩ <;> simp only [↓reduceIte, o2, o4, hm1, hm2, n10, aRi, aLp, pas_w w1]
  · have w1 : ¬ q = -1 := ne_m1 (by omega)
    have hc := hc cf x h
    refine Or.inr ⟨q, cf, cs, x, h, w, r, f, k, ?_, ?_, by omega, by omega, (fun j _ => ⟨rfl, rfl, rfl, rfl⟩), (fun j _ => ⟨rfl, rfl⟩)⟩
    · simp only [↓reduceIte, hc]
    · refine ⟨?_, ?_⟩ <;> simp only [↓reduceIte, hm2, n10, aRi, aLp, pas_w w1]
theorem line_s {l t a cf cs nf ns fr sd : Int32} {sg tx ru x h w r f k nF nS : Nat → Int32} (hs : ∀ k : Nat, sg k = tx k &&& 255) (hl : l.toInt ≤ 80) (ha : 0 ≤ a.toInt ∧ a.toInt ≤ 100) (hf : fr + nf = cf) (hd : sd + ns = cs) (hcf : 0 ≤ cf.toInt) (hcs : 0 ≤ cs.toInt) (h1 : aE7 a (stp l t) sg = 115) (h2 : ¬ 8 ≤ cs) (h3 : ¬ aE7 a (stp l t) sg = 102) : (∃ v1 v2 q : Int32, aCs a (stp l t) sg cf cs x h w r f k = (1, q, cf, cs + 1, x, h, w, r, upd f cs.toNatClampNeg v1, upd k cs.toNatClampNeg v2) ∧ aGL fr sd 1 l t a (-1) nf ns tx nF nS ru = (q, -1, nf, ns + 1, nF, upd (upd nS (2 * ns).toNatClampNeg v1) (2 * ns + 1).toNatClampNeg v2) ∧ a.toInt < q.toInt ∧ q.toInt ≤ (stp l t).toInt ∧ 0 ≤ cs.toInt ∧ cs.toInt < 8) ∨ (∃ (q cf' cs' : Int32) (x' h' w' r' f' k' : Nat → Int32), aCs a (stp l t) sg cf cs x h w r f k = (0, q, cf', cs', x', h', w', r', f', k') ∧ ((aGL fr sd 1 l t a (-1) nf ns tx nF nS ru).1 = q ∧ (aGL fr sd 1 l t a (-1) nf ns tx nF nS ru).2.1 = q) ∧ a.toInt ≤ q.toInt ∧ q.toInt ≤ 101 ∧ (∀ j : Nat, j ≠ cf.toNatClampNeg → x' j = x j ∧ h' j = h j ∧ w' j = w j ∧ r' j = r j) ∧ (∀ j : Nat, j ≠ cs.toNatClampNeg → f' j = f j ∧ k' j = k j)) := by
  have l8 : Int32.toInt (8 : Int32) = 8 := by decide
  have hst := stp_r l t
  have d2 := mt (aAO _ _).mpr h2
  have b0 := hr_c h1 (by decide)
  have b1 := p1_r (p := a) (st := stp l t) ha.1 (by omega) b0
  rw [aCs, if_neg h3, j_X3_readLine_28, if_pos h1, if_neg h2, sk_in b0, aJG, aGL, hr_eq hs, if_neg h3, bBh, hr_eq hs, if_pos h1, hd, if_neg h2]
  rcases pair_rel (t := t) (ru := ru) hs hl (show 0 ≤ (a + 1).toInt ∧ (a + 1).toInt ≤ 100 by omega) with ⟨v1, v2, p4, _, hc, hm1, hm2, g1, g2⟩ | ⟨q, g, _, hc, hm2, g1, g2⟩
  · have hc := hc cs f k (by omega)
    refine Or.inl ⟨v1, v2, p4, ?_, ?_, by omega, by omega, hcs, by omega⟩
    · simp only [↓reduceIte, hc, n10]
    · simp only [hm1, hm2]
  · have w1 : ¬ q = -1 := ne_m1 (by omega)
    have hc := hc cs f k
    refine Or.inr ⟨q, cf, cs, x, h, w, r, f, k, ?_, ?_, by omega, by omega, (fun j _ => ⟨rfl, rfl, rfl, rfl⟩), (fun j _ => ⟨rfl, rfl⟩)⟩
    · simp only [↓reduceIte, hc]
    · refine ⟨?_, ?_⟩ <;> simp only [hm2]
theorem line_rel {l t a cf cs nf ns fr sd : Int32} {sg tx ru x h w r f k nF nS : Nat → Int32} (hs : ∀ k : Nat, sg k = tx k &&& 255) (hl : l.toInt ≤ 80) (ha : 0 ≤ a.toInt ∧ a.toInt ≤ 100) (hf : fr + nf = cf) (hd : sd + ns = cs) (hcf : 0 ≤ cf.toInt) (hcs : 0 ≤ cs.toInt) : (∃ v1 v2 v3 v4 q : Int32, aCs a (stp l t) sg cf cs x h w r f k = (1, q, cf + 1, cs, upd x cf.toNatClampNeg v1, upd h cf.toNatClampNeg v2, upd w cf.toNatClampNeg v3, upd r cf.toNatClampNeg v4, f, k) ∧ aGL fr sd 1 l t a (-1) nf ns tx nF nS ru = (q, -1, nf + 1, ns, upd (upd (upd (upd nF (4 * nf).toNatClampNeg v1) (4 * nf + 1).toNatClampNeg v2) (4 * nf + 2).toNatClampNeg v3) (4 * nf + 3).toNatClampNeg v4, nS) ∧ a.toInt < q.toInt ∧ q.toInt ≤ (stp l t).toInt ∧ 0 ≤ cf.toInt ∧ cf.toInt < 16) ∨ (∃ v1 v2 q : Int32, aCs a (stp l t) sg cf cs x h w r f k = (1, q, cf, cs + 1, x, h, w, r, upd f cs.toNatClampNeg v1, upd k cs.toNatClampNeg v2) ∧ aGL fr sd 1 l t a (-1) nf ns tx nF nS ru = (q, -1, nf, ns + 1, nF, upd (upd nS (2 * ns).toNatClampNeg v1) (2 * ns + 1).toNatClampNeg v2) ∧ a.toInt < q.toInt ∧ q.toInt ≤ (stp l t).toInt ∧ 0 ≤ cs.toInt ∧ cs.toInt < 8) ∨ (∃ (q cf' cs' : Int32) (x' h' w' r' f' k' : Nat → Int32), aCs a (stp l t) sg cf cs x h w r f k = (0, q, cf', cs', x', h', w', r', f', k') ∧ ((aGL fr sd 1 l t a (-1) nf ns tx nF nS ru).1 = q ∧ (aGL fr sd 1 l t a (-1) nf ns tx nF nS ru).2.1 = q) ∧ a.toInt ≤ q.toInt ∧ q.toInt ≤ 101 ∧ (∀ j : Nat, j ≠ cf.toNatClampNeg → x' j = x j ∧ h' j = h j ∧ w' j = w j ∧ r' j = r j) ∧ (∀ j : Nat, j ≠ cs.toNatClampNeg → f' j = f j ∧ k' j = k j)) := by
  have wa := ne_m1 ha.1
  by_cases h1 : aE7 a (stp l t) sg = 102
  · by_cases h2 : 16 ≤ cf
    · refine Or.inr (Or.inr ⟨a, cf, cs, x, h, w, r, f, k, ?_, ?_, by omega, by omega, (fun j _ => ⟨rfl, rfl, rfl, rfl⟩), (fun j _ => ⟨rfl, rfl⟩)⟩)
      · rw [aCs, if_pos h1, if_pos h2, j_X3_readLine_28, if_neg (by rw [h1]; decide)]
      · rw [aGL, hr_eq hs, if_pos h1, hf, if_pos h2, bBh, hr_eq hs, if_neg (by rw [h1]; decide), aYZ, fault_m]; exact ⟨rfl, rfl⟩
    · rcases line_f hs hl ha hf hd hcf hcs h1 h2 with q | q
      · exact Or.inl q
      · exact Or.inr (Or.inr q)
  · by_cases h2 : aE7 a (stp l t) sg = 115
    · by_cases h3 : 8 ≤ cs
      · refine Or.inr (Or.inr ⟨a, cf, cs, x, h, w, r, f, k, ?_, ?_, by omega, by omega, (fun j _ => ⟨rfl, rfl, rfl, rfl⟩), (fun j _ => ⟨rfl, rfl⟩)⟩)
        · rw [aCs, if_neg h1, j_X3_readLine_28, if_pos h2, if_pos h3]
        · rw [aGL, hr_eq hs, if_neg h1, bBh, hr_eq hs, if_pos h2, hd, if_pos h3, aYZ, fault_m]; exact ⟨rfl, rfl⟩
      · rcases line_s hs hl ha hf hd hcf hcs h2 h3 h1 with q | q
        · exact Or.inr (Or.inl q)
        · exact Or.inr (Or.inr q)
    · refine Or.inr (Or.inr ⟨a, cf, cs, x, h, w, r, f, k, ?_, ?_, by omega, by omega, (fun j _ => ⟨rfl, rfl, rfl, rfl⟩), (fun j _ => ⟨rfl, rfl⟩)⟩)
      · rw [aCs, if_neg h1, j_X3_readLine_28, if_neg h2]
      · rw [aGL, hr_eq hs, if_neg h1, bBh, hr_eq hs, if_neg h2, aYZ, fault_m]; exact ⟨rfl, rfl⟩
